section
-- ===== PART A: goes FIRST, ahead of the names: the tables' words, and 'selects' of the private methods out of them =====
/-- a private method of a class that the tables say can be made, by its rows of tables_1 -/
def lw_okq (q : MethodName × Nat) : Prop := (q.1.cls ≠ "java/lang/invoke/MethodHandle" ∧ q.1.cls ≠ "java/lang/invoke/VarHandle") ∧ Cond.instantiable q.1.cls q.2 ∈ tables_1 ∧ Cond.privateMethod q.1 ∈ tables_1 ∧ Cond.instanceMethod q.1 ∈ tables_1
theorem lw_p0 : lw_okq (⟨"ForgivenWork", "countFitting", "(ILjava/lang/String;)I"⟩, 6) := ⟨⟨by decide +kernel, by decide +kernel⟩, List.mem_of_getElem? (i := 22) (by decide +kernel), List.mem_of_getElem? (i := 261) (by decide +kernel), List.mem_of_getElem? (i := 262) (by decide +kernel)⟩
theorem lw_p1 : lw_okq (⟨"ForgivenWork", "fits", "(CI)Z"⟩, 6) := ⟨⟨by decide +kernel, by decide +kernel⟩, List.mem_of_getElem? (i := 22) (by decide +kernel), List.mem_of_getElem? (i := 313) (by decide +kernel), List.mem_of_getElem? (i := 314) (by decide +kernel)⟩
theorem lw_p2 : lw_okq (⟨"ForgivenWork", "digitAt", "(I)I"⟩, 6) := ⟨⟨by decide +kernel, by decide +kernel⟩, List.mem_of_getElem? (i := 22) (by decide +kernel), List.mem_of_getElem? (i := 317) (by decide +kernel), List.mem_of_getElem? (i := 318) (by decide +kernel)⟩
theorem lw_p3 : lw_okq (⟨"ForgivenWork", "numberAt", "(I)I"⟩, 6) := ⟨⟨by decide +kernel, by decide +kernel⟩, List.mem_of_getElem? (i := 22) (by decide +kernel), List.mem_of_getElem? (i := 324) (by decide +kernel), List.mem_of_getElem? (i := 325) (by decide +kernel)⟩
theorem lw_p4 : lw_okq (⟨"java/lang/Throwable", "fillInStackTrace", "(I)Ljava/lang/Throwable;"⟩, 6) := ⟨⟨by decide +kernel, by decide +kernel⟩, List.mem_of_getElem? (i := 379) (by decide +kernel), List.mem_of_getElem? (i := 377) (by decide +kernel), List.mem_of_getElem? (i := 378) (by decide +kernel)⟩
theorem lw_p5 : lw_okq (⟨"ForgivenWork", "emptySlots", "()V"⟩, 6) := ⟨⟨by decide +kernel, by decide +kernel⟩, List.mem_of_getElem? (i := 22) (by decide +kernel), List.mem_of_getElem? (i := 459) (by decide +kernel), List.mem_of_getElem? (i := 460) (by decide +kernel)⟩
theorem lw_p6 : lw_okq (⟨"ForgivenWork", "obeyText", "(I)Z"⟩, 6) := ⟨⟨by decide +kernel, by decide +kernel⟩, List.mem_of_getElem? (i := 22) (by decide +kernel), List.mem_of_getElem? (i := 463) (by decide +kernel), List.mem_of_getElem? (i := 464) (by decide +kernel)⟩
theorem lw_p7 : lw_okq (⟨"ForgivenWork", "existingWorker", "(I)LForgivenWork$Worker;"⟩, 6) := ⟨⟨by decide +kernel, by decide +kernel⟩, List.mem_of_getElem? (i := 22) (by decide +kernel), List.mem_of_getElem? (i := 638) (by decide +kernel), List.mem_of_getElem? (i := 639) (by decide +kernel)⟩
theorem lw_p8 : lw_okq (⟨"ForgivenWork", "act", "(ILForgivenWork$Worker;II)I"⟩, 6) := ⟨⟨by decide +kernel, by decide +kernel⟩, List.mem_of_getElem? (i := 22) (by decide +kernel), List.mem_of_getElem? (i := 673) (by decide +kernel), List.mem_of_getElem? (i := 674) (by decide +kernel)⟩
theorem lw_p9 : lw_okq (⟨"ForgivenWork", "obeyGroup", "(I)Z"⟩, 6) := ⟨⟨by decide +kernel, by decide +kernel⟩, List.mem_of_getElem? (i := 22) (by decide +kernel), List.mem_of_getElem? (i := 834) (by decide +kernel), List.mem_of_getElem? (i := 835) (by decide +kernel)⟩
theorem lw_p10 : lw_okq (⟨"ForgivenWork", "isTrueOfWorker", "(IIII)Z"⟩, 6) := ⟨⟨by decide +kernel, by decide +kernel⟩, List.mem_of_getElem? (i := 22) (by decide +kernel), List.mem_of_getElem? (i := 838) (by decide +kernel), List.mem_of_getElem? (i := 839) (by decide +kernel)⟩
theorem lw_p11 : lw_okq (⟨"ForgivenWork", "simulateStep", "(I)V"⟩, 6) := ⟨⟨by decide +kernel, by decide +kernel⟩, List.mem_of_getElem? (i := 22) (by decide +kernel), List.mem_of_getElem? (i := 853) (by decide +kernel), List.mem_of_getElem? (i := 854) (by decide +kernel)⟩
theorem lw_p12 : lw_okq (⟨"ForgivenWorkModel", "refused", "(I)Z"⟩, 17) := ⟨⟨by decide +kernel, by decide +kernel⟩, List.mem_of_getElem? (i := 876) (by decide +kernel), List.mem_of_getElem? (i := 949) (by decide +kernel), List.mem_of_getElem? (i := 950) (by decide +kernel)⟩
theorem lw_p13 : lw_okq (⟨"ForgivenWorkModel", "readText", "()I"⟩, 17) := ⟨⟨by decide +kernel, by decide +kernel⟩, List.mem_of_getElem? (i := 876) (by decide +kernel), List.mem_of_getElem? (i := 961) (by decide +kernel), List.mem_of_getElem? (i := 962) (by decide +kernel)⟩
theorem lw_p14 : lw_okq (⟨"ForgivenWorkModel", "isNext", "(I)Z"⟩, 17) := ⟨⟨by decide +kernel, by decide +kernel⟩, List.mem_of_getElem? (i := 876) (by decide +kernel), List.mem_of_getElem? (i := 965) (by decide +kernel), List.mem_of_getElem? (i := 966) (by decide +kernel)⟩
theorem lw_p15 : lw_okq (⟨"ForgivenWorkModel", "accept", "(Z)V"⟩, 17) := ⟨⟨by decide +kernel, by decide +kernel⟩, List.mem_of_getElem? (i := 876) (by decide +kernel), List.mem_of_getElem? (i := 969) (by decide +kernel), List.mem_of_getElem? (i := 970) (by decide +kernel)⟩
def lw_privs_1 : List (MethodName × Nat) := [(⟨"ForgivenWork", "countFitting", "(ILjava/lang/String;)I"⟩, 6), (⟨"ForgivenWork", "fits", "(CI)Z"⟩, 6), (⟨"ForgivenWork", "digitAt", "(I)I"⟩, 6), (⟨"ForgivenWork", "numberAt", "(I)I"⟩, 6), (⟨"java/lang/Throwable", "fillInStackTrace", "(I)Ljava/lang/Throwable;"⟩, 6), (⟨"ForgivenWork", "emptySlots", "()V"⟩, 6), (⟨"ForgivenWork", "obeyText", "(I)Z"⟩, 6), (⟨"ForgivenWork", "existingWorker", "(I)LForgivenWork$Worker;"⟩, 6), (⟨"ForgivenWork", "act", "(ILForgivenWork$Worker;II)I"⟩, 6), (⟨"ForgivenWork", "obeyGroup", "(I)Z"⟩, 6), (⟨"ForgivenWork", "isTrueOfWorker", "(IIII)Z"⟩, 6), (⟨"ForgivenWork", "simulateStep", "(I)V"⟩, 6), (⟨"ForgivenWorkModel", "refused", "(I)Z"⟩, 17), (⟨"ForgivenWorkModel", "readText", "()I"⟩, 17), (⟨"ForgivenWorkModel", "isNext", "(I)Z"⟩, 17), (⟨"ForgivenWorkModel", "accept", "(Z)V"⟩, 17)]
theorem lw_r1 : ∀ q ∈ lw_privs_1, lw_okq q := List.forall_mem_cons.mpr ⟨lw_p0, List.forall_mem_cons.mpr ⟨lw_p1, List.forall_mem_cons.mpr ⟨lw_p2, List.forall_mem_cons.mpr ⟨lw_p3, List.forall_mem_cons.mpr ⟨lw_p4, List.forall_mem_cons.mpr ⟨lw_p5, List.forall_mem_cons.mpr ⟨lw_p6, List.forall_mem_cons.mpr ⟨lw_p7, List.forall_mem_cons.mpr ⟨lw_p8, List.forall_mem_cons.mpr ⟨lw_p9, List.forall_mem_cons.mpr ⟨lw_p10, List.forall_mem_cons.mpr ⟨lw_p11, List.forall_mem_cons.mpr ⟨lw_p12, List.forall_mem_cons.mpr ⟨lw_p13, List.forall_mem_cons.mpr ⟨lw_p14, List.forall_mem_cons.mpr ⟨lw_p15, fun _ h => absurd h List.not_mem_nil⟩⟩⟩⟩⟩⟩⟩⟩⟩⟩⟩⟩⟩⟩⟩⟩
theorem lw_p16 : lw_okq (⟨"ForgivenWorkModel", "readCommand", "()V"⟩, 17) := ⟨⟨by decide +kernel, by decide +kernel⟩, List.mem_of_getElem? (i := 876) (by decide +kernel), List.mem_of_getElem? (i := 973) (by decide +kernel), List.mem_of_getElem? (i := 974) (by decide +kernel)⟩
theorem lw_p17 : lw_okq (⟨"ForgivenWorkModel", "digit", "(II)I"⟩, 17) := ⟨⟨by decide +kernel, by decide +kernel⟩, List.mem_of_getElem? (i := 876) (by decide +kernel), List.mem_of_getElem? (i := 977) (by decide +kernel), List.mem_of_getElem? (i := 978) (by decide +kernel)⟩
theorem lw_p18 : lw_okq (⟨"ForgivenWorkModel", "readWrite", "(I)V"⟩, 17) := ⟨⟨by decide +kernel, by decide +kernel⟩, List.mem_of_getElem? (i := 876) (by decide +kernel), List.mem_of_getElem? (i := 982) (by decide +kernel), List.mem_of_getElem? (i := 983) (by decide +kernel)⟩
theorem lw_p19 : lw_okq (⟨"ForgivenWorkModel", "cellRead", "()I"⟩, 17) := ⟨⟨by decide +kernel, by decide +kernel⟩, List.mem_of_getElem? (i := 876) (by decide +kernel), List.mem_of_getElem? (i := 986) (by decide +kernel), List.mem_of_getElem? (i := 987) (by decide +kernel)⟩
theorem lw_p20 : lw_okq (⟨"ForgivenWorkModel", "twoRead", "(I)I"⟩, 17) := ⟨⟨by decide +kernel, by decide +kernel⟩, List.mem_of_getElem? (i := 876) (by decide +kernel), List.mem_of_getElem? (i := 990) (by decide +kernel), List.mem_of_getElem? (i := 991) (by decide +kernel)⟩
theorem lw_p21 : lw_okq (⟨"ForgivenWorkModel", "doIt", "(Z)V"⟩, 17) := ⟨⟨by decide +kernel, by decide +kernel⟩, List.mem_of_getElem? (i := 876) (by decide +kernel), List.mem_of_getElem? (i := 1012) (by decide +kernel), List.mem_of_getElem? (i := 1013) (by decide +kernel)⟩
theorem lw_p22 : lw_okq (⟨"ForgivenWorkModel", "readRegret", "(I)V"⟩, 17) := ⟨⟨by decide +kernel, by decide +kernel⟩, List.mem_of_getElem? (i := 876) (by decide +kernel), List.mem_of_getElem? (i := 1022) (by decide +kernel), List.mem_of_getElem? (i := 1023) (by decide +kernel)⟩
theorem lw_p23 : lw_okq (⟨"ForgivenWorkModel", "readBack", "(I)V"⟩, 17) := ⟨⟨by decide +kernel, by decide +kernel⟩, List.mem_of_getElem? (i := 876) (by decide +kernel), List.mem_of_getElem? (i := 1035) (by decide +kernel), List.mem_of_getElem? (i := 1036) (by decide +kernel)⟩
theorem lw_p24 : lw_okq (⟨"ForgivenWorkModel", "readBare", "(II)V"⟩, 17) := ⟨⟨by decide +kernel, by decide +kernel⟩, List.mem_of_getElem? (i := 876) (by decide +kernel), List.mem_of_getElem? (i := 1048) (by decide +kernel), List.mem_of_getElem? (i := 1049) (by decide +kernel)⟩
theorem lw_p25 : lw_okq (⟨"ForgivenWorkModel", "oldest", "(I)I"⟩, 17) := ⟨⟨by decide +kernel, by decide +kernel⟩, List.mem_of_getElem? (i := 876) (by decide +kernel), List.mem_of_getElem? (i := 1111) (by decide +kernel), List.mem_of_getElem? (i := 1112) (by decide +kernel)⟩
theorem lw_p26 : lw_okq (⟨"ForgivenWorkModel", "remember", "()V"⟩, 17) := ⟨⟨by decide +kernel, by decide +kernel⟩, List.mem_of_getElem? (i := 876) (by decide +kernel), List.mem_of_getElem? (i := 1136) (by decide +kernel), List.mem_of_getElem? (i := 1137) (by decide +kernel)⟩
theorem lw_p27 : lw_okq (⟨"ForgivenWorkModel", "layDown", "(I)V"⟩, 17) := ⟨⟨by decide +kernel, by decide +kernel⟩, List.mem_of_getElem? (i := 876) (by decide +kernel), List.mem_of_getElem? (i := 1140) (by decide +kernel), List.mem_of_getElem? (i := 1141) (by decide +kernel)⟩
theorem lw_p28 : lw_okq (⟨"ForgivenWorkModel", "takeUp", "(I)V"⟩, 17) := ⟨⟨by decide +kernel, by decide +kernel⟩, List.mem_of_getElem? (i := 876) (by decide +kernel), List.mem_of_getElem? (i := 1178) (by decide +kernel), List.mem_of_getElem? (i := 1179) (by decide +kernel)⟩
theorem lw_p29 : lw_okq (⟨"ForgivenWorkModel", "tryIt", "()V"⟩, 17) := ⟨⟨by decide +kernel, by decide +kernel⟩, List.mem_of_getElem? (i := 876) (by decide +kernel), List.mem_of_getElem? (i := 1190) (by decide +kernel), List.mem_of_getElem? (i := 1191) (by decide +kernel)⟩
theorem lw_p30 : lw_okq (⟨"ForgivenWorkModel", "other", "()I"⟩, 17) := ⟨⟨by decide +kernel, by decide +kernel⟩, List.mem_of_getElem? (i := 876) (by decide +kernel), List.mem_of_getElem? (i := 1198) (by decide +kernel), List.mem_of_getElem? (i := 1199) (by decide +kernel)⟩
theorem lw_p31 : lw_okq (⟨"ForgivenWorkModel", "does", "(I)Z"⟩, 17) := ⟨⟨by decide +kernel, by decide +kernel⟩, List.mem_of_getElem? (i := 876) (by decide +kernel), List.mem_of_getElem? (i := 1219) (by decide +kernel), List.mem_of_getElem? (i := 1220) (by decide +kernel)⟩
def lw_privs_2 : List (MethodName × Nat) := [(⟨"ForgivenWorkModel", "readCommand", "()V"⟩, 17), (⟨"ForgivenWorkModel", "digit", "(II)I"⟩, 17), (⟨"ForgivenWorkModel", "readWrite", "(I)V"⟩, 17), (⟨"ForgivenWorkModel", "cellRead", "()I"⟩, 17), (⟨"ForgivenWorkModel", "twoRead", "(I)I"⟩, 17), (⟨"ForgivenWorkModel", "doIt", "(Z)V"⟩, 17), (⟨"ForgivenWorkModel", "readRegret", "(I)V"⟩, 17), (⟨"ForgivenWorkModel", "readBack", "(I)V"⟩, 17), (⟨"ForgivenWorkModel", "readBare", "(II)V"⟩, 17), (⟨"ForgivenWorkModel", "oldest", "(I)I"⟩, 17), (⟨"ForgivenWorkModel", "remember", "()V"⟩, 17), (⟨"ForgivenWorkModel", "layDown", "(I)V"⟩, 17), (⟨"ForgivenWorkModel", "takeUp", "(I)V"⟩, 17), (⟨"ForgivenWorkModel", "tryIt", "()V"⟩, 17), (⟨"ForgivenWorkModel", "other", "()I"⟩, 17), (⟨"ForgivenWorkModel", "does", "(I)Z"⟩, 17)]
theorem lw_r2 : ∀ q ∈ lw_privs_2, lw_okq q := List.forall_mem_cons.mpr ⟨lw_p16, List.forall_mem_cons.mpr ⟨lw_p17, List.forall_mem_cons.mpr ⟨lw_p18, List.forall_mem_cons.mpr ⟨lw_p19, List.forall_mem_cons.mpr ⟨lw_p20, List.forall_mem_cons.mpr ⟨lw_p21, List.forall_mem_cons.mpr ⟨lw_p22, List.forall_mem_cons.mpr ⟨lw_p23, List.forall_mem_cons.mpr ⟨lw_p24, List.forall_mem_cons.mpr ⟨lw_p25, List.forall_mem_cons.mpr ⟨lw_p26, List.forall_mem_cons.mpr ⟨lw_p27, List.forall_mem_cons.mpr ⟨lw_p28, List.forall_mem_cons.mpr ⟨lw_p29, List.forall_mem_cons.mpr ⟨lw_p30, List.forall_mem_cons.mpr ⟨lw_p31, fun _ h => absurd h List.not_mem_nil⟩⟩⟩⟩⟩⟩⟩⟩⟩⟩⟩⟩⟩⟩⟩⟩
theorem lw_p32 : lw_okq (⟨"ForgivenWorkModel", "bare", "(II)Z"⟩, 17) := ⟨⟨by decide +kernel, by decide +kernel⟩, List.mem_of_getElem? (i := 876) (by decide +kernel), List.mem_of_getElem? (i := 1223) (by decide +kernel), List.mem_of_getElem? (i := 1224) (by decide +kernel)⟩
theorem lw_p33 : lw_okq (⟨"ForgivenWorkModel", "writes", "(III)Z"⟩, 17) := ⟨⟨by decide +kernel, by decide +kernel⟩, List.mem_of_getElem? (i := 876) (by decide +kernel), List.mem_of_getElem? (i := 1227) (by decide +kernel), List.mem_of_getElem? (i := 1228) (by decide +kernel)⟩
theorem lw_p34 : lw_okq (⟨"ForgivenWorkModel", "goesBack", "(II)Z"⟩, 17) := ⟨⟨by decide +kernel, by decide +kernel⟩, List.mem_of_getElem? (i := 876) (by decide +kernel), List.mem_of_getElem? (i := 1231) (by decide +kernel), List.mem_of_getElem? (i := 1232) (by decide +kernel)⟩
theorem lw_p35 : lw_okq (⟨"ForgivenWorkModel", "regrets", "(III)Z"⟩, 17) := ⟨⟨by decide +kernel, by decide +kernel⟩, List.mem_of_getElem? (i := 876) (by decide +kernel), List.mem_of_getElem? (i := 1235) (by decide +kernel), List.mem_of_getElem? (i := 1236) (by decide +kernel)⟩
theorem lw_p36 : lw_okq (⟨"ForgivenWorkModel", "stir", "(I)V"⟩, 17) := ⟨⟨by decide +kernel, by decide +kernel⟩, List.mem_of_getElem? (i := 876) (by decide +kernel), List.mem_of_getElem? (i := 1245) (by decide +kernel), List.mem_of_getElem? (i := 1246) (by decide +kernel)⟩
def lw_privs_3 : List (MethodName × Nat) := [(⟨"ForgivenWorkModel", "bare", "(II)Z"⟩, 17), (⟨"ForgivenWorkModel", "writes", "(III)Z"⟩, 17), (⟨"ForgivenWorkModel", "goesBack", "(II)Z"⟩, 17), (⟨"ForgivenWorkModel", "regrets", "(III)Z"⟩, 17), (⟨"ForgivenWorkModel", "stir", "(I)V"⟩, 17)]
theorem lw_r3 : ∀ q ∈ lw_privs_3, lw_okq q := List.forall_mem_cons.mpr ⟨lw_p32, List.forall_mem_cons.mpr ⟨lw_p33, List.forall_mem_cons.mpr ⟨lw_p34, List.forall_mem_cons.mpr ⟨lw_p35, List.forall_mem_cons.mpr ⟨lw_p36, fun _ h => absurd h List.not_mem_nil⟩⟩⟩⟩⟩
def lw_privs : List (MethodName × Nat) := lw_privs_1 ++ (lw_privs_2 ++ (lw_privs_3))
def lw_tbl : List Cond := k2_sels lw_privs ++ tables_1
theorem lw_privs_ok : ∀ q ∈ lw_privs, lw_okq q := by
  show ∀ q ∈ lw_privs_1 ++ (lw_privs_2 ++ (lw_privs_3)), lw_okq q
  exact List.forall_mem_append.mpr ⟨lw_r1, List.forall_mem_append.mpr ⟨lw_r2, lw_r3⟩⟩
-- ===== end of PART A; then your names; then what follows =====
/-! ===== BEGIN words of one list among another's, by their places ===== -/
theorem goodIn_r {big : List Cond} (ws : List Cond) (ps : List Nat) (hp : ws = ps.filterMap (fun i => big[i]?)) (h : ws.all goodWord = true) : GoodIn big ws := by
  intro w hw
  have h1 := List.all_eq_true.mp h w hw
  rw [hp] at hw
  obtain ⟨i, -, hi⟩ := List.mem_filterMap.mp hw
  have hm : w ∈ big := by first | exact List.mem_of_getElem? hi | exact List.getElem?_mem hi
  exact ⟨hm, good_of_word h1⟩
theorem goodIn_app {big a b : List Cond} (ha : GoodIn big a) (hb : GoodIn big b) : GoodIn big (a ++ b) := fun w h => (List.mem_append.mp h).elim (ha w) (hb w)
theorem goodIn_ca {big a b : List Cond} {c : Cond} (ha : GoodIn big (c :: a)) (hb : GoodIn big b) : GoodIn big (c :: (a ++ b)) := fun w h => (List.mem_cons.mp h).elim (fun e => ha w (List.mem_cons.mpr (Or.inl e))) (fun h => (List.mem_append.mp h).elim (fun h => ha w (List.mem_cons.mpr (Or.inr h))) (hb w))
theorem goodIn_sub {big ws : List Cond} (hm : ∀ w ∈ ws, w ∈ big) (h : ws.all goodWord = true) : GoodIn big ws := fun w hw => ⟨hm w hw, good_of_word (List.all_eq_true.mp h w hw)⟩
/-! ===== END ===== -/

/-! ===== BEGIN exceptions that leave a method, and their catching by the caller (launches without stack traces) ===== -/
section VXA
/-! The laws vx_back, vx_callV, vx_callS, vx_callSW, vx_throw0, vx_throwS follow proofs of the library, with one case more: JvmDerived/Free/Laws.lean (Back.of_free), Shelf42/LK1.lean (callV, callS), Shelf/KitTraced.lean (throwNew0V, throwNewS). -/
/-- where a method has thrown q: the class by its name, the cell, what was written, the world -/
def vx_T (XC : String → State → State → Prop) (st : State) (q : Addr) (t : State) (mc ms : Nat) (free : Addr → Prop) : Prop :=
  ∃ (E : String) (ce : Cell) (L : List Loc), XC E st t ∧ t.heap[q]? = some ce ∧ ce.vm = .none ∧ st.vm.findClass E = some ce.cls ∧ st.WarmedH t.vm ∧ st.sameButNew ({ t with vm := st.vm } : State) L mc ms ∧ ∀ z ∈ L, free z.base
def vx_Q (Qc : Array Value → State → Outcome → State → Prop) (XC : String → State → State → Prop) (mc ms : Nat) (free : Addr → Prop) : Array Value → State → Outcome → State → Prop := fun a st o t =>
  (Qc a st o t ∧ ∃ L, FrameEnd st o t L mc ms ∧ ∀ q ∈ L, free q.base) ∨ ∃ q, o = .threw q ∧ vx_T XC st q t mc ms free
/-- a callee that returns or throws -/
def vx_Met (l : Launch) (y : MethodName) (ws : List Cond) (rm : Room) (Pc : Array Value → State → Prop) (Qc : Array Value → State → Outcome → State → Prop) (XC : String → State → State → Prop) (mc ms : Nat) (free : Addr → Prop) : Prop :=
  MetFree l y (headSpec ws rm) Pc (fun _ _ _ _ _ => True) (vx_Q Qc XC mc ms free)
def vx_Post (XC : String → State → State → Prop) (mc ms : Nat) (free : Addr → Prop) : Pt → Array Value → Addr → Pt → Prop := fun A a q B =>
  ∃ (g : JFrame) (mk : MethodId) (t : State) (L : List Loc) (E : String) (ce : Cell), B.U.heap = t.heap ∧ B.U.vm = t.vm ∧ XC E (A.U.calling g mk a) t ∧ t.heap[q]? = some ce ∧ ce.vm = .none ∧ A.U.vm.findClass E = some ce.cls ∧ B.locs = A.locs ++ L ∧ (∀ z ∈ L, free z.base) ∧ B.cells = A.cells + mc ∧ B.slots = A.slots + ms
def vx_Back (l : Launch) (R : Room) (p : Program) (e : Env) (below : List Frame) (s : State) (sargs : Array Value) (y : MethodName) (len W9 : Nat)
    (Pre : Pt → Array Value → Prop) (Post : Pt → Array Value → Option Value → Pt → Prop) (PostX : Pt → Array Value → Addr → Pt → Prop) : Prop :=
  ∀ (m : MethodId) (meth : Method) (c : Code) (A : Pt) (g : JFrame) (ig : Instr) (mk : MethodId) (a : Array Value),
    Stand p l e R s m sargs below meth c A.U A.locs A.cells A.slots → g.method = m → g.locals.size = c.maxLocals → decode c.code g.pc = .ok (ig, len) →
    2 * g.monitorRoom + (g.stack.map fun v => v.category).sum ≤ W9 → A.U.methodNamed? y = some mk → Pre A a →
    (∃ (v : Option Value) (B : Pt), Stand p l e R s m sargs below meth c B.U B.locs B.cells B.slots ∧ Post A a v B ∧
      Steps p.tables e below (doInvoke e (A.U.setTop g) [] mk a).1 (B.U.setTop { g with pc := g.pc + len, stack := v.toList ++ g.stack })) ∨
    (∃ (q : Addr) (B : Pt), Stand p l e R s m sargs below meth c B.U B.locs B.cells B.slots ∧ PostX A a q B ∧
      Steps p.tables e below (doInvoke e (A.U.setTop g) [] mk a).1 ((B.U.setTop g).pushFrame (.throwing q)))
section Payer
variable {l : Launch} {R : Room} {p : Program} {e : Env} {below : List Frame} {s : State} {sargs : Array Value} {y : MethodName} {len W9 : Nat}
theorem vx_back {ws : List Cond} {rm : Room} {Pc : Array Value → State → Prop} {Qc : Array Value → State → Outcome → State → Prop} {XC : String → State → State → Prop} {mc ms : Nat} {free : Addr → Prop} {bytes : ByteArray} {maxL : Nat} {ret : Option FieldType}
    (hM : vx_Met l y ws rm Pc Qc XC mc ms free) (hblind : FrameBlind Pc) (hrc : rm.cells = mc) (hrs : rm.slots = ms)
    (hframes : rm.frames + 1 ≤ R.frames) (hlocals : W9 + (maxL + 11) + rm.locals ≤ R.locals)
    (hws : ∀ w ∈ ws, ∀ a' U, s.WarmedH U.vm → w.before a' U = true) (hcode : Cond.code y bytes maxL ret ∈ ws) (hinit : ∀ a' U, s.WarmedH U.vm → (Cond.initialized y.cls).before a' U = true) :
    vx_Back l R p e below s sargs y len W9 (PreOf R mc ms Pc) (PostOf Qc mc ms free) (vx_Post XC mc ms free) := by
  intro m meth c A g ig mk a X hg hsize hdg hW hn hp
  have h1 : (headSpec ws rm).pre.before a A.U = true := atoms_intro fun w hw => hws w hw _ _ X.warmed
  have h2 : (Cond.code y bytes maxL ret).before a A.U = true := hws _ hcode _ _ X.warmed
  have h3 : (Cond.initialized y.cls).before a A.U = true := hinit _ _ X.warmed
  have h4 : A.cells + (headSpec ws rm).room.cells ≤ R.cells := by rw [show (headSpec ws rm).room.cells = mc from hrc]; exact hp.1
  have h5 : A.slots + (headSpec ws rm).room.slots ≤ R.slots := by rw [show (headSpec ws rm).room.slots = ms from hrs]; exact hp.2.1
  have hPc : Pc a (A.U.calling g mk a) := hblind _ _ _ _ hp.2.2
  obtain ⟨U, Ls, c0, s0⟩ := A
  dsimp only [Pt.U, Pt.locs, Pt.cells, Pt.slots] at h1 h2 h3 h4 h5 X hn hPc ⊢
  obtain ⟨methY, cY, hmY, hcY, -, hlY, -, -, -, -⟩ := Cond.code_spec hn h2
  obtain ⟨kY, hkY, -⟩ := className_of_methodNamed hn
  have hinitY : kY.init = .initialized := Cond.initialized_spec (findClass_of_methodNamed hn) hkY h3
  have h : At U g.method c below := by rw [hg]; exact X.here
  have hlocals9 : W9 + (maxL + 11) + (headSpec ws rm).room.locals ≤ R.locals := hlocals
  have happ : (headSpec ws rm).appliesLoose y e.platform (U.calling g mk a) = true :=
    Spec.appliesLoose_calling (g := g) h hdg hn hkY hinitY
      (X.room_calling (g := g) (R' := (headSpec ws rm).room) hsize hmY hcY hframes (by rw [hlY]; omega) h4 h5) h1
  obtain ⟨mid, hmid⟩ := h.above
  have hfr : (U.setTop g).frames = (.java g :: mid) ++ below := by rw [State.frames_setTop' g h.top, hmid]; rfl
  obtain ⟨o, s₂, hsteps, -, hend, hq⟩ := Steps.callFree hM p X.admits X.cas X.clock (acts := []) hfr happ hPc trivial
  have hq' : vx_Q Qc XC mc ms free a (U.calling g mk a) o s₂ := hq
  rw [State.frames_setTop' g h.top] at hend
  obtain ⟨g₀, hg0⟩ := Option.isSome_iff_exists.mp h.top
  obtain ⟨r, hr⟩ := State.topJava?_eq_some.mp hg0
  have hr' : (({ U with heap := s₂.heap, slotsUsed := s₂.slotsUsed } : State).setVm s₂.vm).frames = .java g₀ :: r := hr
  rcases hq' with ⟨hqc, L, hfe, hL⟩ | ⟨q, rfl, E, ce, L, hx, hce, hcv, hcl, hW₂, hsm, hL⟩
  · obtain ⟨⟨v, rfl⟩, hW₂, e2, q2, q3, q4, q5, q6⟩ := id hfe
    have e3 : s₂ = ({ (U.calling g mk a).setFrames s₂.frames with heap := s₂.heap, slotsUsed := s₂.slotsUsed } : State).setVm s₂.vm := by
      have : s₂ = ({ s₂ with vm := (U.calling g mk a).vm } : State).setVm s₂.vm := rfl
      rw [e2] at this
      exact this
    obtain ⟨c₂, i₂, len₂, hc₂, hd₂, hf₂⟩ := hend
    have hW' : U.WarmedH s₂.vm := hW₂
    have hcc : c₂ = c := by
      have h1 : s₂.code? g.method = U.code? g.method := by
        rw [State.code?_eq, State.code?_eq, hW'.alike.method?]
      exact Option.some.inj (hc₂.symm.trans (h1.trans h.code))
    subst hcc
    have hlen : len₂ = len := by rw [hdg] at hd₂; cases hd₂; rfl
    subst hlen
    have hs₂ : s₂ = (({ U with heap := s₂.heap, slotsUsed := s₂.slotsUsed } : State).setVm s₂.vm).setTop { g with pc := g.pc + len₂, stack := v.toList ++ g.stack } := by
      refine e3.trans ?_
      rw [hf₂, State.calling_eq h.top, State.setFrames_setFrames, State.setTop_of_frames _ hr', hr]
      rfl
    have hsame : U.sameButNew ({ U with heap := s₂.heap, slotsUsed := s₂.slotsUsed } : State) L mc ms := by
      refine ⟨?_, q2, q3, q4, q5, q6⟩
      obtain ⟨t, ht, -⟩ := State.frames_cons hr
      show ({ U with heap := s₂.heap, slotsUsed := s₂.slotsUsed } : State) = { U.setFrames U.frames with heap := s₂.heap, slotsUsed := s₂.slotsUsed }
      rw [State.setFrames_self ht]
    subst hg
    refine Or.inl ⟨v, ⟨(({ U with heap := s₂.heap, slotsUsed := s₂.slotsUsed } : State).setVm s₂.vm), Ls ++ L, c0 + mc, s0 + ms⟩,
      ⟨X.admits, X.cas, X.clock, X.frames, X.room, X.hears, X.method, X.code, (X.here.setHeapUsed s₂.heap s₂.slotsUsed).setVm hW'.alike, X.tail, State.WarmedH.trans X.warmed hW', X.limits, X.bytes, X.same.trans (hsame.setVm s.vm)⟩,
      ⟨g, mk, s₂, L, rfl, rfl, hqc, rfl, hL, rfl, rfl⟩, ?_⟩
    show Steps p.tables e below _ ((({ U with heap := s₂.heap, slotsUsed := s₂.slotsUsed } : State).setVm s₂.vm).setTop { g with pc := g.pc + len₂, stack := v.toList ++ g.stack })
    rw [← hs₂]
    exact hsteps
  · obtain ⟨e2, q2, q3, q4, q5, q6⟩ := id hsm
    have e3 : s₂ = ({ (U.calling g mk a).setFrames s₂.frames with heap := s₂.heap, slotsUsed := s₂.slotsUsed } : State).setVm s₂.vm := by
      have : s₂ = ({ s₂ with vm := (U.calling g mk a).vm } : State).setVm s₂.vm := rfl
      rw [e2] at this
      exact this
    have hf₂ : s₂.frames = .throwing q :: .java g :: U.frames.tail := hend
    have hW' : U.WarmedH s₂.vm := hW₂
    have hs₂ : s₂ = ((({ U with heap := s₂.heap, slotsUsed := s₂.slotsUsed } : State).setVm s₂.vm).setTop g).pushFrame (.throwing q) := by
      refine e3.trans ?_
      rw [hf₂, State.calling_eq h.top, State.setFrames_setFrames, State.pushFrame, State.frames_setTop _ hr', State.setTop_of_frames _ hr', State.setFrames_setFrames, hr]
      rfl
    have hsame : U.sameButNew ({ U with heap := s₂.heap, slotsUsed := s₂.slotsUsed } : State) L mc ms := by
      refine ⟨?_, q2, q3, q4, q5, q6⟩
      obtain ⟨t, ht, -⟩ := State.frames_cons hr
      show ({ U with heap := s₂.heap, slotsUsed := s₂.slotsUsed } : State) = { U.setFrames U.frames with heap := s₂.heap, slotsUsed := s₂.slotsUsed }
      rw [State.setFrames_self ht]
    subst hg
    refine Or.inr ⟨q, ⟨(({ U with heap := s₂.heap, slotsUsed := s₂.slotsUsed } : State).setVm s₂.vm), Ls ++ L, c0 + mc, s0 + ms⟩,
      ⟨X.admits, X.cas, X.clock, X.frames, X.room, X.hears, X.method, X.code, (X.here.setHeapUsed s₂.heap s₂.slotsUsed).setVm hW'.alike, X.tail, State.WarmedH.trans X.warmed hW', X.limits, X.bytes, X.same.trans (hsame.setVm s.vm)⟩,
      ⟨g, mk, s₂, L, E, ce, rfl, rfl, hx, hce, hcv, hcl, rfl, hL, rfl, rfl⟩, ?_⟩
    show Steps p.tables e below _ (((({ U with heap := s₂.heap, slotsUsed := s₂.slotsUsed } : State).setVm s₂.vm).setTop g).pushFrame (.throwing q))
    rw [← hs₂]
    exact hsteps
end Payer
section Calls
variable {p : Program} {l : Launch} {e : Env} {R : Room} {s : State} {m : MethodId} {args : Array Value} {below : List Frame} {meth : Method} {c : Code} {T : State} {locs : List Loc} {cells slots : Nat}
theorem vx_callV (X : Stand p l e R s m args below meth c T locs cells slots) (hexec : p.tables.exec = Jvm.exec) {own C : String} {index : Nat} {y : MethodName} {bytes : ByteArray} {maxL : Nat} {ret : Option FieldType}
    (hown : s.vm.findClass own = some m.cls) (hlink : (Cond.methodLink own index y).before args s = true) (hinst : (Cond.instanceMethod y).before args s = true) (hsel : (Cond.selects C y y).before args s = true)
    (hcode : (Cond.code y bytes maxL ret).before args s = true) (hy : y.cls ≠ "java/lang/invoke/MethodHandle" ∧ y.cls ≠ "java/lang/invoke/VarHandle")
    {W9 : Nat} {Pre : Pt → Array Value → Prop} {Post : Pt → Array Value → Option Value → Pt → Prop} {PostX : Pt → Array Value → Addr → Pt → Prop} (hK : vx_Back l R p e below s args y 3 W9 Pre Post PostX)
    {b : Addr} {cellB : Cell} (hcell : T.heap[b]? = some cellB) (hobj : cellB.vm.isStatics = false) (hcls : s.vm.findClass C = some cellB.cls)
    {g : JFrame} (hg : g.method = m) (hsize : g.locals.size = c.maxLocals) {argsL rest : List Value} (hlen : ∀ sig, parseMethodDescriptor y.desc = some sig → argsL.length = sig.parameters.length)
    (hstack : g.stack = argsL.reverse ++ .ref b :: rest) (hW : 2 * g.monitorRoom + (rest.map fun v => v.category).sum ≤ W9) (hdg : decode c.code g.pc = .ok (.invokevirtual index, 3))
    (hpre : ∀ vm₁, s.WarmedH vm₁ → Pre ⟨T.setVm vm₁, locs, cells, slots⟩ (Value.ref b :: argsL).toArray) :
    (∃ (v : Option Value) (vm₁ : Vm) (B : Pt), s.WarmedH vm₁ ∧ Stand p l e R s m args below meth c B.U B.locs B.cells B.slots ∧ Post ⟨T.setVm vm₁, locs, cells, slots⟩ (Value.ref b :: argsL).toArray v B ∧
      ∀ target, Steps p.tables e below (B.U.setTop { g with pc := g.pc + 3, stack := v.toList ++ rest }) target → Steps p.tables e below (T.setTop g) target) ∨
    (∃ (q : Addr) (vm₁ : Vm) (B : Pt), s.WarmedH vm₁ ∧ Stand p l e R s m args below meth c B.U B.locs B.cells B.slots ∧ PostX ⟨T.setVm vm₁, locs, cells, slots⟩ (Value.ref b :: argsL).toArray q B ∧
      Steps p.tables e below (T.setTop g) ((B.U.setTop { g with stack := rest }).pushFrame (.throwing q))) := by
  obtain ⟨mk, methM, hnamed, hmethM, hstM, habM⟩ := Cond.instanceMethod_spec hinst
  obtain ⟨methM', cM, hmethM', -, -, -, -, -, -, hsigM⟩ := Cond.code_spec hnamed hcode
  cases hmethM.symm.trans hmethM'
  obtain ⟨c2, r2, m2, q1, q2, q3, q4, kP, hkP, hkPi⟩ := Cond.selects_spec hsel
  cases hcls.symm.trans q1
  cases (State.methodFound?_of_named hnamed hy).symm.trans q2
  cases hnamed.symm.trans q3
  have hselP : selectMethod e.platform s.vm cellB.cls mk = .method mk := by rw [Launch.admits_selectMethod X.admits]; exact q4
  obtain ⟨vm₁, X₁, hstep₁⟩ := X.invokevirtual hexec hown hlink hnamed hmethM hstM hkP hkPi hy (a := b) (cell := cellB) hcell
    (fun z h => by rw [h] at hobj; cases hobj) hselP hmethM habM hkP hkPi (g := g) hg (argsL := argsL) (rest := rest) (hlen _ hsigM) hstack hdg
  rcases hK m meth c ⟨T.setVm vm₁, locs, cells, slots⟩ { g with stack := rest } (.invokevirtual index) mk (Value.ref b :: argsL).toArray X₁ hg hsize hdg hW (X₁.named hnamed) (hpre vm₁ X₁.warmed) with ⟨v, B, X', hpost, hsteps⟩ | ⟨q, B, X', hpost, hsteps⟩
  · exact Or.inl ⟨v, vm₁, B, X₁.warmed, X', hpost, fun target h => hstep₁ _ fun acts => by rw [doInvoke_state]; exact hsteps.trans h⟩
  · exact Or.inr ⟨q, vm₁, B, X₁.warmed, X', hpost, hstep₁ _ fun acts => by rw [doInvoke_state]; exact hsteps⟩
theorem vx_callS (X : Stand p l e R s m args below meth c T locs cells slots) (hexec : p.tables.exec = Jvm.exec) {own : String} {index : Nat} {y : MethodName} {bytes : ByteArray} {maxL : Nat} {ret : Option FieldType}
    (hown : s.vm.findClass own = some m.cls) (hlink : (Cond.methodLink own index y).before args s = true) (hstat : (Cond.static y).before args s = true) (hinit : (Cond.initialized y.cls).before args s = true)
    (hcode : (Cond.code y bytes maxL ret).before args s = true) (hy : y.cls ≠ "java/lang/invoke/MethodHandle" ∧ y.cls ≠ "java/lang/invoke/VarHandle")
    {W9 : Nat} {Pre : Pt → Array Value → Prop} {Post : Pt → Array Value → Option Value → Pt → Prop} {PostX : Pt → Array Value → Addr → Pt → Prop} (hK : vx_Back l R p e below s args y 3 W9 Pre Post PostX)
    {g : JFrame} (hg : g.method = m) (hsize : g.locals.size = c.maxLocals) {argsL rest : List Value} (hlen : ∀ sig, parseMethodDescriptor y.desc = some sig → argsL.length = sig.parameters.length)
    (hstack : g.stack = argsL.reverse ++ rest) (hW : 2 * g.monitorRoom + (rest.map fun v => v.category).sum ≤ W9) (hdg : decode c.code g.pc = .ok (.invokestatic index, 3))
    (hpre : ∀ vm₁, s.WarmedH vm₁ → Pre ⟨T.setVm vm₁, locs, cells, slots⟩ argsL.toArray) :
    (∃ (v : Option Value) (vm₁ : Vm) (B : Pt), s.WarmedH vm₁ ∧ Stand p l e R s m args below meth c B.U B.locs B.cells B.slots ∧ Post ⟨T.setVm vm₁, locs, cells, slots⟩ argsL.toArray v B ∧
      ∀ target, Steps p.tables e below (B.U.setTop { g with pc := g.pc + 3, stack := v.toList ++ rest }) target → Steps p.tables e below (T.setTop g) target) ∨
    (∃ (q : Addr) (vm₁ : Vm) (B : Pt), s.WarmedH vm₁ ∧ Stand p l e R s m args below meth c B.U B.locs B.cells B.slots ∧ PostX ⟨T.setVm vm₁, locs, cells, slots⟩ argsL.toArray q B ∧
      Steps p.tables e below (T.setTop g) ((B.U.setTop { g with stack := rest }).pushFrame (.throwing q))) := by
  obtain ⟨mk, hnamed⟩ := Cond.code_named hcode
  obtain ⟨methM, cM, hmethM, -, -, -, -, -, -, hsigM⟩ := Cond.code_spec hnamed hcode
  have hstatic : methM.isStatic = true := Cond.static_spec hnamed hmethM hstat
  obtain ⟨kP, hkP, -⟩ := className_of_methodNamed hnamed
  have hinitP : kP.init = .initialized := Cond.initialized_spec (findClass_of_methodNamed hnamed) hkP hinit
  obtain ⟨vm₁, X₁, hstep₁⟩ := X.invokestatic hexec hown hlink hnamed hmethM hstatic hkP hinitP hy (g := g) hg (argsL := argsL) (rest := rest) (hlen _ hsigM) hstack hdg
  rcases hK m meth c ⟨T.setVm vm₁, locs, cells, slots⟩ { g with stack := rest } (.invokestatic index) mk argsL.toArray X₁ hg hsize hdg hW (X₁.named hnamed) (hpre vm₁ X₁.warmed) with ⟨v, B, X', hpost, hsteps⟩ | ⟨q, B, X', hpost, hsteps⟩
  · exact Or.inl ⟨v, vm₁, B, X₁.warmed, X', hpost, fun target h => hstep₁ _ fun acts => by rw [doInvoke_state]; exact hsteps.trans h⟩
  · exact Or.inr ⟨q, vm₁, B, X₁.warmed, X', hpost, hstep₁ _ fun acts => by rw [doInvoke_state]; exact hsteps⟩
end Calls
theorem vx_cls {s : State} {T : State} {vm₁ : Vm} {E : String} {k : ClassId} (hW : s.WarmedH vm₁) (h : (T.setVm vm₁).vm.findClass E = some k) : s.vm.findClass E = some k := by
  have h1 : vm₁.findClass E = some k := h
  rw [hW.alike.findClass] at h1
  exact h1
/-- the method's frame g, with q thrown over it -/
def vx_W (p : Program) (l : Launch) (e : Env) (R : Room) (s : State) (m : MethodId) (args : Array Value) (below : List Frame) (meth : Method) (c : Code) (H : Heap) (locs : List Loc) (cells slots : Nat) (Q : State → Prop) (g : JFrame) (q : Addr) : Prop :=
  ∀ T : State, T.heap = H → Stand p l e R s m args below meth c T locs cells slots → ∃ t, Steps p.tables e below ((T.setTop g).pushFrame (.throwing q)) t ∧ Q t
def vx_Run (p : Program) (l : Launch) (e : Env) (R : Room) (s : State) (m : MethodId) (args : Array Value) (below : List Frame) (meth : Method) (c : Code) (H : Heap) (locs : List Loc) (cells slots mc ms : Nat) (g : JFrame) (rest : List Value) (Qa : State → Outcome → State → Prop) (XC : String → State → State → Prop) (free : Addr → Prop) : Prop :=
  ∀ T : State, T.heap = H → Stand p l e R s m args below meth c T locs cells slots →
    (∃ (v : Option Value) (st₀ t T' : State) (L : List Loc), st₀.heap = H ∧ Stand p l e R s m args below meth c T' (locs ++ L) (cells + mc) (slots + ms) ∧ (∀ q ∈ L, free q.base) ∧ T'.heap = t.heap ∧ T'.vm = t.vm ∧ Qa st₀ (.returned v) t ∧
      Goes p e below T g T' { g with pc := g.pc + 3, stack := v.toList ++ rest }) ∨
    (∃ (q : Addr) (st₀ t T' : State) (L : List Loc) (E : String) (ce : Cell), st₀.heap = H ∧ Stand p l e R s m args below meth c T' (locs ++ L) (cells + mc) (slots + ms) ∧ (∀ z ∈ L, free z.base) ∧ T'.heap = t.heap ∧ T'.vm = t.vm ∧ XC E st₀ t ∧ t.heap[q]? = some ce ∧ ce.vm = .none ∧ s.vm.findClass E = some ce.cls ∧
      Steps p.tables e below (T.setTop g) ((T'.setTop { g with stack := rest }).pushFrame (.throwing q)))
def vx_X {S : Type} (px : S → Prop) (B : String → S → State → Prop) (A : Nat → Prop) : String → State → State → Prop := fun E st t => ∃ u : S, px u ∧ B E u t ∧ va_F A st t
section Runs
variable {p : Program} {l : Launch} {e : Env} {R : Room} {s : State} {m : MethodId} {args : Array Value} {below : List Frame} {meth : Method} {c : Code} {H : Heap} {locs : List Loc} {cells slots : Nat}
variable {y : MethodName} {bytes cc : ByteArray} {maxL nL mc ms n index : Nat} {ret : Option FieldType} {ws : List Cond} {rm : Room} {Pc : Array Value → State → Prop} {Qc : Array Value → State → Outcome → State → Prop} {XC : String → State → State → Prop} {free : Addr → Prop} {Ts : List Cond} {own C : String} {b : Addr} {As rest : List Value} {g : JFrame}
theorem vx_callBack (cb : CallB R s args own index y bytes maxL ret ws rm mc ms n) (hM : vx_Met l y ws rm Pc Qc XC mc ms free) (hbl : FrameBlind Pc) : vx_Back l R p e below s args y 3 8 (PreOf R mc ms Pc) (PostOf Qc mc ms free) (vx_Post XC mc ms free) := by
  obtain ⟨hrc, hrs, hfr, hlo, hws, hcw, -, hini, -⟩ := cb
  exact vx_back (bytes := bytes) (maxL := maxL) (ret := ret) hM hbl hrc hrs hfr hlo hws hcw (fun a' U hW => word_at hW (Or.inl (by first | rfl | simp [Cond.onTables, Cond.keeps, Cond.steady])) hini)
theorem vx_runV (S : CallFix p m c cc nL s args Ts own) (hM : vx_Met l y ws rm Pc Qc XC mc ms free) (cw : CallW R s args own C index y bytes maxL ret ws rm mc ms n) (hp : PreV s H C b Pc As)
    (hg : g.method = m) (hn : As.length = n) (hsize : g.locals.size = nL) (hstack : g.stack = As.reverse ++ .ref b :: rest) (hW : 2 * g.monitorRoom + (rest.map fun v => v.category).sum ≤ 8) (hdg : decode cc g.pc = .ok (.invokevirtual index, 3)) (hf : cells + mc ≤ R.cells ∧ slots + ms ≤ R.slots) :
    vx_Run p l e R s m args below meth c H locs cells slots mc ms g rest (Qc (Value.ref b :: As).toArray) XC free := by
  have hK : vx_Back l R p e below s args y 3 8 (PreOf R mc ms Pc) (PostOf Qc mc ms free) (vx_Post XC mc ms free) := vx_callBack cw.1 hM hp.1
  obtain ⟨⟨-, -, -, -, -, -, hcode, -, hy, hlen, hl⟩, hin, hse⟩ := cw
  obtain ⟨hx, hb, hml, ho, -⟩ := S
  obtain ⟨-, ⟨cellB, hcB, hoB, hclB⟩, hPc⟩ := hp
  intro T hT X
  rcases vx_callV X hx (C := C) (bytes := bytes) (maxL := maxL) (ret := ret) ho hl hin hse hcode hy hK (by rw [hT]; exact hcB) hoB hclB hg (hsize.trans hml.symm) (argsL := As) (rest := rest) (fun sig h => hn.trans (hlen sig h)) hstack hW (by rw [hb]; exact hdg)
    (fun vm₁ hW₁ => ⟨hf.1, hf.2, hPc (T.setVm vm₁) hT hW₁⟩) with ⟨v, vm₁, ⟨U', l2, c2, s2⟩, hW₁, X', ⟨g', mk, t, L, e1, e2, hq, h1, hL, h2, h3⟩, st⟩ | ⟨q, vm₁, ⟨U', l2, c2, s2⟩, hW₁, X', ⟨g', mk, t, L, E, ce, e1, e2, hq, hce, hcv, hcl, h1, hL, h2, h3⟩, st⟩
  · dsimp only [Pt.U, Pt.locs, Pt.cells, Pt.slots] at X' e1 e2 h1 h2 h3 st
    subst h1; subst h2; subst h3
    exact Or.inl ⟨v, (T.setVm vm₁).calling g' mk (Value.ref b :: As).toArray, t, U', L, hT, X', hL, e1, e2, hq, st⟩
  · dsimp only [Pt.U, Pt.locs, Pt.cells, Pt.slots] at X' e1 e2 h1 h2 h3 st hcl
    subst h1; subst h2; subst h3
    exact Or.inr ⟨q, (T.setVm vm₁).calling g' mk (Value.ref b :: As).toArray, t, U', L, E, ce, hT, X', hL, e1, e2, hq, hce, hcv, vx_cls hW₁ hcl, st⟩
theorem vx_runS (S : CallFix p m c cc nL s args Ts own) (hM : vx_Met l y ws rm Pc Qc XC mc ms free) (cw : CallB R s args own index y bytes maxL ret ws rm mc ms n ∧ (Cond.static y).before args s = true) (hp : PreS s H Pc As)
    (hg : g.method = m) (hn : As.length = n) (hsize : g.locals.size = nL) (hstack : g.stack = As.reverse ++ rest) (hW : 2 * g.monitorRoom + (rest.map fun v => v.category).sum ≤ 8) (hdg : decode cc g.pc = .ok (.invokestatic index, 3)) (hf : cells + mc ≤ R.cells ∧ slots + ms ≤ R.slots) :
    vx_Run p l e R s m args below meth c H locs cells slots mc ms g rest (Qc As.toArray) XC free := by
  have hK : vx_Back l R p e below s args y 3 8 (PreOf R mc ms Pc) (PostOf Qc mc ms free) (vx_Post XC mc ms free) := vx_callBack cw.1 hM hp.1
  obtain ⟨⟨-, -, -, -, -, -, hcode, hini, hy, hlen, hl⟩, hstt⟩ := cw
  obtain ⟨hx, hb, hml, ho, -⟩ := S
  intro T hT X
  rcases vx_callS X hx (bytes := bytes) (maxL := maxL) (ret := ret) ho hl hstt hini hcode hy hK hg (hsize.trans hml.symm) (argsL := As) (rest := rest) (fun sig h => hn.trans (hlen sig h)) hstack hW (by rw [hb]; exact hdg)
    (fun vm₁ hW₁ => ⟨hf.1, hf.2, hp.2 (T.setVm vm₁) hT hW₁⟩) with ⟨v, vm₁, ⟨U', l2, c2, s2⟩, hW₁, X', ⟨g', mk, t, L, e1, e2, hq, h1, hL, h2, h3⟩, st⟩ | ⟨q, vm₁, ⟨U', l2, c2, s2⟩, hW₁, X', ⟨g', mk, t, L, E, ce, e1, e2, hq, hce, hcv, hcl, h1, hL, h2, h3⟩, st⟩
  · dsimp only [Pt.U, Pt.locs, Pt.cells, Pt.slots] at X' e1 e2 h1 h2 h3 st
    subst h1; subst h2; subst h3
    exact Or.inl ⟨v, (T.setVm vm₁).calling g' mk As.toArray, t, U', L, hT, X', hL, e1, e2, hq, st⟩
  · dsimp only [Pt.U, Pt.locs, Pt.cells, Pt.slots] at X' e1 e2 h1 h2 h3 st hcl
    subst h1; subst h2; subst h3
    exact Or.inr ⟨q, (T.setVm vm₁).calling g' mk As.toArray, t, U', L, E, ce, hT, X', hL, e1, e2, hq, hce, hcv, vx_cls hW₁ hcl, st⟩
end Runs
section Rows
variable {p : Program} {l : Launch} {e : Env} {R : Room} {s : State} {m : MethodId} {args : Array Value} {below : List Frame} {meth : Method} {c : Code} {H : Heap} {locs : List Loc} {cells slots : Nat} {Q : State → Prop}
variable {mc ms : Nat} {free : Addr → Prop} {A0 A1 : Nat → Prop} {H0 : Heap} {a : Array Value} {pc : Nat} {ls : Array Slot} {st0 rest : List Value}
theorem vx_keep {st₀ t T' : State} {L : List Loc} (h0 : st₀.heap = H) (e1 : T'.heap = t.heap) (hS : va_S A0 H0 H locs) (hA : ∀ q, q < H.size → A1 q → A0 q) (hf : ∀ q, free q → A0 q) (hL : ∀ q ∈ L, free q.base) (hF : va_F A1 st₀ t) :
    H.size ≤ T'.heap.size ∧ (∀ q : Nat, q < H.size → ¬ A1 q → T'.heap[q]? = H[q]?) ∧ va_S A0 H0 T'.heap (locs ++ L) := by
  obtain ⟨hz, hk⟩ := hF
  rw [h0] at hz hk
  exact ⟨by rw [e1]; exact hz, fun q h1 h2 => by rw [e1]; exact hk q h1 h2,
    ⟨Nat.le_trans hS.1 (by rw [e1]; exact hz), fun q h1 h2 => by rw [e1, hk q (Nat.lt_of_lt_of_le h1 hS.1) (fun z => h2 (hA q (Nat.lt_of_lt_of_le h1 hS.1) z))]; exact hS.2.1 q h1 h2, fun q hq => by
      rcases List.mem_append.mp hq with h | h
      · exact hS.2.2 q h
      · exact hf _ (hL q h)⟩⟩
theorem vx_calli {S SX : Type} {post : Int32 → S → Prop} {px : SX → Prop} {B : S → State → Prop} {BX : String → SX → State → Prop} {AX : Nat → Prop} (hr : vx_Run p l e R s m args below meth c H locs cells slots mc ms (F0 m pc ls st0) rest (va_Qi post B A1 a) (vx_X px BX AX) free) (hS : va_S A0 H0 H locs) (hA : ∀ q, q < H.size → A1 q → A0 q) (hf : ∀ q, free q → A0 q) (hAX : ∀ q, q < H.size → AX q → A0 q)
    (kx : ∀ (E : String) (ce : Cell) (q9 : Addr) (u : SX) (t : State) (H1 : Heap) (locs1 : List Loc), t.heap = H1 → s.vm.Alike t.vm → px u → BX E u t → H.size ≤ H1.size → (∀ q : Nat, q < H.size → ¬ AX q → H1[q]? = H[q]?) → va_S A0 H0 H1 locs1 → H1[q9]? = some ce → ce.vm = .none → s.vm.findClass E = some ce.cls → vx_W p l e R s m args below meth c H1 locs1 (cells + mc) (slots + ms) Q (F0 m pc ls rest) q9)
    (kk : ∀ (r : Int32) (u : S) (t : State) (H1 : Heap) (locs1 : List Loc), t.heap = H1 → s.vm.Alike t.vm → post r u → B u t → H.size ≤ H1.size → (∀ q : Nat, q < H.size → ¬ A1 q → H1[q]? = H[q]?) → va_S A0 H0 H1 locs1 → W p l e R s m args below meth c H1 locs1 (cells + mc) (slots + ms) Q (F0 m (pc + 3) ls (.int r :: rest))) : W p l e R s m args below meth c H locs cells slots Q (F0 m pc ls st0) := by
  intro T hT X
  rcases hr T hT X with ⟨v, st₀, t, T', L, h0, X', hL, e1, e2, ⟨⟨r, u, hv, hp, hb⟩, hF⟩, st⟩ | ⟨q, st₀, t, T', L, E, ce, h0, X', hL, e1, e2, ⟨u, hp, hb, hF⟩, hce, hcv, hcl, st⟩
  · cases hv
    obtain ⟨k1, k2, k3⟩ := vx_keep h0 e1 hS hA hf hL hF
    obtain ⟨t2, a1, b1⟩ := kk r u t T'.heap (locs ++ L) e1.symm (by rw [← e2]; exact X'.warmed.alike) hp hb k1 k2 k3 T' rfl X'
    exact ⟨t2, st t2 a1, b1⟩
  · obtain ⟨k1, k2, k3⟩ := vx_keep h0 e1 hS hAX hf hL hF
    obtain ⟨t2, a1, b1⟩ := kx E ce q u t T'.heap (locs ++ L) e1.symm (by rw [← e2]; exact X'.warmed.alike) hp hb k1 k2 k3 (by rw [e1]; exact hce) hcv hcl T' rfl X'
    exact ⟨t2, st.trans a1, b1⟩
theorem vx_calll {S SX : Type} {post : Int64 → S → Prop} {px : SX → Prop} {B : S → State → Prop} {BX : String → SX → State → Prop} {AX : Nat → Prop} (hr : vx_Run p l e R s m args below meth c H locs cells slots mc ms (F0 m pc ls st0) rest (va_Ql post B A1 a) (vx_X px BX AX) free) (hS : va_S A0 H0 H locs) (hA : ∀ q, q < H.size → A1 q → A0 q) (hf : ∀ q, free q → A0 q) (hAX : ∀ q, q < H.size → AX q → A0 q)
    (kx : ∀ (E : String) (ce : Cell) (q9 : Addr) (u : SX) (t : State) (H1 : Heap) (locs1 : List Loc), t.heap = H1 → s.vm.Alike t.vm → px u → BX E u t → H.size ≤ H1.size → (∀ q : Nat, q < H.size → ¬ AX q → H1[q]? = H[q]?) → va_S A0 H0 H1 locs1 → H1[q9]? = some ce → ce.vm = .none → s.vm.findClass E = some ce.cls → vx_W p l e R s m args below meth c H1 locs1 (cells + mc) (slots + ms) Q (F0 m pc ls rest) q9)
    (kk : ∀ (r : Int64) (u : S) (t : State) (H1 : Heap) (locs1 : List Loc), t.heap = H1 → s.vm.Alike t.vm → post r u → B u t → H.size ≤ H1.size → (∀ q : Nat, q < H.size → ¬ A1 q → H1[q]? = H[q]?) → va_S A0 H0 H1 locs1 → W p l e R s m args below meth c H1 locs1 (cells + mc) (slots + ms) Q (F0 m (pc + 3) ls (.long r :: rest))) : W p l e R s m args below meth c H locs cells slots Q (F0 m pc ls st0) := by
  intro T hT X
  rcases hr T hT X with ⟨v, st₀, t, T', L, h0, X', hL, e1, e2, ⟨⟨r, u, hv, hp, hb⟩, hF⟩, st⟩ | ⟨q, st₀, t, T', L, E, ce, h0, X', hL, e1, e2, ⟨u, hp, hb, hF⟩, hce, hcv, hcl, st⟩
  · cases hv
    obtain ⟨k1, k2, k3⟩ := vx_keep h0 e1 hS hA hf hL hF
    obtain ⟨t2, a1, b1⟩ := kk r u t T'.heap (locs ++ L) e1.symm (by rw [← e2]; exact X'.warmed.alike) hp hb k1 k2 k3 T' rfl X'
    exact ⟨t2, st t2 a1, b1⟩
  · obtain ⟨k1, k2, k3⟩ := vx_keep h0 e1 hS hAX hf hL hF
    obtain ⟨t2, a1, b1⟩ := kx E ce q u t T'.heap (locs ++ L) e1.symm (by rw [← e2]; exact X'.warmed.alike) hp hb k1 k2 k3 (by rw [e1]; exact hce) hcv hcl T' rfl X'
    exact ⟨t2, st.trans a1, b1⟩
theorem vx_callf {S SX : Type} {post : UInt32 → S → Prop} {px : SX → Prop} {B : S → State → Prop} {BX : String → SX → State → Prop} {AX : Nat → Prop} (hr : vx_Run p l e R s m args below meth c H locs cells slots mc ms (F0 m pc ls st0) rest (va_Qf post B A1 a) (vx_X px BX AX) free) (hS : va_S A0 H0 H locs) (hA : ∀ q, q < H.size → A1 q → A0 q) (hf : ∀ q, free q → A0 q) (hAX : ∀ q, q < H.size → AX q → A0 q)
    (kx : ∀ (E : String) (ce : Cell) (q9 : Addr) (u : SX) (t : State) (H1 : Heap) (locs1 : List Loc), t.heap = H1 → s.vm.Alike t.vm → px u → BX E u t → H.size ≤ H1.size → (∀ q : Nat, q < H.size → ¬ AX q → H1[q]? = H[q]?) → va_S A0 H0 H1 locs1 → H1[q9]? = some ce → ce.vm = .none → s.vm.findClass E = some ce.cls → vx_W p l e R s m args below meth c H1 locs1 (cells + mc) (slots + ms) Q (F0 m pc ls rest) q9)
    (kk : ∀ (r : UInt32) (u : S) (t : State) (H1 : Heap) (locs1 : List Loc), t.heap = H1 → s.vm.Alike t.vm → post r u → B u t → H.size ≤ H1.size → (∀ q : Nat, q < H.size → ¬ A1 q → H1[q]? = H[q]?) → va_S A0 H0 H1 locs1 → W p l e R s m args below meth c H1 locs1 (cells + mc) (slots + ms) Q (F0 m (pc + 3) ls (.float r :: rest))) : W p l e R s m args below meth c H locs cells slots Q (F0 m pc ls st0) := by
  intro T hT X
  rcases hr T hT X with ⟨v, st₀, t, T', L, h0, X', hL, e1, e2, ⟨⟨r, u, hv, hp, hb⟩, hF⟩, st⟩ | ⟨q, st₀, t, T', L, E, ce, h0, X', hL, e1, e2, ⟨u, hp, hb, hF⟩, hce, hcv, hcl, st⟩
  · cases hv
    obtain ⟨k1, k2, k3⟩ := vx_keep h0 e1 hS hA hf hL hF
    obtain ⟨t2, a1, b1⟩ := kk r u t T'.heap (locs ++ L) e1.symm (by rw [← e2]; exact X'.warmed.alike) hp hb k1 k2 k3 T' rfl X'
    exact ⟨t2, st t2 a1, b1⟩
  · obtain ⟨k1, k2, k3⟩ := vx_keep h0 e1 hS hAX hf hL hF
    obtain ⟨t2, a1, b1⟩ := kx E ce q u t T'.heap (locs ++ L) e1.symm (by rw [← e2]; exact X'.warmed.alike) hp hb k1 k2 k3 (by rw [e1]; exact hce) hcv hcl T' rfl X'
    exact ⟨t2, st.trans a1, b1⟩
theorem vx_calld {S SX : Type} {post : UInt64 → S → Prop} {px : SX → Prop} {B : S → State → Prop} {BX : String → SX → State → Prop} {AX : Nat → Prop} (hr : vx_Run p l e R s m args below meth c H locs cells slots mc ms (F0 m pc ls st0) rest (va_Qd post B A1 a) (vx_X px BX AX) free) (hS : va_S A0 H0 H locs) (hA : ∀ q, q < H.size → A1 q → A0 q) (hf : ∀ q, free q → A0 q) (hAX : ∀ q, q < H.size → AX q → A0 q)
    (kx : ∀ (E : String) (ce : Cell) (q9 : Addr) (u : SX) (t : State) (H1 : Heap) (locs1 : List Loc), t.heap = H1 → s.vm.Alike t.vm → px u → BX E u t → H.size ≤ H1.size → (∀ q : Nat, q < H.size → ¬ AX q → H1[q]? = H[q]?) → va_S A0 H0 H1 locs1 → H1[q9]? = some ce → ce.vm = .none → s.vm.findClass E = some ce.cls → vx_W p l e R s m args below meth c H1 locs1 (cells + mc) (slots + ms) Q (F0 m pc ls rest) q9)
    (kk : ∀ (r : UInt64) (u : S) (t : State) (H1 : Heap) (locs1 : List Loc), t.heap = H1 → s.vm.Alike t.vm → post r u → B u t → H.size ≤ H1.size → (∀ q : Nat, q < H.size → ¬ A1 q → H1[q]? = H[q]?) → va_S A0 H0 H1 locs1 → W p l e R s m args below meth c H1 locs1 (cells + mc) (slots + ms) Q (F0 m (pc + 3) ls (.double r :: rest))) : W p l e R s m args below meth c H locs cells slots Q (F0 m pc ls st0) := by
  intro T hT X
  rcases hr T hT X with ⟨v, st₀, t, T', L, h0, X', hL, e1, e2, ⟨⟨r, u, hv, hp, hb⟩, hF⟩, st⟩ | ⟨q, st₀, t, T', L, E, ce, h0, X', hL, e1, e2, ⟨u, hp, hb, hF⟩, hce, hcv, hcl, st⟩
  · cases hv
    obtain ⟨k1, k2, k3⟩ := vx_keep h0 e1 hS hA hf hL hF
    obtain ⟨t2, a1, b1⟩ := kk r u t T'.heap (locs ++ L) e1.symm (by rw [← e2]; exact X'.warmed.alike) hp hb k1 k2 k3 T' rfl X'
    exact ⟨t2, st t2 a1, b1⟩
  · obtain ⟨k1, k2, k3⟩ := vx_keep h0 e1 hS hAX hf hL hF
    obtain ⟨t2, a1, b1⟩ := kx E ce q u t T'.heap (locs ++ L) e1.symm (by rw [← e2]; exact X'.warmed.alike) hp hb k1 k2 k3 (by rw [e1]; exact hce) hcv hcl T' rfl X'
    exact ⟨t2, st.trans a1, b1⟩
theorem vx_callv {S SX : Type} {post : S → Prop} {px : SX → Prop} {B : S → State → Prop} {BX : String → SX → State → Prop} {AX : Nat → Prop} (hr : vx_Run p l e R s m args below meth c H locs cells slots mc ms (F0 m pc ls st0) rest (va_Qv post B A1 a) (vx_X px BX AX) free) (hS : va_S A0 H0 H locs) (hA : ∀ q, q < H.size → A1 q → A0 q) (hf : ∀ q, free q → A0 q) (hAX : ∀ q, q < H.size → AX q → A0 q)
    (kx : ∀ (E : String) (ce : Cell) (q9 : Addr) (u : SX) (t : State) (H1 : Heap) (locs1 : List Loc), t.heap = H1 → s.vm.Alike t.vm → px u → BX E u t → H.size ≤ H1.size → (∀ q : Nat, q < H.size → ¬ AX q → H1[q]? = H[q]?) → va_S A0 H0 H1 locs1 → H1[q9]? = some ce → ce.vm = .none → s.vm.findClass E = some ce.cls → vx_W p l e R s m args below meth c H1 locs1 (cells + mc) (slots + ms) Q (F0 m pc ls rest) q9)
    (kk : ∀ (u : S) (t : State) (H1 : Heap) (locs1 : List Loc), t.heap = H1 → s.vm.Alike t.vm → post u → B u t → H.size ≤ H1.size → (∀ q : Nat, q < H.size → ¬ A1 q → H1[q]? = H[q]?) → va_S A0 H0 H1 locs1 → W p l e R s m args below meth c H1 locs1 (cells + mc) (slots + ms) Q (F0 m (pc + 3) ls (rest))) : W p l e R s m args below meth c H locs cells slots Q (F0 m pc ls st0) := by
  intro T hT X
  rcases hr T hT X with ⟨v, st₀, t, T', L, h0, X', hL, e1, e2, ⟨⟨u, hv, hp, hb⟩, hF⟩, st⟩ | ⟨q, st₀, t, T', L, E, ce, h0, X', hL, e1, e2, ⟨u, hp, hb, hF⟩, hce, hcv, hcl, st⟩
  · cases hv
    obtain ⟨k1, k2, k3⟩ := vx_keep h0 e1 hS hA hf hL hF
    obtain ⟨t2, a1, b1⟩ := kk u t T'.heap (locs ++ L) e1.symm (by rw [← e2]; exact X'.warmed.alike) hp hb k1 k2 k3 T' rfl X'
    exact ⟨t2, st t2 a1, b1⟩
  · obtain ⟨k1, k2, k3⟩ := vx_keep h0 e1 hS hAX hf hL hF
    obtain ⟨t2, a1, b1⟩ := kx E ce q u t T'.heap (locs ++ L) e1.symm (by rw [← e2]; exact X'.warmed.alike) hp hb k1 k2 k3 (by rw [e1]; exact hce) hcv hcl T' rfl X'
    exact ⟨t2, st.trans a1, b1⟩
/-- caught by the row x of this method's table; the rows ahead don't take it -/
theorem vx_catch {own name : String} {E : String} {ce : Cell} {q : Addr} (hown : s.vm.findClass own = some m.cls) (pre : List ExceptionTableEntry) (x : ExceptionTableEntry) (suf : List ExceptionTableEntry) (hsplit : c.exceptionTable.toList = pre ++ x :: suf)
    (hpass : ∀ z ∈ pre, covers z pc = false ∨ (z.catchType ≠ 0 ∧ ∃ nm : String, (Cond.classLink own z.catchType nm).before args s = true ∧ va_Nc E nm s)) (hx : covers x pc = true) (h0 : x.catchType ≠ 0)
    (hlink : (Cond.classLink own x.catchType name).before args s = true) (hcast : (Cond.castable E name).before args s = true) (hcell : H[q]? = some ce) (hv : ce.vm = .none) (hcl : s.vm.findClass E = some ce.cls)
    (kk : W p l e R s m args below meth c H locs cells slots Q (F0 m x.handlerPc ls [.ref q])) : vx_W p l e R s m args below meth c H locs cells slots Q (F0 m pc ls rest) q := by
  intro T hT X
  have hpl : e.platform.magicAccessors = ({} : Platform).magicAccessors := by rw [X.admits.platform]
  obtain ⟨c3, c4, hc3, hc4, hasg⟩ := Cond.castable_spec hcast
  cases Option.some.inj (hc3.symm.trans hcl)
  obtain ⟨c5, hc5, hcl5⟩ := Cond.classLink_spec hown hlink e.platform hpl
  cases Option.some.inj (hc4.symm.trans hc5)
  obtain ⟨vm', X', st⟩ := X.thenCaughtThrough q (g := F0 m pc ls rest) rfl (Steps.refl _) (by rw [hT]; exact hcell) (by rw [hv]; rfl) (by obtain ⟨k9, h9, -⟩ := Vm.findClass_spec hcl; exact ⟨k9, h9⟩) pre x suf hsplit
    (fun z hz => by
      rcases hpass z hz with h | ⟨hz0, nm, hl1, hn1⟩
      · exact Or.inl h
      · obtain ⟨c6, hc6, hcl6⟩ := Cond.classLink_spec hown hl1 e.platform hpl
        obtain ⟨a8, b8, h1, h2, h3⟩ := hn1
        cases Option.some.inj (h1.symm.trans hcl)
        cases Option.some.inj (h2.symm.trans hc6)
        exact Or.inr ⟨hz0, _, hcl6, h3⟩) hx (Or.inr ⟨h0, c4, hcl5, hasg⟩)
  obtain ⟨t, a1, b1⟩ := kk (T.setVm vm') hT X'
  exact ⟨t, st.trans a1, b1⟩
end Rows
section Ends
variable {p : Program} {l : Launch} {e : Env} {R : Room} {s : State} {m : MethodId} {args : Array Value} {below : List Frame} {meth : Method} {c : Code} {H : Heap} {locs : List Loc} {cells slots : Nat} {Q : State → Prop}
variable {mc ms : Nat} {free : Addr → Prop} {A0 A1 : Nat → Prop} {H0 : Heap} {a : Array Value} {ls : Array Slot} {st0 rest : List Value}
variable {Qc : Array Value → State → Outcome → State → Prop} {XC : String → State → State → Prop}
/-- what a body that may throw owes at its end -/
def vx_MQ (below : List Frame) (Qc : Array Value → State → Outcome → State → Prop) (XC : String → State → State → Prop) (a : Array Value) (s : State) (mc ms : Nat) (free : Addr → Prop) : State → Prop := fun t =>
  ∃ o, t.status = .running ∧ Ended t below o ∧ vx_Q Qc XC mc ms free a s o t
theorem vx_ret {g : JFrame} {mc ms : Nat} (k : W p l e R s m args below meth c H locs cells slots (MQ below Qc args s mc ms free) g) : W p l e R s m args below meth c H locs cells slots (vx_MQ below Qc XC args s mc ms free) g := by
  intro T hT X
  obtain ⟨t, a1, o, b1, b2, b3, b4⟩ := k T hT X
  exact ⟨t, a1, o, b1, b2, Or.inl ⟨b3, b4⟩⟩
/-- not caught here: it goes on to the caller -/
theorem vx_widen {g : JFrame} {q : Addr} {k n : Nat} (h1 : cells ≤ k) (h2 : slots ≤ n) (kk : vx_W p l e R s m args below meth c H locs k n Q g q) : vx_W p l e R s m args below meth c H locs cells slots Q g q := fun T hT X => kk T hT (stand_widen X h1 h2)
theorem vx_out {pc : Nat} {E : String} {ce : Cell} {q : Addr} {mc ms : Nat} (hout : ∀ x ∈ c.exceptionTable.toList, covers x pc = false) (hlocks : meth.locks = false) (hcell : H[q]? = some ce) (hv : ce.vm = .none) (hcl : s.vm.findClass E = some ce.cls)
    (hx : ∀ t : State, t.heap = H → s.vm.Alike t.vm → XC E s t) (hf : ∀ z ∈ locs, free z.base) (hc : cells ≤ mc) (hs : slots ≤ ms) :
    vx_W p l e R s m args below meth c H locs cells slots (vx_MQ below Qc XC args s mc ms free) (F0 m pc ls rest) q := by
  intro T hT X
  obtain ⟨st1, hrun, hend, hW, hsm⟩ := X.leaveThrown q (g := F0 m pc ls rest) rfl rfl rfl hout hlocks
  have hcell9 : (T.setFrames (.throwing q :: below)).heap[q]? = some ce := by
    show T.heap[q]? = some ce
    rw [hT]; exact hcell
  exact ⟨_, st1, .threw q, hrun, hend, Or.inr ⟨q, rfl, E, ce, locs, hx _ hT hW.alike, hcell9, hv, hcl, hW, hsm.mono hc hs, hf⟩⟩
theorem vx_frame {U : State} {k n : Nat} (h : s.sameButNew ({ U with vm := s.vm } : State) locs k n) : s.heap.size ≤ U.heap.size ∧ ∀ q : Nat, q < s.heap.size → (∀ z ∈ locs, z.base ≠ q) → U.heap[q]? = s.heap[q]? := by
  obtain ⟨-, h2, -, -, -, h6⟩ := h
  refine ⟨h2, fun q hq hz => ?_⟩
  obtain ⟨c9, e1, e2, e3, e4⟩ := h6 q _ (Array.getElem?_eq_getElem hq)
  have hs : c9.slots = (s.heap[q]).slots := Array.ext_getElem? fun i => e4 i fun hm => hz _ hm rfl
  have h9 : c9 = s.heap[q] := by
    rw [hs] at e2
    exact e2
  have e5 : U.heap[q]? = some c9 := e1
  rw [e5, h9, Array.getElem?_eq_getElem hq]
/-- the words of a throw but the four that speak of the heap -/
def vx_no (w : Cond) : Bool := decide (w ≠ .isRef (.static Bundle.tN "UNASSIGNED_STACK" Bundle.steD)) && decide (w ≠ .isRef (.static Bundle.tN "SUPPRESSED_SENTINEL" Bundle.listD)) && decide (w ≠ .laysStatic Bundle.tN "UNASSIGNED_STACK" Bundle.steD) && decide (w ≠ .laysStatic Bundle.tN "SUPPRESSED_SENTINEL" Bundle.listD)
def vx_at0 (own : String) (ic : Nat) (X : String) (names : List String) : List Cond := (Bundle.ownAtoms0 own ic X names).filter vx_no
def vx_atS (own : String) (ic : Nat) (X : String) (names : List String) : List Cond := (Bundle.ownAtoms own ic X names).filter vx_no
/-- a word that the tables alone decide, or a good one -/
def vx_ot (w : Cond) : Bool := w.onTables || goodWord w
theorem vx_ot_at {args a' : Array Value} {s U : State} {w : Cond} (hW : s.WarmedH U.vm) (hvm : s.vm = U.vm) (hg : vx_ot w = true) (h : w.before args s = true) : w.before a' U = true := by
  simp only [vx_ot, Bool.or_eq_true] at hg
  rcases hg with hg | hg
  · exact va_tabs hg hvm h
  · exact word_at hW (good_of_word hg) h
/-- a list's words: the good ones out of the method's own list, the others by premises of their own -/
theorem vx_hat {args : Array Value} {s : State} {L B : List Cond} (h1 : ∀ w ∈ L.filter goodWord, w.before args s = true) (h2 : ∀ w ∈ L.filter (fun w => !goodWord w), w ∈ B) (h3 : ∀ w ∈ B, w.before args s = true) : ∀ w ∈ L, w.before args s = true := by
  intro w hw
  by_cases g : goodWord w = true
  · exact h1 w (List.mem_filter.mpr ⟨hw, g⟩)
  · refine h3 w (h2 w (List.mem_filter.mpr ⟨hw, ?_⟩))
    show (!goodWord w) = true
    cases hgw : goodWord w
    · rfl
    · exact absurd hgw g
theorem vx_c {args : Array Value} {s : State} {w : Cond} {B : List Cond} (h : w.before args s = true) (t : ∀ w ∈ B, w.before args s = true) : ∀ w' ∈ w :: B, w'.before args s = true := fun w' h' => (List.mem_cons.mp h').elim (fun e => by rw [e]; exact h) (t w')
theorem vx_n {args : Array Value} {s : State} : ∀ w ∈ ([] : List Cond), w.before args s = true := fun _ h => nomatch h
theorem vx_own {args : Array Value} {s : State} {L : List Cond} (h1 : ∀ w ∈ L.filter vx_no, w.before args s = true)
    (hU : (Cond.isRef (.static Bundle.tN "UNASSIGNED_STACK" Bundle.steD)).before args s = true) (hN : (Cond.isRef (.static Bundle.tN "SUPPRESSED_SENTINEL" Bundle.listD)).before args s = true)
    (lU : (Cond.laysStatic Bundle.tN "UNASSIGNED_STACK" Bundle.steD).before args s = true) (lN : (Cond.laysStatic Bundle.tN "SUPPRESSED_SENTINEL" Bundle.listD).before args s = true) : ∀ w ∈ L, w.before args s = true := by
  intro w hw
  by_cases e1 : w = .isRef (.static Bundle.tN "UNASSIGNED_STACK" Bundle.steD)
  · rw [e1]; exact hU
  · by_cases e2 : w = .isRef (.static Bundle.tN "SUPPRESSED_SENTINEL" Bundle.listD)
    · rw [e2]; exact hN
    · by_cases e3 : w = .laysStatic Bundle.tN "UNASSIGNED_STACK" Bundle.steD
      · rw [e3]; exact lU
      · by_cases e4 : w = .laysStatic Bundle.tN "SUPPRESSED_SENTINEL" Bundle.listD
        · rw [e4]; exact lN
        · exact h1 w (List.mem_filter.mpr ⟨hw, by unfold vx_no; rw [decide_eq_true e1, decide_eq_true e2, decide_eq_true e3, decide_eq_true e4]; rfl⟩)
/-- where a static field lies, its class's statics cell in H -/
def vx_L (C n d : String) (A : Nat → Prop) (U : State) (H : Heap) : Prop := ∃ (c : ClassId) (k : Class) (i : Nat) (f : Field) (a : Nat) (cell : Cell), U.vm.findClass C = some c ∧ U.fieldFound? C n d = some (c, k, i, f) ∧ f.isStatic = true ∧ k.statics = some a ∧ H[a]? = some cell ∧ cell.vm.isStatics = true ∧ cell.cls = c ∧ f.slot < cell.slots.size ∧ k.staticTypes[f.slot]? = some f.type ∧ ¬ A a
theorem vx_L.moved {C n d : String} {A : Nat → Prop} {u U : State} {H : Heap} (hvm : u.vm.Alike U.vm) (h : vx_L C n d A u H) : vx_L C n d A U H := by
  obtain ⟨c, k, i, f, a, cell, h1, h2, h3, h4, h5, h6, h7, h8, h9, h10⟩ := h
  obtain ⟨k', hi', he⟩ := State.fieldFound?_setVm hvm h2
  exact ⟨c, k', i, f, a, cell, by rw [hvm.findClass]; exact h1, hi', h3, by rw [he]; exact h4, h5, h6, h7, h8, by rw [he]; exact h9, h10⟩
theorem vx_L.kept {C n d : String} {A : Nat → Prop} {U : State} {H H1 : Heap} (h : vx_L C n d A U H) (hq : ∀ a : Nat, a < H.size → ¬ A a → H1[a]? = H[a]?) : vx_L C n d A U H1 := by
  obtain ⟨c, k, i, f, a, cell, h1, h2, h3, h4, h5, h6, h7, h8, h9, h10⟩ := h
  exact ⟨c, k, i, f, a, cell, h1, h2, h3, h4, by rw [hq a (Array.getElem?_eq_some_iff.mp h5).1 h10]; exact h5, h6, h7, h8, h9, h10⟩
theorem vx_L.narrow {C n d : String} {A B : Nat → Prop} {U : State} {H : Heap} (h : vx_L C n d A U H) (hAB : ∀ q, B q → A q) : vx_L C n d B U H := by
  obtain ⟨c, k, i, f, a, cell, h1, h2, h3, h4, h5, h6, h7, h8, h9, h10⟩ := h
  exact ⟨c, k, i, f, a, cell, h1, h2, h3, h4, h5, h6, h7, h8, h9, fun z => h10 (hAB _ z)⟩
theorem vx_L.word {C n d : String} {A : Nat → Prop} {s : State} {args : Array Value} (h : vx_L C n d A s s.heap) : (Cond.laysStatic C n d).before args s = true := by
  obtain ⟨c, k, i, f, a, cell, h1, h2, h3, h4, h5, h6, h7, h8, h9, -⟩ := h
  show (Cond.laysStatic C n d).holds args s none s [] = true
  exact Cond.laysStatic_of h1 h2 h3 h4 h5 h6 h7 h8 h9
/-- .. and what it holds: null or some reference -/
def vx_Zq (C n d : String) (A : Nat → Prop) (U : State) (H : Heap) : Prop := va_Zq C n d A U H ∧ vx_L C n d A U H
theorem vx_Zq.moved {C n d : String} {A : Nat → Prop} {u U : State} {H : Heap} (hvm : u.vm.Alike U.vm) (h : vx_Zq C n d A u H) : vx_Zq C n d A U H := ⟨va_Zq.moved hvm h.1, vx_L.moved hvm h.2⟩
theorem vx_Zq.kept {C n d : String} {A : Nat → Prop} {U : State} {H H1 : Heap} (h : vx_Zq C n d A U H) (hq : ∀ a : Nat, a < H.size → ¬ A a → H1[a]? = H[a]?) : vx_Zq C n d A U H1 := ⟨va_Zq.kept h.1 hq, vx_L.kept h.2 hq⟩
theorem vx_Zq.narrow {C n d : String} {A B : Nat → Prop} {U : State} {H : Heap} (h : vx_Zq C n d A U H) (hAB : ∀ q, B q → A q) : vx_Zq C n d B U H := ⟨va_Zq.narrow h.1 hAB, vx_L.narrow h.2 hAB⟩
theorem vx_Zqof {args : Array Value} {s : State} {C n d : String} {A : Nat → Prop} (hl : (Cond.laysStatic C n d).before args s = true) (hini : (Cond.initialized C).before args s = true) (h : (Cond.isRef (.static C n d)).before args s = true) (hA : ∀ a : Nat, a < s.heap.size → ¬ A a) : vx_Zq C n d A s s.heap := by
  refine ⟨va_Zqof hl hini h hA, ?_⟩
  obtain ⟨c, k, i, f, a, cell, h1, h2, h3, h4, h5, h6, h7, h8, h9⟩ := Cond.laysStatic_spec hl
  exact ⟨c, k, i, f, a, cell, h1, h2, h3, h4, h5, h6, h7, h8, h9, hA a (Array.getElem?_eq_some_iff.mp h5).1⟩
theorem vx_isRef {C n d : String} {v : Value} {A : Nat → Prop} {s : State} {args : Array Value} (h : va_Z C n d v A s s.heap) (hv : v.isRef = true) : (Cond.isRef (.static C n d)).before args s = true := by
  obtain ⟨cf, kf, fi, f, a, cell, h1, h2, h3, h4, h5, h6, h7, -⟩ := h
  have he : (Term.static C n d).eval args s none [] s = some v := by
    simp [Term.eval, State.fieldNamed?, h1, h2, h4, h5, h6, h7]
  simp only [Cond.before, Cond.holds, Cond.value, he]
  cases v <;> simp_all [Value.isRef]
theorem vx_isRefq {C n d : String} {A : Nat → Prop} {s : State} {args : Array Value} (h : va_Zq C n d A s s.heap) : (Cond.isRef (.static C n d)).before args s = true := by
  rcases h with h | ⟨t, h⟩
  · exact vx_isRef h rfl
  · exact vx_isRef h rfl
/-- the same frame, seen from here: as if the method were called anew in this heap -/
theorem vx_rebase {T : State} (X : Stand p l e R s m args below meth c T locs cells slots) {R' : Room} (hf : R'.frames ≤ R.frames) (hl : R'.locals ≤ R.locals) (hc : cells + R'.cells ≤ R.cells) (hs : slots + R'.slots ≤ R.slots) :
    Stand p l e R' ((T.setVm s.vm).setFrames (.invoking m args :: below)) m args below meth c T [] 0 0 := by
  have htop : (T.setVm s.vm).topJava?.isSome := X.here.top
  have hF : ((T.setVm s.vm).setFrames (.invoking m args :: below)).frames = .invoking m args :: below := State.frames_setFrames _ (State.cur_lt_of_top htop)
  obtain ⟨g₀, hg0⟩ := Option.isSome_iff_exists.mp htop
  obtain ⟨r, hr⟩ := State.topJava?_eq_some.mp hg0
  have hl9 : e.platform.stackLimits (T.setVm s.vm).me = e.platform.stackLimits s.me := X.limits
  have hb9 : (T.setVm s.vm).me.stackBytes = s.me.stackBytes := X.bytes
  refine ⟨X.admits, X.cas, X.clock, hF, ?_, X.hears, X.method, X.code, X.here, X.tail, X.warmed, ?_, ?_, ?_⟩
  · have h := X.room
    have hU : ((T.setVm s.vm).setFrames (.invoking m args :: below)).localsInUse = s.localsInUse := by
      rw [State.localsInUse_invoking hF (meth := meth) (c := c) X.method X.code, State.localsInUse_invoking X.frames X.method X.code]
    simp only [State.hasRoom, Bool.and_eq_true, decide_eq_true_eq] at h ⊢
    obtain ⟨⟨⟨⟨h1, h2, h3, h4, h5, h6⟩, h7⟩, h8⟩, h9⟩ := h
    rw [X.frames, List.length_cons] at h2 h3
    have q1 := X.heapSize
    have q2 := X.used
    simp only [hF, hU, List.length_cons, State.stackLimits_setFrames, State.stackBytes_setFrames, hl9, hb9]
    refine ⟨⟨⟨⟨by omega, by omega, by omega, by omega, by omega, h6⟩, ?_⟩, ?_⟩, X.book⟩
    · show T.heap.size + R'.cells ≤ e.platform.maxCells
      omega
    · show T.slotsUsed + R'.slots ≤ e.platform.maxSlots
      omega
  · rw [State.stackLimits_setFrames]; rfl
  · rw [State.stackBytes_setFrames]; rfl
  · refine ⟨?_, Nat.le_refl _, Nat.le_refl _, ?_, ?_, fun a c9 h9 => ⟨c9, h9, rfl, rfl, fun _ _ => rfl⟩⟩
    · obtain ⟨t, ht, -⟩ := State.frames_cons hr
      show T.setVm s.vm = { ((T.setVm s.vm).setFrames (.invoking m args :: below)).setFrames (T.setVm s.vm).frames with heap := T.heap, slotsUsed := T.slotsUsed }
      rw [State.setFrames_setFrames, State.setFrames_self ht]
      rfl
    · show T.slotsUsed = T.slotsUsed + ((T.heap.toList.drop T.heap.size).map (·.slots.size)).sum
      rw [List.drop_eq_nil_of_le (Nat.le_of_eq Array.length_toList)]
      rfl
    · show ((T.heap.toList.drop T.heap.size).map (·.slots.size)).sum ≤ 0
      rw [List.drop_eq_nil_of_le (Nat.le_of_eq Array.length_toList)]
      exact Nat.le_refl _
/-- 'throw new E()': new; dup; invokespecial; athrow -/
theorem vx_throw0 {cc : ByteArray} {pc : Nat} (hexec : p.tables.exec = Jvm.exec) (hb : c.code = cc) (hl : l.stackTraces = false) {own cls : String} {names : List String} {ik ic mc ms : Nat} {A : Nat → Prop}
    (hown : s.vm.findClass own = some m.cls) (hcls : Bundle.fit cls = true) (hnames : ∀ n ∈ names, Bundle.fit n = true)
    (hk : (Cond.classLink own ik cls).before args s = true) (hini : (Cond.initialized cls).before args s = true) (hat : ∀ w ∈ vx_at0 own ic cls names, w.before args s = true)
    (hgood : ∀ w ∈ Cond.classLink own ik cls :: Cond.initialized cls :: vx_at0 own ic cls names, vx_ot w = true)
    (hU : vx_Zq Bundle.tN "UNASSIGNED_STACK" Bundle.steD A s s.heap) (hN : vx_Zq Bundle.tN "SUPPRESSED_SENTINEL" Bundle.listD A s s.heap) (hS : va_S A s.heap H locs) (hsize : ls.size = c.maxLocals)
    (d0 : decode cc pc = .ok (.new ik, 3)) (d3 : decode cc (pc + 3) = .ok (.dup, 1)) (d4 : decode cc (pc + 4) = .ok (.invokespecial ic, 3)) (d7 : decode cc (pc + 7) = .ok (.athrow, 1))
    (hout : ∀ x ∈ c.exceptionTable.toList, covers x (pc + 7) = false)
    (hRframes : names.length + 3 < R.frames) (hRlocals : (rest.map fun v => v.category).sum + (13 * (names.length + 1) + 42) ≤ R.locals) (hRcells : cells + 1 ≤ R.cells) (hRslots : slots + 6 ≤ R.slots) (hlocks : meth.locks = false)
    (hx : ∀ t : State, s.vm.Alike t.vm → H.size ≤ t.heap.size → (∀ q : Nat, q < H.size → t.heap[q]? = H[q]?) → XC cls s t)
    (hf : ∀ z ∈ locs, free z.base) (hc : cells + 1 ≤ mc) (hs : slots + 6 ≤ ms) :
    W p l e R s m args below meth c H locs cells slots (vx_MQ below Qc XC args s mc ms free) (F0 m pc ls rest) := by
  intro T hT X
  have htr : e.platform.stackTraces = false := (show e.platform.stackTraces = l.stackTraces by rw [X.admits.platform]).trans hl
  have Y := vx_rebase X (R' := { frames := R.frames, locals := R.locals, cells := 1, slots := 6 }) (Nat.le_refl _) (Nat.le_refl _) hRcells hRslots
  obtain ⟨s', hA⟩ : ∃ z, z = (T.setVm s.vm).setFrames (.invoking m args :: below) := ⟨_, rfl⟩
  rw [← hA] at Y
  have hvm : s'.vm = s.vm := by rw [hA]; rfl
  have hhp : s'.heap = H := by rw [hA]; exact hT
  have hW0 : s.WarmedH s'.vm := by rw [hvm]; exact State.WarmedH.refl s
  have hat' : ∀ w ∈ vx_at0 own ic cls names, w.before args s' = true := fun w hw => vx_ot_at hW0 hvm.symm (hgood w (List.mem_cons_of_mem _ (List.mem_cons_of_mem _ hw))) (hat w hw)
  have hk' : (Cond.classLink own ik cls).before args s' = true := vx_ot_at hW0 hvm.symm (hgood _ List.mem_cons_self) hk
  have hini' : (Cond.initialized cls).before args s' = true := vx_ot_at hW0 hvm.symm (hgood _ (List.mem_cons_of_mem _ List.mem_cons_self)) hini
  have hU' : vx_Zq Bundle.tN "UNASSIGNED_STACK" Bundle.steD A s' s'.heap := by rw [hhp]; exact vx_Zq.moved hW0.alike (hU.kept hS.2.1)
  have hN' : vx_Zq Bundle.tN "SUPPRESSED_SENTINEL" Bundle.listD A s' s'.heap := by rw [hhp]; exact vx_Zq.moved hW0.alike (hN.kept hS.2.1)
  have h : ∀ w ∈ Bundle.ownAtoms0 own ic cls names, w.before args s' = true := vx_own hat' (vx_isRefq hU'.1) (vx_isRefq hN'.1) hU'.2.word hN'.2.word
  have hown' : s'.vm.findClass own = some m.cls := by rw [hvm]; exact hown
  have hins : (Cond.instantiable cls 6).before args s' = true := h _ (by simp [Bundle.ownAtoms0])
  obtain ⟨vm₁, cX, kX, hfX, hkX, -, -, X₁, st1⟩ := Y.newCold hexec (own := own) (C := cls) (index := ik) (n := 6) hown' hk' hins hini'
    (g := F0 m pc ls rest) rfl (by rw [hb]; exact d0) (Nat.le_refl _) (Nat.le_refl _)
  generalize hT1 : (T.setVm vm₁).pushCell { cls := cX, slots := kX.instanceTypes.map defaultValue, vm := .none } = T1 at X₁ st1
  have hcat : (Value.ref T.heap.size).category = 1 := rfl
  have hcellA : T1.heap[T.heap.size]? = some (freshCell cX kX) := by rw [← hT1]; exact State.heap_pushCell_size _ _
  have d3' : decode c.code (pc + 3) = .ok (.dup, 1) := by rw [hb]; exact d3
  obtain ⟨U, hsteps, hrun, hend, hW, hsame, ce, hce, hO⟩ := X₁.ctorThrow0 hexec htr (own := own) (cls := cls) (names := names) (ic := ic) hown' hcls hnames h (fun x hx => nomatch hx) hfX hkX hcellA (by rw [hhp, hT]; exact Nat.le_refl _)
    (g := { method := m, pc := pc + 4, locals := ls, stack := .ref T.heap.size :: .ref T.heap.size :: rest, locked := none }) rfl hsize rfl rfl (rest := rest) rfl
    (by rw [hb]; exact d4) (by rw [hb]; exact d7) hout hRframes (by simp only [List.map_cons, List.sum_cons, hcat]; omega) hlocks
  obtain ⟨f1, f2⟩ := vx_frame hsame
  rw [hhp] at f1 f2
  have hWs : s.WarmedH U.vm := State.WarmedH.trans hW0 hW
  have hcl : s.vm.findClass cls = some ce.cls := by
    have h9 := hO.cls
    rw [hvm] at h9
    exact h9
  have hall : s.sameButNew ({ U with vm := s.vm } : State) locs mc ms := by
    subst hA
    obtain ⟨e1, e2⟩ := hsame
    rw [State.setFrames_setFrames] at e1
    have h2 : (T.setVm s.vm).sameButNew ({ U with vm := s.vm } : State) [] (0 + 1) (0 + 6) := ⟨e1, e2⟩
    have h3 := X.same.trans h2
    rw [List.append_nil] at h3
    exact h3.mono hc hs
  refine ⟨U, ?_, .threw T.heap.size, hrun, hend, Or.inr ⟨T.heap.size, rfl, cls, ce, locs, hx U hWs.alike f1 (fun q hq => f2 q hq (fun z hz => nomatch hz)), hce, hO.vm, hcl, hWs, hall, hf⟩⟩
  refine st1 _ ?_
  show Steps p.tables e below (T1.setTop { method := m, pc := pc + 3, locals := ls, stack := .ref T.heap.size :: rest, locked := none }) _
  jvm_step X₁.here [X₁.here.top, hexec, d3', Value.category]
  exact hsteps
/-- 'throw new E("text")': new; dup; ldc; invokespecial; athrow -/
theorem vx_throwS {cc : ByteArray} {pc : Nat} (hexec : p.tables.exec = Jvm.exec) (hb : c.code = cc) (hl : l.stackTraces = false) {own cls text : String} {names : List String} {ik is ic mc ms sa : Nat} {A : Nat → Prop}
    (hown : s.vm.findClass own = some m.cls) (hcls : Bundle.fit cls = true) (hnames : ∀ n ∈ names, Bundle.fit n = true)
    (hk : (Cond.classLink own ik cls).before args s = true) (hini : (Cond.initialized cls).before args s = true) (hstr : vk_R own is text sa s) (hat : ∀ w ∈ vx_atS own ic cls names, w.before args s = true)
    (hgood : ∀ w ∈ Cond.classLink own ik cls :: Cond.initialized cls :: vx_atS own ic cls names, vx_ot w = true)
    (hU : vx_Zq Bundle.tN "UNASSIGNED_STACK" Bundle.steD A s s.heap) (hN : vx_Zq Bundle.tN "SUPPRESSED_SENTINEL" Bundle.listD A s s.heap) (hS : va_S A s.heap H locs) (hsize : ls.size = c.maxLocals)
    (d0 : decode cc pc = .ok (.new ik, 3)) (d3 : decode cc (pc + 3) = .ok (.dup, 1)) (d4 : decode cc (pc + 4) = .ok (.ldc is, 2)) (d6 : decode cc (pc + 6) = .ok (.invokespecial ic, 3)) (d9 : decode cc (pc + 9) = .ok (.athrow, 1))
    (hout : ∀ x ∈ c.exceptionTable.toList, covers x (pc + 9) = false)
    (hRframes : names.length + 3 < R.frames) (hRlocals : (rest.map fun v => v.category).sum + (13 * (names.length + 1) + 43) ≤ R.locals) (hRcells : cells + 1 ≤ R.cells) (hRslots : slots + 6 ≤ R.slots) (hlocks : meth.locks = false)
    (hx : ∀ t : State, s.vm.Alike t.vm → H.size ≤ t.heap.size → (∀ q : Nat, q < H.size → t.heap[q]? = H[q]?) → XC cls s t)
    (hf : ∀ z ∈ locs, free z.base) (hc : cells + 1 ≤ mc) (hs : slots + 6 ≤ ms) :
    W p l e R s m args below meth c H locs cells slots (vx_MQ below Qc XC args s mc ms free) (F0 m pc ls rest) := by
  intro T hT X
  have htr : e.platform.stackTraces = false := (show e.platform.stackTraces = l.stackTraces by rw [X.admits.platform]).trans hl
  have Y := vx_rebase X (R' := { frames := R.frames, locals := R.locals, cells := 1, slots := 6 }) (Nat.le_refl _) (Nat.le_refl _) hRcells hRslots
  obtain ⟨s', hA⟩ : ∃ z, z = (T.setVm s.vm).setFrames (.invoking m args :: below) := ⟨_, rfl⟩
  rw [← hA] at Y
  have hvm : s'.vm = s.vm := by rw [hA]; rfl
  have hhp : s'.heap = H := by rw [hA]; exact hT
  have hW0 : s.WarmedH s'.vm := by rw [hvm]; exact State.WarmedH.refl s
  have hat' : ∀ w ∈ vx_atS own ic cls names, w.before args s' = true := fun w hw => vx_ot_at hW0 hvm.symm (hgood w (List.mem_cons_of_mem _ (List.mem_cons_of_mem _ hw))) (hat w hw)
  have hk' : (Cond.classLink own ik cls).before args s' = true := vx_ot_at hW0 hvm.symm (hgood _ List.mem_cons_self) hk
  have hini' : (Cond.initialized cls).before args s' = true := vx_ot_at hW0 hvm.symm (hgood _ (List.mem_cons_of_mem _ List.mem_cons_self)) hini
  have hU' : vx_Zq Bundle.tN "UNASSIGNED_STACK" Bundle.steD A s' s'.heap := by rw [hhp]; exact vx_Zq.moved hW0.alike (hU.kept hS.2.1)
  have hN' : vx_Zq Bundle.tN "SUPPRESSED_SENTINEL" Bundle.listD A s' s'.heap := by rw [hhp]; exact vx_Zq.moved hW0.alike (hN.kept hS.2.1)
  have h : ∀ w ∈ Bundle.ownAtoms own ic cls names, w.before args s' = true := vx_own hat' (vx_isRefq hU'.1) (vx_isRefq hN'.1) hU'.2.word hN'.2.word
  have hown' : s'.vm.findClass own = some m.cls := by rw [hvm]; exact hown
  have hins : (Cond.instantiable cls 6).before args s' = true := h _ (by simp [Bundle.ownAtoms])
  obtain ⟨vm₁, cX, kX, hfX, hkX, -, -, X₁, st1⟩ := Y.newCold hexec (own := own) (C := cls) (index := ik) (n := 6) hown' hk' hins hini'
    (g := F0 m pc ls rest) rfl (by rw [hb]; exact d0) (Nat.le_refl _) (Nat.le_refl _)
  generalize hT1 : (T.setVm vm₁).pushCell { cls := cX, slots := kX.instanceTypes.map defaultValue, vm := .none } = T1 at X₁ st1
  have hcat : (Value.ref T.heap.size).category = 1 := rfl
  have hcellA : T1.heap[T.heap.size]? = some (freshCell cX kX) := by rw [← hT1]; exact State.heap_pushCell_size _ _
  have d3' : decode c.code (pc + 3) = .ok (.dup, 1) := by rw [hb]; exact d3
  have d4' : decode c.code (pc + 4) = .ok (.ldc is, 2) := by rw [hb]; exact d4
  have hstr' : vk_R own is text sa s' := vk_R.warm hW0 hstr
  obtain ⟨U, hsteps, hrun, hend, hW, hsame, ce, hce, hO⟩ := X₁.ctorThrowS hexec htr (own := own) (cls := cls) (names := names) (ic := ic) hown' hcls hnames h (fun x hx => nomatch hx) hfX hkX hcellA (by rw [hhp, hT]; exact Nat.le_refl _) (msg := .ref sa) rfl
    (g := { method := m, pc := pc + 6, locals := ls, stack := .ref sa :: .ref T.heap.size :: .ref T.heap.size :: rest, locked := none }) rfl hsize rfl rfl (rest := rest) rfl
    (by rw [hb]; exact d6) (by rw [hb]; exact d9) hout hRframes (by simp only [List.map_cons, List.sum_cons, hcat]; omega) hlocks
  obtain ⟨f1, f2⟩ := vx_frame hsame
  rw [hhp] at f1 f2
  have hWs : s.WarmedH U.vm := State.WarmedH.trans hW0 hW
  have hcl : s.vm.findClass cls = some ce.cls := by
    have h9 := hO.cls
    rw [hvm] at h9
    exact h9
  have hall : s.sameButNew ({ U with vm := s.vm } : State) locs mc ms := by
    subst hA
    obtain ⟨e1, e2⟩ := hsame
    rw [State.setFrames_setFrames] at e1
    have h2 : (T.setVm s.vm).sameButNew ({ U with vm := s.vm } : State) [] (0 + 1) (0 + 6) := ⟨e1, e2⟩
    have h3 := X.same.trans h2
    rw [List.append_nil] at h3
    exact h3.mono hc hs
  refine ⟨U, ?_, .threw T.heap.size, hrun, hend, Or.inr ⟨T.heap.size, rfl, cls, ce, locs, hx U hWs.alike f1 (fun q hq => f2 q hq (fun z hz => nomatch hz)), hce, hO.vm, hcl, hWs, hall, hf⟩⟩
  refine st1 _ ?_
  show Steps p.tables e below (T1.setTop { method := m, pc := pc + 3, locals := ls, stack := .ref T.heap.size :: rest, locked := none }) _
  jvm_step X₁.here [X₁.here.top, hexec, d3', Value.category]
  exact X₁.ldcString hexec (own := own) (text := text) (index := is) (a := sa) hown' hstr'.1 hstr'.2
    (g := { method := m, pc := pc + 4, locals := ls, stack := .ref T.heap.size :: .ref T.heap.size :: rest, locked := none }) rfl d4' _ hsteps
/-- 'throw new E("text")', the text by a wide index -/
theorem vx_throwSW {cc : ByteArray} {pc : Nat} (hexec : p.tables.exec = Jvm.exec) (hb : c.code = cc) (hl : l.stackTraces = false) {own cls text : String} {names : List String} {ik is ic mc ms sa : Nat} {A : Nat → Prop}
    (hown : s.vm.findClass own = some m.cls) (hcls : Bundle.fit cls = true) (hnames : ∀ n ∈ names, Bundle.fit n = true)
    (hk : (Cond.classLink own ik cls).before args s = true) (hini : (Cond.initialized cls).before args s = true) (hstr : vk_R own is text sa s) (hat : ∀ w ∈ vx_atS own ic cls names, w.before args s = true)
    (hgood : ∀ w ∈ Cond.classLink own ik cls :: Cond.initialized cls :: vx_atS own ic cls names, vx_ot w = true)
    (hU : vx_Zq Bundle.tN "UNASSIGNED_STACK" Bundle.steD A s s.heap) (hN : vx_Zq Bundle.tN "SUPPRESSED_SENTINEL" Bundle.listD A s s.heap) (hS : va_S A s.heap H locs) (hsize : ls.size = c.maxLocals)
    (d0 : decode cc pc = .ok (.new ik, 3)) (d3 : decode cc (pc + 3) = .ok (.dup, 1)) (d4 : decode cc (pc + 4) = .ok (.ldc_w is, 3)) (d7 : decode cc (pc + 7) = .ok (.invokespecial ic, 3)) (d10 : decode cc (pc + 10) = .ok (.athrow, 1))
    (hout : ∀ x ∈ c.exceptionTable.toList, covers x (pc + 10) = false)
    (hRframes : names.length + 3 < R.frames) (hRlocals : (rest.map fun v => v.category).sum + (13 * (names.length + 1) + 43) ≤ R.locals) (hRcells : cells + 1 ≤ R.cells) (hRslots : slots + 6 ≤ R.slots) (hlocks : meth.locks = false)
    (hx : ∀ t : State, s.vm.Alike t.vm → H.size ≤ t.heap.size → (∀ q : Nat, q < H.size → t.heap[q]? = H[q]?) → XC cls s t)
    (hf : ∀ z ∈ locs, free z.base) (hc : cells + 1 ≤ mc) (hs : slots + 6 ≤ ms) :
    W p l e R s m args below meth c H locs cells slots (vx_MQ below Qc XC args s mc ms free) (F0 m pc ls rest) := by
  intro T hT X
  have htr : e.platform.stackTraces = false := (show e.platform.stackTraces = l.stackTraces by rw [X.admits.platform]).trans hl
  have Y := vx_rebase X (R' := { frames := R.frames, locals := R.locals, cells := 1, slots := 6 }) (Nat.le_refl _) (Nat.le_refl _) hRcells hRslots
  obtain ⟨s', hA⟩ : ∃ z, z = (T.setVm s.vm).setFrames (.invoking m args :: below) := ⟨_, rfl⟩
  rw [← hA] at Y
  have hvm : s'.vm = s.vm := by rw [hA]; rfl
  have hhp : s'.heap = H := by rw [hA]; exact hT
  have hW0 : s.WarmedH s'.vm := by rw [hvm]; exact State.WarmedH.refl s
  have hat' : ∀ w ∈ vx_atS own ic cls names, w.before args s' = true := fun w hw => vx_ot_at hW0 hvm.symm (hgood w (List.mem_cons_of_mem _ (List.mem_cons_of_mem _ hw))) (hat w hw)
  have hk' : (Cond.classLink own ik cls).before args s' = true := vx_ot_at hW0 hvm.symm (hgood _ List.mem_cons_self) hk
  have hini' : (Cond.initialized cls).before args s' = true := vx_ot_at hW0 hvm.symm (hgood _ (List.mem_cons_of_mem _ List.mem_cons_self)) hini
  have hU' : vx_Zq Bundle.tN "UNASSIGNED_STACK" Bundle.steD A s' s'.heap := by rw [hhp]; exact vx_Zq.moved hW0.alike (hU.kept hS.2.1)
  have hN' : vx_Zq Bundle.tN "SUPPRESSED_SENTINEL" Bundle.listD A s' s'.heap := by rw [hhp]; exact vx_Zq.moved hW0.alike (hN.kept hS.2.1)
  have h : ∀ w ∈ Bundle.ownAtoms own ic cls names, w.before args s' = true := vx_own hat' (vx_isRefq hU'.1) (vx_isRefq hN'.1) hU'.2.word hN'.2.word
  have hown' : s'.vm.findClass own = some m.cls := by rw [hvm]; exact hown
  have hins : (Cond.instantiable cls 6).before args s' = true := h _ (by simp [Bundle.ownAtoms])
  obtain ⟨vm₁, cX, kX, hfX, hkX, -, -, X₁, st1⟩ := Y.newCold hexec (own := own) (C := cls) (index := ik) (n := 6) hown' hk' hins hini'
    (g := F0 m pc ls rest) rfl (by rw [hb]; exact d0) (Nat.le_refl _) (Nat.le_refl _)
  generalize hT1 : (T.setVm vm₁).pushCell { cls := cX, slots := kX.instanceTypes.map defaultValue, vm := .none } = T1 at X₁ st1
  have hcat : (Value.ref T.heap.size).category = 1 := rfl
  have hcellA : T1.heap[T.heap.size]? = some (freshCell cX kX) := by rw [← hT1]; exact State.heap_pushCell_size _ _
  have d3' : decode c.code (pc + 3) = .ok (.dup, 1) := by rw [hb]; exact d3
  have d4' : decode c.code (pc + 4) = .ok (.ldc_w is, 3) := by rw [hb]; exact d4
  have hstr' : vk_R own is text sa s' := vk_R.warm hW0 hstr
  obtain ⟨U, hsteps, hrun, hend, hW, hsame, ce, hce, hO⟩ := X₁.ctorThrowS hexec htr (own := own) (cls := cls) (names := names) (ic := ic) hown' hcls hnames h (fun x hx => nomatch hx) hfX hkX hcellA (by rw [hhp, hT]; exact Nat.le_refl _) (msg := .ref sa) rfl
    (g := { method := m, pc := pc + 7, locals := ls, stack := .ref sa :: .ref T.heap.size :: .ref T.heap.size :: rest, locked := none }) rfl hsize rfl rfl (rest := rest) rfl
    (by rw [hb]; exact d7) (by rw [hb]; exact d10) hout hRframes (by simp only [List.map_cons, List.sum_cons, hcat]; omega) hlocks
  obtain ⟨f1, f2⟩ := vx_frame hsame
  rw [hhp] at f1 f2
  have hWs : s.WarmedH U.vm := State.WarmedH.trans hW0 hW
  have hcl : s.vm.findClass cls = some ce.cls := by
    have h9 := hO.cls
    rw [hvm] at h9
    exact h9
  have hall : s.sameButNew ({ U with vm := s.vm } : State) locs mc ms := by
    subst hA
    obtain ⟨e1, e2⟩ := hsame
    rw [State.setFrames_setFrames] at e1
    have h2 : (T.setVm s.vm).sameButNew ({ U with vm := s.vm } : State) [] (0 + 1) (0 + 6) := ⟨e1, e2⟩
    have h3 := X.same.trans h2
    rw [List.append_nil] at h3
    exact h3.mono hc hs
  refine ⟨U, ?_, .threw T.heap.size, hrun, hend, Or.inr ⟨T.heap.size, rfl, cls, ce, locs, hx U hWs.alike f1 (fun q hq => f2 q hq (fun z hz => nomatch hz)), hce, hO.vm, hcl, hWs, hall, hf⟩⟩
  refine st1 _ ?_
  show Steps p.tables e below (T1.setTop { method := m, pc := pc + 3, locals := ls, stack := .ref T.heap.size :: rest, locked := none }) _
  jvm_step X₁.here [X₁.here.top, hexec, d3', Value.category]
  exact X₁.ldcStringW hexec (own := own) (text := text) (index := is) (a := sa) hown' hstr'.1 hstr'.2
    (g := { method := m, pc := pc + 4, locals := ls, stack := .ref T.heap.size :: .ref T.heap.size :: rest, locked := none }) rfl d4' _ hsteps
end Ends
section Bodies
variable {l : Launch}
theorem vx_ofW {y : MethodName} {ws ws' : List Cond} {rm : Room} {Pc : Array Value → State → Prop} {Qc : Array Value → State → Outcome → State → Prop} {XC : String → State → State → Prop} {mc ms : Nat} {free : Addr → Prop} {cc : ByteArray} {maxL : Nat} {ret : Option FieldType}
    (hy : plainName y.cls = true) (hw : ws = Cond.code y cc maxL ret :: ws')
    (body : ∀ p e s m args below meth c s₁, BodyLoose p l y (headSpec ws rm) cc maxL ret e s m args below meth c s₁ → c.maxLocals = maxL → (∀ x ∈ c.exceptionTable.toList, False) → Pc args s →
      W p l e (headSpec ws rm).room s m args below meth c s.heap [] 0 0 (vx_MQ below Qc XC args s mc ms free) (entryFrame m args maxL)) : vx_Met l y ws rm Pc Qc XC mc ms free := by
  refine MetFree.of_bodyS (code := cc) (maxLocals := maxL) (ret := ret) hy ?_ ?_
  · intro args s m h hn
    obtain ⟨meth, c, h1, h2, h3, h4, h5, h6, -, -⟩ := Cond.code_spec hn (atoms_spec (ws := ws) h _ (by rw [hw]; exact List.mem_cons_self))
    exact ⟨meth, c, h1, h2, h3, h4, h5, h6⟩
  · intro p e s m args below meth c s₁ B hml hP _
    have hh0 : s₁.heap = s.heap := by rw [B.state]; rfl
    have ht : ∀ x ∈ c.exceptionTable.toList, False := by
      obtain ⟨meth9, c9, h1, h2, -, -, -, -, h7, -⟩ := Cond.code_spec B.named (atoms_spec (ws := ws) B.pre _ (by rw [hw]; exact List.mem_cons_self))
      cases Option.some.inj (h1.symm.trans B.method)
      cases Option.some.inj (h2.symm.trans (Stand.of_body B).code)
      intro x hx
      rw [Array.isEmpty_iff.mp h7] at hx
      cases hx
    obtain ⟨t, a1, o, b1, b2, b3⟩ := body p e s m args below meth c s₁ B hml ht hP s₁ hh0 (Stand.of_body B)
    exact ⟨t, o, a1, b1, b2, b3⟩
/-- the table of a body with handlers -/
theorem vx_table {p : Program} {x y : MethodName} {S : Spec} {cc bytes : ByteArray} {maxL maxL' : Nat} {ret ret' : Option FieldType} {e : Env} {s s₁ : State} {m : MethodId} {args : Array Value} {below : List Frame} {meth : Method} {c : Code} {hh : List (Nat × Nat × Nat × Nat)}
    (B : BodyLoose p l y S cc maxL ret e s m args below meth c s₁) (h : (Cond.codeWith y bytes maxL' ret' hh).before args s = true) : c.exceptionTable.toList = tableOf hh := by
  obtain ⟨m9, meth9, c9, hn9, h1, h2, -, -, h6, -⟩ := Cond.codeWith_spec h
  cases Option.some.inj (hn9.symm.trans B.named)
  cases Option.some.inj (h1.symm.trans B.method)
  cases Option.some.inj (h2.symm.trans (Stand.of_body B).code)
  rw [← h6, table_eq]
end Bodies
end VXA
/-! ===== END ===== -/
/-! ===== BEGIN a static call of a method with an exception table ===== -/
section VXS
variable {p : Program} {l : Launch} {e : Env} {R : Room} {s : State} {m : MethodId} {args : Array Value} {below : List Frame} {meth : Method} {c : Code} {T : State} {H : Heap} {locs : List Loc} {cells slots : Nat}
abbrev vx_CSW (R : Room) (s : State) (args : Array Value) (own : String) (index : Nat) (y : MethodName) (bytes : ByteArray) (maxL : Nat) (ret : Option FieldType) (hh : List (Nat × Nat × Nat × Nat)) (ws : List Cond) (rm : Room) (mc ms n : Nat) : Prop :=
  (rm.cells = mc ∧ rm.slots = ms ∧ rm.frames + 1 ≤ R.frames ∧ 8 + (maxL + 11) + rm.locals ≤ R.locals ∧ (∀ w ∈ ws, ∀ (a' : Array Value) (U : State), s.WarmedH U.vm → w.before a' U = true) ∧ Cond.codeWith y bytes maxL ret hh ∈ ws) ∧
  (Cond.codeWith y bytes maxL ret hh).before args s = true ∧ (Cond.initialized y.cls).before args s = true ∧ (y.cls ≠ "java/lang/invoke/MethodHandle" ∧ y.cls ≠ "java/lang/invoke/VarHandle") ∧
  (∀ sig, parseMethodDescriptor y.desc = some sig → n = sig.parameters.length) ∧ (Cond.methodLink own index y).before args s = true ∧ (Cond.static y).before args s = true
theorem vx_cwSW {own : String} {index maxL mc ms : Nat} {y : MethodName} {bytes : ByteArray} {ret : Option FieldType} {hh : List (Nat × Nat × Nat × Nat)} {Ts ws ws' : List Cond} {rm : Room} (n : Nat) (ht : ∀ w ∈ Ts, w.before args s = true) (hT : GoodIn Ts (va_wsS own index y ws)) (hw : ws = Cond.codeWith y bytes maxL ret hh :: ws') (hrc : rm.cells = mc) (hrs : rm.slots = ms)
    (hd : y.cls ≠ "java/lang/invoke/MethodHandle" ∧ y.cls ≠ "java/lang/invoke/VarHandle" ∧ (parseMethodDescriptor y.desc).map (fun d => d.parameters.length) = some n) (hR : rm.frames + 1 ≤ R.frames ∧ 8 + (maxL + 11) + rm.locals ≤ R.locals) :
    vx_CSW R s args own index y bytes maxL ret hh ws rm mc ms n := by
  have ok : ∀ w ∈ va_wsS own index y ws, w.before args s = true := fun w h => ht w (hT w h).1
  have hG : GoodIn Ts ws := fun w h => hT w (by unfold va_wsS; exact List.mem_append_right _ h)
  have hc : Cond.codeWith y bytes maxL ret hh ∈ ws := by rw [hw]; exact List.mem_cons_self
  refine ⟨⟨hrc, hrs, hR.1, hR.2, pay_in ht hG, hc⟩, ht _ (hG _ hc).1, ok _ (by simp [va_wsS]), ⟨hd.1, hd.2.1⟩, fun sig h => ?_, ok _ (by simp [va_wsS]), ok _ (by simp [va_wsS])⟩
  have h2 := hd.2.2
  rw [h] at h2
  exact (Option.some.inj h2).symm
theorem vx_callSW (X : Stand p l e R s m args below meth c T locs cells slots) (hexec : p.tables.exec = Jvm.exec) {own : String} {index : Nat} {y : MethodName} {bytes : ByteArray} {maxL : Nat} {ret : Option FieldType} {hh : List (Nat × Nat × Nat × Nat)}
    (hown : s.vm.findClass own = some m.cls) (hlink : (Cond.methodLink own index y).before args s = true) (hstat : (Cond.static y).before args s = true) (hinit : (Cond.initialized y.cls).before args s = true)
    (hcode : (Cond.codeWith y bytes maxL ret hh).before args s = true) (hy : y.cls ≠ "java/lang/invoke/MethodHandle" ∧ y.cls ≠ "java/lang/invoke/VarHandle")
    {W9 : Nat} {Pre : Pt → Array Value → Prop} {Post : Pt → Array Value → Option Value → Pt → Prop} (hK : Back l R p e below s args y 3 W9 Pre Post)
    {g : JFrame} (hg : g.method = m) (hsize : g.locals.size = c.maxLocals) {argsL rest : List Value} (hlen : ∀ sig, parseMethodDescriptor y.desc = some sig → argsL.length = sig.parameters.length)
    (hstack : g.stack = argsL.reverse ++ rest) (hW : 2 * g.monitorRoom + (rest.map fun v => v.category).sum ≤ W9) (hdg : decode c.code g.pc = .ok (.invokestatic index, 3))
    (hpre : ∀ vm₁, s.WarmedH vm₁ → Pre ⟨T.setVm vm₁, locs, cells, slots⟩ argsL.toArray) :
    ∃ (v : Option Value) (vm₁ : Vm) (B : Pt), s.WarmedH vm₁ ∧ Stand p l e R s m args below meth c B.U B.locs B.cells B.slots ∧ Post ⟨T.setVm vm₁, locs, cells, slots⟩ argsL.toArray v B ∧
      ∀ target, Steps p.tables e below (B.U.setTop { g with pc := g.pc + 3, stack := v.toList ++ rest }) target → Steps p.tables e below (T.setTop g) target := by
  obtain ⟨mk, methM, cM, hnamed, hmethM, -, -, -, -, -, -, hsigM⟩ := Cond.codeWith_spec hcode
  have hstatic : methM.isStatic = true := Cond.static_spec hnamed hmethM hstat
  obtain ⟨kP, hkP, -⟩ := className_of_methodNamed hnamed
  have hinitP : kP.init = .initialized := Cond.initialized_spec (findClass_of_methodNamed hnamed) hkP hinit
  obtain ⟨vm₁, X₁, hstep₁⟩ := X.invokestatic hexec hown hlink hnamed hmethM hstatic hkP hinitP hy (g := g) hg (argsL := argsL) (rest := rest) (hlen _ hsigM) hstack hdg
  obtain ⟨v, B, X', hpost, hsteps⟩ := hK m meth c ⟨T.setVm vm₁, locs, cells, slots⟩ { g with stack := rest } (.invokestatic index) mk argsL.toArray X₁ hg hsize hdg hW (X₁.named hnamed) (hpre vm₁ X₁.warmed)
  exact ⟨v, vm₁, B, X₁.warmed, X', hpost, fun target h => hstep₁ _ fun acts => by rw [doInvoke_state]; exact hsteps.trans h⟩
theorem vx_runSW {y : MethodName} {bytes cc : ByteArray} {maxL nL mc ms n index : Nat} {ret : Option FieldType} {hh : List (Nat × Nat × Nat × Nat)} {ws : List Cond} {rm : Room} {Pc : Array Value → State → Prop} {Qc : Array Value → State → Outcome → State → Prop} {free : Addr → Prop} {Ts : List Cond} {own : String} {As rest : List Value} {g : JFrame}
    (S : CallFix p m c cc nL s args Ts own) (hM : Met l y ws rm Pc Qc mc ms free) (cw : vx_CSW R s args own index y bytes maxL ret hh ws rm mc ms n) (hp : PreS s H Pc As)
    (hg : g.method = m) (hn : As.length = n) (hsize : g.locals.size = nL) (hstack : g.stack = As.reverse ++ rest) (hW : 2 * g.monitorRoom + (rest.map fun v => v.category).sum ≤ 8) (hdg : decode cc g.pc = .ok (.invokestatic index, 3)) (hf : cells + mc ≤ R.cells ∧ slots + ms ≤ R.slots) :
    va_Run p l e R s m args below meth c H locs cells slots mc ms g rest (Qc As.toArray) (free) := by
  obtain ⟨⟨hrc, hrs, hfr, hlo, hws, hcw⟩, hcode, hini, hy, hlen, hl, hstt⟩ := cw
  have hK : Back l R p e below s args y 3 8 (PreOf R mc ms Pc) (PostOf Qc mc ms free) := va_backW (hh := hh) (bytes := bytes) (maxL := maxL) (ret := ret) hM hp.1 hrc hrs hfr hlo hws hcw (fun a' U hW => word_at hW (Or.inl (by first | rfl | simp [Cond.onTables, Cond.keeps, Cond.steady])) hini)
  obtain ⟨hx, hb, hml, ho, -⟩ := S
  intro T hT X
  obtain ⟨v, vm₁, ⟨U', l2, c2, s2⟩, hW₁, X', ⟨g', mk, t, L, e1, e2, hq, h1, hL, h2, h3⟩, st⟩ := vx_callSW X hx (hh := hh) (bytes := bytes) (maxL := maxL) (ret := ret) ho hl hstt hini hcode hy hK hg (hsize.trans hml.symm) (argsL := As) (rest := rest) (fun sig h => hn.trans (hlen sig h)) hstack hW (by rw [hb]; exact hdg)
    (fun vm₁ hW₁ => ⟨hf.1, hf.2, hp.2 (T.setVm vm₁) hT hW₁⟩)
  dsimp only [Pt.U, Pt.locs, Pt.cells, Pt.slots] at X' e1 e2 h1 h2 h3 st
  subst h1; subst h2; subst h3
  exact ⟨v, (T.setVm vm₁).calling g' mk As.toArray, t, U', L, hT, X', hL, e1, e2, hq, st⟩
/-- not caught here, past rows that name other classes: it goes on to the caller -/
theorem vx_outP {p : Program} {l : Launch} {e : Env} {R : Room} {s : State} {m : MethodId} {args : Array Value} {below : List Frame} {meth : Method} {c : Code} {H : Heap} {locs : List Loc} {cells slots : Nat} {free : Addr → Prop} {ls : Array Slot} {rest : List Value} {Qc : Array Value → State → Outcome → State → Prop} {XC : String → State → State → Prop}
    {pc : Nat} {own E : String} {ce : Cell} {q : Addr} {mc ms : Nat} (hown : s.vm.findClass own = some m.cls) (hlocks : meth.locks = false)
    (hpass : ∀ z ∈ c.exceptionTable.toList, covers z pc = false ∨ (z.catchType ≠ 0 ∧ ∃ nm : String, (Cond.classLink own z.catchType nm).before args s = true ∧ va_Nc E nm s)) (hcell : H[q]? = some ce) (hv : ce.vm = .none) (hcl : s.vm.findClass E = some ce.cls)
    (hx : ∀ t : State, t.heap = H → s.vm.Alike t.vm → XC E s t) (hf : ∀ z ∈ locs, free z.base) (hc : cells ≤ mc) (hs : slots ≤ ms) :
    vx_W p l e R s m args below meth c H locs cells slots (vx_MQ below Qc XC args s mc ms free) (F0 m pc ls rest) q := by
  intro T hT X
  have hpl : e.platform.magicAccessors = ({} : Platform).magicAccessors := by rw [X.admits.platform]
  obtain ⟨vm', hW', X', st⟩ := X.outThrough hlocks q (g := F0 m pc ls rest) rfl rfl rfl (cell := ce) (by rw [hT]; exact hcell) (by rw [hv]; rfl)
    (by obtain ⟨k9, h9, -⟩ := Vm.findClass_spec hcl; exact ⟨k9, h9⟩) (fun z hz => by
      rcases hpass z hz with h | ⟨hz0, nm, hl1, hn1⟩
      · exact Or.inl h
      · obtain ⟨c6, hc6, hcl6⟩ := Cond.classLink_spec hown hl1 e.platform hpl
        obtain ⟨a8, b8, h1, h2, h3⟩ := hn1
        cases Option.some.inj (h1.symm.trans hcl)
        cases Option.some.inj (h2.symm.trans hc6)
        exact Or.inr ⟨hz0, _, hcl6, h3⟩)
  obtain ⟨g₀, hfr⟩ := X'.frames_eq
  have hcell9 : ((T.setVm vm').setFrames (.throwing q :: below)).heap[q]? = some ce := by
    show T.heap[q]? = some ce
    rw [hT]; exact hcell
  have hend : Ended ((T.setVm vm').setFrames (.throwing q :: below)) below (.threw q) := State.frames_setFrames _ (State.cur_lt_of_frames hfr)
  refine ⟨(T.setVm vm').setFrames (.throwing q :: below), ?_, .threw q, X'.here.running, hend, Or.inr ⟨q, rfl, E, ce, locs, hx _ hT (X'.ends _).1.alike, hcell9, hv, hcl, (X'.ends _).1, (X'.ends _).2.mono hc hs, hf⟩⟩
  rw [X.pushThrowing_eq]
  exact st
/-- a thing of a world lies in the heap -/
theorem vx_lt {D : va_G} {cl : List vw_C} {ws : va_W} {H1 : Heap} (h : va_P D cl ws H1) {k : Nat} {q : Nat × va_E} (hk : ws[k]? = some q) : q.1 < H1.size := (h k q hk).lt
end VXS
/-! ===== END ===== -/
/-! ===== BEGIN methods with a table of their own: called by a name, returning or throwing ===== -/
section VXH
/-! vx_backW, vx_callVX, vx_callSX, vx_callVW, vx_runVW, vx_runVX, vx_runSX, vx_ofWH follow the same proofs as their sisters above (Free/Laws.lean, Shelf42/LK1.lean); vx_outP calls Shelf42/NT130.lean (outThrough). -/
section
variable {l : Launch} {R : Room} {p : Program} {e : Env} {below : List Frame} {s : State} {sargs : Array Value} {y : MethodName} {len W9 : Nat}
theorem vx_backW {ws : List Cond} {rm : Room} {Pc : Array Value → State → Prop} {Qc : Array Value → State → Outcome → State → Prop} {XC : String → State → State → Prop} {mc ms : Nat} {free : Addr → Prop} {bytes : ByteArray} {maxL : Nat} {ret : Option FieldType} {hh : List (Nat × Nat × Nat × Nat)}
    (hM : vx_Met l y ws rm Pc Qc XC mc ms free) (hblind : FrameBlind Pc) (hrc : rm.cells = mc) (hrs : rm.slots = ms)
    (hframes : rm.frames + 1 ≤ R.frames) (hlocals : W9 + (maxL + 11) + rm.locals ≤ R.locals)
    (hws : ∀ w ∈ ws, ∀ a' U, s.WarmedH U.vm → w.before a' U = true) (hcode : Cond.codeWith y bytes maxL ret hh ∈ ws) (hinit : ∀ a' U, s.WarmedH U.vm → (Cond.initialized y.cls).before a' U = true) :
    vx_Back l R p e below s sargs y len W9 (PreOf R mc ms Pc) (PostOf Qc mc ms free) (vx_Post XC mc ms free) := by
  intro m meth c A g ig mk a X hg hsize hdg hW hn hp
  have h1 : (headSpec ws rm).pre.before a A.U = true := atoms_intro fun w hw => hws w hw _ _ X.warmed
  have h2 : (Cond.codeWith y bytes maxL ret hh).before a A.U = true := hws _ hcode _ _ X.warmed
  have h3 : (Cond.initialized y.cls).before a A.U = true := hinit _ _ X.warmed
  have h4 : A.cells + (headSpec ws rm).room.cells ≤ R.cells := by rw [show (headSpec ws rm).room.cells = mc from hrc]; exact hp.1
  have h5 : A.slots + (headSpec ws rm).room.slots ≤ R.slots := by rw [show (headSpec ws rm).room.slots = ms from hrs]; exact hp.2.1
  have hPc : Pc a (A.U.calling g mk a) := hblind _ _ _ _ hp.2.2
  obtain ⟨U, Ls, c0, s0⟩ := A
  dsimp only [Pt.U, Pt.locs, Pt.cells, Pt.slots] at h1 h2 h3 h4 h5 X hn hPc ⊢
  obtain ⟨m9, methY, cY, hn9, hmY, hcY, -, hlY, -⟩ := Cond.codeWith_spec h2
  cases Option.some.inj (hn9.symm.trans hn)
  obtain ⟨kY, hkY, -⟩ := className_of_methodNamed hn
  have hinitY : kY.init = .initialized := Cond.initialized_spec (findClass_of_methodNamed hn) hkY h3
  have h : At U g.method c below := by rw [hg]; exact X.here
  have hlocals9 : W9 + (maxL + 11) + (headSpec ws rm).room.locals ≤ R.locals := hlocals
  have happ : (headSpec ws rm).appliesLoose y e.platform (U.calling g mk a) = true :=
    Spec.appliesLoose_calling (g := g) h hdg hn hkY hinitY
      (X.room_calling (g := g) (R' := (headSpec ws rm).room) hsize hmY hcY hframes (by rw [hlY]; omega) h4 h5) h1
  obtain ⟨mid, hmid⟩ := h.above
  have hfr : (U.setTop g).frames = (.java g :: mid) ++ below := by rw [State.frames_setTop' g h.top, hmid]; rfl
  obtain ⟨o, s₂, hsteps, -, hend, hq⟩ := Steps.callFree hM p X.admits X.cas X.clock (acts := []) hfr happ hPc trivial
  have hq' : vx_Q Qc XC mc ms free a (U.calling g mk a) o s₂ := hq
  rw [State.frames_setTop' g h.top] at hend
  obtain ⟨g₀, hg0⟩ := Option.isSome_iff_exists.mp h.top
  obtain ⟨r, hr⟩ := State.topJava?_eq_some.mp hg0
  have hr' : (({ U with heap := s₂.heap, slotsUsed := s₂.slotsUsed } : State).setVm s₂.vm).frames = .java g₀ :: r := hr
  rcases hq' with ⟨hqc, L, hfe, hL⟩ | ⟨q, rfl, E, ce, L, hx, hce, hcv, hcl, hW₂, hsm, hL⟩
  · obtain ⟨⟨v, rfl⟩, hW₂, e2, q2, q3, q4, q5, q6⟩ := id hfe
    have e3 : s₂ = ({ (U.calling g mk a).setFrames s₂.frames with heap := s₂.heap, slotsUsed := s₂.slotsUsed } : State).setVm s₂.vm := by
      have : s₂ = ({ s₂ with vm := (U.calling g mk a).vm } : State).setVm s₂.vm := rfl
      rw [e2] at this
      exact this
    obtain ⟨c₂, i₂, len₂, hc₂, hd₂, hf₂⟩ := hend
    have hW' : U.WarmedH s₂.vm := hW₂
    have hcc : c₂ = c := by
      have h1 : s₂.code? g.method = U.code? g.method := by
        rw [State.code?_eq, State.code?_eq, hW'.alike.method?]
      exact Option.some.inj (hc₂.symm.trans (h1.trans h.code))
    subst hcc
    have hlen : len₂ = len := by rw [hdg] at hd₂; cases hd₂; rfl
    subst hlen
    have hs₂ : s₂ = (({ U with heap := s₂.heap, slotsUsed := s₂.slotsUsed } : State).setVm s₂.vm).setTop { g with pc := g.pc + len₂, stack := v.toList ++ g.stack } := by
      refine e3.trans ?_
      rw [hf₂, State.calling_eq h.top, State.setFrames_setFrames, State.setTop_of_frames _ hr', hr]
      rfl
    have hsame : U.sameButNew ({ U with heap := s₂.heap, slotsUsed := s₂.slotsUsed } : State) L mc ms := by
      refine ⟨?_, q2, q3, q4, q5, q6⟩
      obtain ⟨t, ht, -⟩ := State.frames_cons hr
      show ({ U with heap := s₂.heap, slotsUsed := s₂.slotsUsed } : State) = { U.setFrames U.frames with heap := s₂.heap, slotsUsed := s₂.slotsUsed }
      rw [State.setFrames_self ht]
    subst hg
    refine Or.inl ⟨v, ⟨(({ U with heap := s₂.heap, slotsUsed := s₂.slotsUsed } : State).setVm s₂.vm), Ls ++ L, c0 + mc, s0 + ms⟩,
      ⟨X.admits, X.cas, X.clock, X.frames, X.room, X.hears, X.method, X.code, (X.here.setHeapUsed s₂.heap s₂.slotsUsed).setVm hW'.alike, X.tail, State.WarmedH.trans X.warmed hW', X.limits, X.bytes, X.same.trans (hsame.setVm s.vm)⟩,
      ⟨g, mk, s₂, L, rfl, rfl, hqc, rfl, hL, rfl, rfl⟩, ?_⟩
    show Steps p.tables e below _ ((({ U with heap := s₂.heap, slotsUsed := s₂.slotsUsed } : State).setVm s₂.vm).setTop { g with pc := g.pc + len₂, stack := v.toList ++ g.stack })
    rw [← hs₂]
    exact hsteps
  · obtain ⟨e2, q2, q3, q4, q5, q6⟩ := id hsm
    have e3 : s₂ = ({ (U.calling g mk a).setFrames s₂.frames with heap := s₂.heap, slotsUsed := s₂.slotsUsed } : State).setVm s₂.vm := by
      have : s₂ = ({ s₂ with vm := (U.calling g mk a).vm } : State).setVm s₂.vm := rfl
      rw [e2] at this
      exact this
    have hf₂ : s₂.frames = .throwing q :: .java g :: U.frames.tail := hend
    have hW' : U.WarmedH s₂.vm := hW₂
    have hs₂ : s₂ = ((({ U with heap := s₂.heap, slotsUsed := s₂.slotsUsed } : State).setVm s₂.vm).setTop g).pushFrame (.throwing q) := by
      refine e3.trans ?_
      rw [hf₂, State.calling_eq h.top, State.setFrames_setFrames, State.pushFrame, State.frames_setTop _ hr', State.setTop_of_frames _ hr', State.setFrames_setFrames, hr]
      rfl
    have hsame : U.sameButNew ({ U with heap := s₂.heap, slotsUsed := s₂.slotsUsed } : State) L mc ms := by
      refine ⟨?_, q2, q3, q4, q5, q6⟩
      obtain ⟨t, ht, -⟩ := State.frames_cons hr
      show ({ U with heap := s₂.heap, slotsUsed := s₂.slotsUsed } : State) = { U.setFrames U.frames with heap := s₂.heap, slotsUsed := s₂.slotsUsed }
      rw [State.setFrames_self ht]
    subst hg
    refine Or.inr ⟨q, ⟨(({ U with heap := s₂.heap, slotsUsed := s₂.slotsUsed } : State).setVm s₂.vm), Ls ++ L, c0 + mc, s0 + ms⟩,
      ⟨X.admits, X.cas, X.clock, X.frames, X.room, X.hears, X.method, X.code, (X.here.setHeapUsed s₂.heap s₂.slotsUsed).setVm hW'.alike, X.tail, State.WarmedH.trans X.warmed hW', X.limits, X.bytes, X.same.trans (hsame.setVm s.vm)⟩,
      ⟨g, mk, s₂, L, E, ce, rfl, rfl, hx, hce, hcv, hcl, rfl, hL, rfl, rfl⟩, ?_⟩
    show Steps p.tables e below _ (((({ U with heap := s₂.heap, slotsUsed := s₂.slotsUsed } : State).setVm s₂.vm).setTop g).pushFrame (.throwing q))
    rw [← hs₂]
    exact hsteps
end
variable {p : Program} {l : Launch} {e : Env} {R : Room} {s : State} {m : MethodId} {args : Array Value} {below : List Frame} {meth : Method} {c : Code} {T : State} {H : Heap} {locs : List Loc} {cells slots : Nat}
theorem vx_callVX (X : Stand p l e R s m args below meth c T locs cells slots) (hexec : p.tables.exec = Jvm.exec) {own C : String} {index : Nat} {y : MethodName} {bytes : ByteArray} {maxL : Nat} {ret : Option FieldType} {hh : List (Nat × Nat × Nat × Nat)}
    (hown : s.vm.findClass own = some m.cls) (hlink : (Cond.methodLink own index y).before args s = true) (hinst : (Cond.instanceMethod y).before args s = true) (hsel : (Cond.selects C y y).before args s = true)
    (hcode : (Cond.codeWith y bytes maxL ret hh).before args s = true) (hy : y.cls ≠ "java/lang/invoke/MethodHandle" ∧ y.cls ≠ "java/lang/invoke/VarHandle")
    {W9 : Nat} {Pre : Pt → Array Value → Prop} {Post : Pt → Array Value → Option Value → Pt → Prop} {PostX : Pt → Array Value → Addr → Pt → Prop} (hK : vx_Back l R p e below s args y 3 W9 Pre Post PostX)
    {b : Addr} {cellB : Cell} (hcell : T.heap[b]? = some cellB) (hobj : cellB.vm.isStatics = false) (hcls : s.vm.findClass C = some cellB.cls)
    {g : JFrame} (hg : g.method = m) (hsize : g.locals.size = c.maxLocals) {argsL rest : List Value} (hlen : ∀ sig, parseMethodDescriptor y.desc = some sig → argsL.length = sig.parameters.length)
    (hstack : g.stack = argsL.reverse ++ .ref b :: rest) (hW : 2 * g.monitorRoom + (rest.map fun v => v.category).sum ≤ W9) (hdg : decode c.code g.pc = .ok (.invokevirtual index, 3))
    (hpre : ∀ vm₁, s.WarmedH vm₁ → Pre ⟨T.setVm vm₁, locs, cells, slots⟩ (Value.ref b :: argsL).toArray) :
    (∃ (v : Option Value) (vm₁ : Vm) (B : Pt), s.WarmedH vm₁ ∧ Stand p l e R s m args below meth c B.U B.locs B.cells B.slots ∧ Post ⟨T.setVm vm₁, locs, cells, slots⟩ (Value.ref b :: argsL).toArray v B ∧
      ∀ target, Steps p.tables e below (B.U.setTop { g with pc := g.pc + 3, stack := v.toList ++ rest }) target → Steps p.tables e below (T.setTop g) target) ∨
    (∃ (q : Addr) (vm₁ : Vm) (B : Pt), s.WarmedH vm₁ ∧ Stand p l e R s m args below meth c B.U B.locs B.cells B.slots ∧ PostX ⟨T.setVm vm₁, locs, cells, slots⟩ (Value.ref b :: argsL).toArray q B ∧
      Steps p.tables e below (T.setTop g) ((B.U.setTop { g with stack := rest }).pushFrame (.throwing q))) := by
  obtain ⟨mk, methM, hnamed, hmethM, hstM, habM⟩ := Cond.instanceMethod_spec hinst
  obtain ⟨m8, methM', cM, hn8, hmethM', -, -, -, -, -, -, hsigM⟩ := Cond.codeWith_spec hcode
  cases Option.some.inj (hn8.symm.trans hnamed)
  cases hmethM.symm.trans hmethM'
  obtain ⟨c2, r2, m2, q1, q2, q3, q4, kP, hkP, hkPi⟩ := Cond.selects_spec hsel
  cases hcls.symm.trans q1
  cases (State.methodFound?_of_named hnamed hy).symm.trans q2
  cases hnamed.symm.trans q3
  have hselP : selectMethod e.platform s.vm cellB.cls mk = .method mk := by rw [Launch.admits_selectMethod X.admits]; exact q4
  obtain ⟨vm₁, X₁, hstep₁⟩ := X.invokevirtual hexec hown hlink hnamed hmethM hstM hkP hkPi hy (a := b) (cell := cellB) hcell
    (fun z h => by rw [h] at hobj; cases hobj) hselP hmethM habM hkP hkPi (g := g) hg (argsL := argsL) (rest := rest) (hlen _ hsigM) hstack hdg
  rcases hK m meth c ⟨T.setVm vm₁, locs, cells, slots⟩ { g with stack := rest } (.invokevirtual index) mk (Value.ref b :: argsL).toArray X₁ hg hsize hdg hW (X₁.named hnamed) (hpre vm₁ X₁.warmed) with ⟨v, B, X', hpost, hsteps⟩ | ⟨q, B, X', hpost, hsteps⟩
  · exact Or.inl ⟨v, vm₁, B, X₁.warmed, X', hpost, fun target h => hstep₁ _ fun acts => by rw [doInvoke_state]; exact hsteps.trans h⟩
  · exact Or.inr ⟨q, vm₁, B, X₁.warmed, X', hpost, hstep₁ _ fun acts => by rw [doInvoke_state]; exact hsteps⟩
theorem vx_callSX (X : Stand p l e R s m args below meth c T locs cells slots) (hexec : p.tables.exec = Jvm.exec) {own : String} {index : Nat} {y : MethodName} {bytes : ByteArray} {maxL : Nat} {ret : Option FieldType} {hh : List (Nat × Nat × Nat × Nat)}
    (hown : s.vm.findClass own = some m.cls) (hlink : (Cond.methodLink own index y).before args s = true) (hstat : (Cond.static y).before args s = true) (hinit : (Cond.initialized y.cls).before args s = true)
    (hcode : (Cond.codeWith y bytes maxL ret hh).before args s = true) (hy : y.cls ≠ "java/lang/invoke/MethodHandle" ∧ y.cls ≠ "java/lang/invoke/VarHandle")
    {W9 : Nat} {Pre : Pt → Array Value → Prop} {Post : Pt → Array Value → Option Value → Pt → Prop} {PostX : Pt → Array Value → Addr → Pt → Prop} (hK : vx_Back l R p e below s args y 3 W9 Pre Post PostX)
    {g : JFrame} (hg : g.method = m) (hsize : g.locals.size = c.maxLocals) {argsL rest : List Value} (hlen : ∀ sig, parseMethodDescriptor y.desc = some sig → argsL.length = sig.parameters.length)
    (hstack : g.stack = argsL.reverse ++ rest) (hW : 2 * g.monitorRoom + (rest.map fun v => v.category).sum ≤ W9) (hdg : decode c.code g.pc = .ok (.invokestatic index, 3))
    (hpre : ∀ vm₁, s.WarmedH vm₁ → Pre ⟨T.setVm vm₁, locs, cells, slots⟩ argsL.toArray) :
    (∃ (v : Option Value) (vm₁ : Vm) (B : Pt), s.WarmedH vm₁ ∧ Stand p l e R s m args below meth c B.U B.locs B.cells B.slots ∧ Post ⟨T.setVm vm₁, locs, cells, slots⟩ argsL.toArray v B ∧
      ∀ target, Steps p.tables e below (B.U.setTop { g with pc := g.pc + 3, stack := v.toList ++ rest }) target → Steps p.tables e below (T.setTop g) target) ∨
    (∃ (q : Addr) (vm₁ : Vm) (B : Pt), s.WarmedH vm₁ ∧ Stand p l e R s m args below meth c B.U B.locs B.cells B.slots ∧ PostX ⟨T.setVm vm₁, locs, cells, slots⟩ argsL.toArray q B ∧
      Steps p.tables e below (T.setTop g) ((B.U.setTop { g with stack := rest }).pushFrame (.throwing q))) := by
  obtain ⟨mk, methM, cM, hnamed, hmethM, -, -, -, -, -, -, hsigM⟩ := Cond.codeWith_spec hcode
  have hstatic : methM.isStatic = true := Cond.static_spec hnamed hmethM hstat
  obtain ⟨kP, hkP, -⟩ := className_of_methodNamed hnamed
  have hinitP : kP.init = .initialized := Cond.initialized_spec (findClass_of_methodNamed hnamed) hkP hinit
  obtain ⟨vm₁, X₁, hstep₁⟩ := X.invokestatic hexec hown hlink hnamed hmethM hstatic hkP hinitP hy (g := g) hg (argsL := argsL) (rest := rest) (hlen _ hsigM) hstack hdg
  rcases hK m meth c ⟨T.setVm vm₁, locs, cells, slots⟩ { g with stack := rest } (.invokestatic index) mk argsL.toArray X₁ hg hsize hdg hW (X₁.named hnamed) (hpre vm₁ X₁.warmed) with ⟨v, B, X', hpost, hsteps⟩ | ⟨q, B, X', hpost, hsteps⟩
  · exact Or.inl ⟨v, vm₁, B, X₁.warmed, X', hpost, fun target h => hstep₁ _ fun acts => by rw [doInvoke_state]; exact hsteps.trans h⟩
  · exact Or.inr ⟨q, vm₁, B, X₁.warmed, X', hpost, hstep₁ _ fun acts => by rw [doInvoke_state]; exact hsteps⟩
theorem vx_callVW (X : Stand p l e R s m args below meth c T locs cells slots) (hexec : p.tables.exec = Jvm.exec) {own C : String} {index : Nat} {y : MethodName} {bytes : ByteArray} {maxL : Nat} {ret : Option FieldType} {hh : List (Nat × Nat × Nat × Nat)}
    (hown : s.vm.findClass own = some m.cls) (hlink : (Cond.methodLink own index y).before args s = true) (hinst : (Cond.instanceMethod y).before args s = true) (hsel : (Cond.selects C y y).before args s = true)
    (hcode : (Cond.codeWith y bytes maxL ret hh).before args s = true) (hy : y.cls ≠ "java/lang/invoke/MethodHandle" ∧ y.cls ≠ "java/lang/invoke/VarHandle")
    {W9 : Nat} {Pre : Pt → Array Value → Prop} {Post : Pt → Array Value → Option Value → Pt → Prop} (hK : Back l R p e below s args y 3 W9 Pre Post)
    {b : Addr} {cellB : Cell} (hcell : T.heap[b]? = some cellB) (hobj : cellB.vm.isStatics = false) (hcls : s.vm.findClass C = some cellB.cls)
    {g : JFrame} (hg : g.method = m) (hsize : g.locals.size = c.maxLocals) {argsL rest : List Value} (hlen : ∀ sig, parseMethodDescriptor y.desc = some sig → argsL.length = sig.parameters.length)
    (hstack : g.stack = argsL.reverse ++ .ref b :: rest) (hW : 2 * g.monitorRoom + (rest.map fun v => v.category).sum ≤ W9) (hdg : decode c.code g.pc = .ok (.invokevirtual index, 3))
    (hpre : ∀ vm₁, s.WarmedH vm₁ → Pre ⟨T.setVm vm₁, locs, cells, slots⟩ (Value.ref b :: argsL).toArray) :
    ∃ (v : Option Value) (vm₁ : Vm) (B : Pt), s.WarmedH vm₁ ∧ Stand p l e R s m args below meth c B.U B.locs B.cells B.slots ∧ Post ⟨T.setVm vm₁, locs, cells, slots⟩ (Value.ref b :: argsL).toArray v B ∧
      ∀ target, Steps p.tables e below (B.U.setTop { g with pc := g.pc + 3, stack := v.toList ++ rest }) target → Steps p.tables e below (T.setTop g) target := by
  obtain ⟨mk, methM, hnamed, hmethM, hstM, habM⟩ := Cond.instanceMethod_spec hinst
  obtain ⟨m8, methM', cM, hn8, hmethM', -, -, -, -, -, -, hsigM⟩ := Cond.codeWith_spec hcode
  cases Option.some.inj (hn8.symm.trans hnamed)
  cases hmethM.symm.trans hmethM'
  obtain ⟨c2, r2, m2, q1, q2, q3, q4, kP, hkP, hkPi⟩ := Cond.selects_spec hsel
  cases hcls.symm.trans q1
  cases (State.methodFound?_of_named hnamed hy).symm.trans q2
  cases hnamed.symm.trans q3
  have hselP : selectMethod e.platform s.vm cellB.cls mk = .method mk := by rw [Launch.admits_selectMethod X.admits]; exact q4
  obtain ⟨vm₁, X₁, hstep₁⟩ := X.invokevirtual hexec hown hlink hnamed hmethM hstM hkP hkPi hy (a := b) (cell := cellB) hcell
    (fun z h => by rw [h] at hobj; cases hobj) hselP hmethM habM hkP hkPi (g := g) hg (argsL := argsL) (rest := rest) (hlen _ hsigM) hstack hdg
  obtain ⟨v, B, X', hpost, hsteps⟩ := hK m meth c ⟨T.setVm vm₁, locs, cells, slots⟩ { g with stack := rest } (.invokevirtual index) mk (Value.ref b :: argsL).toArray X₁ hg hsize hdg hW (X₁.named hnamed) (hpre vm₁ X₁.warmed)
  exact ⟨v, vm₁, B, X₁.warmed, X', hpost, fun target h => hstep₁ _ fun acts => by rw [doInvoke_state]; exact hsteps.trans h⟩
abbrev vx_CVW (R : Room) (s : State) (args : Array Value) (own C : String) (index : Nat) (y : MethodName) (bytes : ByteArray) (maxL : Nat) (ret : Option FieldType) (hh : List (Nat × Nat × Nat × Nat)) (ws : List Cond) (rm : Room) (mc ms n : Nat) : Prop :=
  (rm.cells = mc ∧ rm.slots = ms ∧ rm.frames + 1 ≤ R.frames ∧ 8 + (maxL + 11) + rm.locals ≤ R.locals ∧ (∀ w ∈ ws, ∀ (a' : Array Value) (U : State), s.WarmedH U.vm → w.before a' U = true) ∧ Cond.codeWith y bytes maxL ret hh ∈ ws) ∧
  (Cond.codeWith y bytes maxL ret hh).before args s = true ∧ (Cond.initialized y.cls).before args s = true ∧ (y.cls ≠ "java/lang/invoke/MethodHandle" ∧ y.cls ≠ "java/lang/invoke/VarHandle") ∧
  (∀ sig, parseMethodDescriptor y.desc = some sig → n = sig.parameters.length) ∧ (Cond.methodLink own index y).before args s = true ∧ (Cond.instanceMethod y).before args s = true ∧ (Cond.selects C y y).before args s = true
theorem vx_cwVW {own C : String} {index maxL mc ms : Nat} {y : MethodName} {bytes : ByteArray} {ret : Option FieldType} {hh : List (Nat × Nat × Nat × Nat)} {Ts ws ws' : List Cond} {rm : Room} (n : Nat) (ht : ∀ w ∈ Ts, w.before args s = true) (hT : GoodIn Ts (wsV own index C y ws)) (hw : ws = Cond.codeWith y bytes maxL ret hh :: ws') (hrc : rm.cells = mc) (hrs : rm.slots = ms)
    (hd : y.cls = C ∧ y.cls ≠ "java/lang/invoke/MethodHandle" ∧ y.cls ≠ "java/lang/invoke/VarHandle" ∧ (parseMethodDescriptor y.desc).map (fun d => d.parameters.length) = some n) (hR : rm.frames + 1 ≤ R.frames ∧ 8 + (maxL + 11) + rm.locals ≤ R.locals) :
    vx_CVW R s args own C index y bytes maxL ret hh ws rm mc ms n := by
  obtain ⟨hC, hd⟩ := hd
  subst hC
  have ok : ∀ w ∈ wsV own index y.cls y ws, w.before args s = true := fun w h => ht w (hT w h).1
  have hG : GoodIn Ts ws := fun w h => hT w (by unfold wsV; exact List.mem_append_right _ h)
  have hc : Cond.codeWith y bytes maxL ret hh ∈ ws := by rw [hw]; exact List.mem_cons_self
  refine ⟨⟨hrc, hrs, hR.1, hR.2, pay_in ht hG, hc⟩, ht _ (hG _ hc).1, ok _ (by simp [wsV]), ⟨hd.1, hd.2.1⟩, fun sig h => ?_, ok _ (by simp [wsV]), ok _ (by simp [wsV]), ok _ (by simp [wsV])⟩
  have h2 := hd.2.2
  rw [h] at h2
  exact (Option.some.inj h2).symm
theorem vx_runVW {y : MethodName} {bytes cc : ByteArray} {maxL nL mc ms n index : Nat} {ret : Option FieldType} {hh : List (Nat × Nat × Nat × Nat)} {ws : List Cond} {rm : Room} {Pc : Array Value → State → Prop} {Qc : Array Value → State → Outcome → State → Prop} {free : Addr → Prop} {Ts : List Cond} {own C : String} {b : Addr} {As rest : List Value} {g : JFrame}
    (S : CallFix p m c cc nL s args Ts own) (hM : Met l y ws rm Pc Qc mc ms free) (cw : vx_CVW R s args own C index y bytes maxL ret hh ws rm mc ms n) (hp : PreV s H C b Pc As)
    (hg : g.method = m) (hn : As.length = n) (hsize : g.locals.size = nL) (hstack : g.stack = As.reverse ++ .ref b :: rest) (hW : 2 * g.monitorRoom + (rest.map fun v => v.category).sum ≤ 8) (hdg : decode cc g.pc = .ok (.invokevirtual index, 3)) (hf : cells + mc ≤ R.cells ∧ slots + ms ≤ R.slots) :
    va_Run p l e R s m args below meth c H locs cells slots mc ms g rest (Qc (Value.ref b :: As).toArray) free := by
  obtain ⟨⟨hrc, hrs, hfr, hlo, hws, hcw⟩, hcode, hini, hy, hlen, hl, hin, hse⟩ := cw
  have hK : Back l R p e below s args y 3 8 (PreOf R mc ms Pc) (PostOf Qc mc ms free) := va_backW (hh := hh) (bytes := bytes) (maxL := maxL) (ret := ret) hM hp.1 hrc hrs hfr hlo hws hcw (fun a' U hW => word_at hW (Or.inl (by first | rfl | simp [Cond.onTables, Cond.keeps, Cond.steady])) hini)
  obtain ⟨hx, hb, hml, ho, -⟩ := S
  obtain ⟨-, ⟨cellB, hcB, hoB, hclB⟩, hPc⟩ := hp
  intro T hT X
  obtain ⟨v, vm₁, ⟨U', l2, c2, s2⟩, hW₁, X', ⟨g', mk, t, L, e1, e2, hq, h1, hL, h2, h3⟩, st⟩ := vx_callVW X hx (C := C) (hh := hh) (bytes := bytes) (maxL := maxL) (ret := ret) ho hl hin hse hcode hy hK (by rw [hT]; exact hcB) hoB hclB hg (hsize.trans hml.symm) (argsL := As) (rest := rest) (fun sig h => hn.trans (hlen sig h)) hstack hW (by rw [hb]; exact hdg)
    (fun vm₁ hW₁ => ⟨hf.1, hf.2, hPc (T.setVm vm₁) hT hW₁⟩)
  dsimp only [Pt.U, Pt.locs, Pt.cells, Pt.slots] at X' e1 e2 h1 h2 h3 st
  subst h1; subst h2; subst h3
  exact ⟨v, (T.setVm vm₁).calling g' mk (Value.ref b :: As).toArray, t, U', L, hT, X', hL, e1, e2, hq, st⟩
section
variable {y : MethodName} {bytes cc : ByteArray} {maxL nL mc ms n index : Nat} {ret : Option FieldType} {ws : List Cond} {rm : Room} {Pc : Array Value → State → Prop} {Qc : Array Value → State → Outcome → State → Prop} {XC : String → State → State → Prop} {free : Addr → Prop} {Ts : List Cond} {own C : String} {b : Addr} {As rest : List Value} {g : JFrame}
theorem vx_runVX {hh : List (Nat × Nat × Nat × Nat)} (S : CallFix p m c cc nL s args Ts own) (hM : vx_Met l y ws rm Pc Qc XC mc ms free) (cw : vx_CVW R s args own C index y bytes maxL ret hh ws rm mc ms n) (hp : PreV s H C b Pc As)
    (hg : g.method = m) (hn : As.length = n) (hsize : g.locals.size = nL) (hstack : g.stack = As.reverse ++ .ref b :: rest) (hW : 2 * g.monitorRoom + (rest.map fun v => v.category).sum ≤ 8) (hdg : decode cc g.pc = .ok (.invokevirtual index, 3)) (hf : cells + mc ≤ R.cells ∧ slots + ms ≤ R.slots) :
    vx_Run p l e R s m args below meth c H locs cells slots mc ms g rest (Qc (Value.ref b :: As).toArray) XC free := by
  obtain ⟨⟨hrc, hrs, hfr, hlo, hws, hcw⟩, hcode, hini, hy, hlen, hl, hin, hse⟩ := cw
  have hK : vx_Back l R p e below s args y 3 8 (PreOf R mc ms Pc) (PostOf Qc mc ms free) (vx_Post XC mc ms free) := vx_backW (hh := hh) (bytes := bytes) (maxL := maxL) (ret := ret) hM hp.1 hrc hrs hfr hlo hws hcw (fun a' U hW => word_at hW (Or.inl (by first | rfl | simp [Cond.onTables, Cond.keeps, Cond.steady])) hini)
  obtain ⟨hx, hb, hml, ho, -⟩ := S
  obtain ⟨-, ⟨cellB, hcB, hoB, hclB⟩, hPc⟩ := hp
  intro T hT X
  rcases vx_callVX X hx (C := C) (hh := hh) (bytes := bytes) (maxL := maxL) (ret := ret) ho hl hin hse hcode hy hK (by rw [hT]; exact hcB) hoB hclB hg (hsize.trans hml.symm) (argsL := As) (rest := rest) (fun sig h => hn.trans (hlen sig h)) hstack hW (by rw [hb]; exact hdg)
    (fun vm₁ hW₁ => ⟨hf.1, hf.2, hPc (T.setVm vm₁) hT hW₁⟩) with ⟨v, vm₁, ⟨U', l2, c2, s2⟩, hW₁, X', ⟨g', mk, t, L, e1, e2, hq, h1, hL, h2, h3⟩, st⟩ | ⟨q, vm₁, ⟨U', l2, c2, s2⟩, hW₁, X', ⟨g', mk, t, L, E, ce, e1, e2, hq, hce, hcv, hcl, h1, hL, h2, h3⟩, st⟩
  · dsimp only [Pt.U, Pt.locs, Pt.cells, Pt.slots] at X' e1 e2 h1 h2 h3 st
    subst h1; subst h2; subst h3
    exact Or.inl ⟨v, (T.setVm vm₁).calling g' mk (Value.ref b :: As).toArray, t, U', L, hT, X', hL, e1, e2, hq, st⟩
  · dsimp only [Pt.U, Pt.locs, Pt.cells, Pt.slots] at X' e1 e2 h1 h2 h3 st hcl
    subst h1; subst h2; subst h3
    exact Or.inr ⟨q, (T.setVm vm₁).calling g' mk (Value.ref b :: As).toArray, t, U', L, E, ce, hT, X', hL, e1, e2, hq, hce, hcv, vx_cls hW₁ hcl, st⟩
theorem vx_runSX {hh : List (Nat × Nat × Nat × Nat)} (S : CallFix p m c cc nL s args Ts own) (hM : vx_Met l y ws rm Pc Qc XC mc ms free) (cw : vx_CSW R s args own index y bytes maxL ret hh ws rm mc ms n) (hp : PreS s H Pc As)
    (hg : g.method = m) (hn : As.length = n) (hsize : g.locals.size = nL) (hstack : g.stack = As.reverse ++ rest) (hW : 2 * g.monitorRoom + (rest.map fun v => v.category).sum ≤ 8) (hdg : decode cc g.pc = .ok (.invokestatic index, 3)) (hf : cells + mc ≤ R.cells ∧ slots + ms ≤ R.slots) :
    vx_Run p l e R s m args below meth c H locs cells slots mc ms g rest (Qc As.toArray) XC free := by
  obtain ⟨⟨hrc, hrs, hfr, hlo, hws, hcw⟩, hcode, hini, hy, hlen, hl, hstt⟩ := cw
  have hK : vx_Back l R p e below s args y 3 8 (PreOf R mc ms Pc) (PostOf Qc mc ms free) (vx_Post XC mc ms free) := vx_backW (hh := hh) (bytes := bytes) (maxL := maxL) (ret := ret) hM hp.1 hrc hrs hfr hlo hws hcw (fun a' U hW => word_at hW (Or.inl (by first | rfl | simp [Cond.onTables, Cond.keeps, Cond.steady])) hini)
  obtain ⟨hx, hb, hml, ho, -⟩ := S
  intro T hT X
  rcases vx_callSX X hx (hh := hh) (bytes := bytes) (maxL := maxL) (ret := ret) ho hl hstt hini hcode hy hK hg (hsize.trans hml.symm) (argsL := As) (rest := rest) (fun sig h => hn.trans (hlen sig h)) hstack hW (by rw [hb]; exact hdg)
    (fun vm₁ hW₁ => ⟨hf.1, hf.2, hp.2 (T.setVm vm₁) hT hW₁⟩) with ⟨v, vm₁, ⟨U', l2, c2, s2⟩, hW₁, X', ⟨g', mk, t, L, e1, e2, hq, h1, hL, h2, h3⟩, st⟩ | ⟨q, vm₁, ⟨U', l2, c2, s2⟩, hW₁, X', ⟨g', mk, t, L, E, ce, e1, e2, hq, hce, hcv, hcl, h1, hL, h2, h3⟩, st⟩
  · dsimp only [Pt.U, Pt.locs, Pt.cells, Pt.slots] at X' e1 e2 h1 h2 h3 st
    subst h1; subst h2; subst h3
    exact Or.inl ⟨v, (T.setVm vm₁).calling g' mk As.toArray, t, U', L, hT, X', hL, e1, e2, hq, st⟩
  · dsimp only [Pt.U, Pt.locs, Pt.cells, Pt.slots] at X' e1 e2 h1 h2 h3 st hcl
    subst h1; subst h2; subst h3
    exact Or.inr ⟨q, (T.setVm vm₁).calling g' mk As.toArray, t, U', L, E, ce, hT, X', hL, e1, e2, hq, hce, hcv, vx_cls hW₁ hcl, st⟩
end
end VXH
theorem vx_ofWH {l : Launch} {y : MethodName} {ws ws' : List Cond} {rm : Room} {Pc : Array Value → State → Prop} {Qc : Array Value → State → Outcome → State → Prop} {XC : String → State → State → Prop} {mc ms : Nat} {free : Addr → Prop} {cc : ByteArray} {maxL : Nat} {ret : Option FieldType} {hh : List (Nat × Nat × Nat × Nat)}
    (hy : plainName y.cls = true) (hw : ws = Cond.codeWith y cc maxL ret hh :: ws')
    (body : ∀ p e s m args below meth c s₁, BodyLoose p l y (headSpec ws rm) cc maxL ret e s m args below meth c s₁ → c.maxLocals = maxL → Pc args s →
      W p l e (headSpec ws rm).room s m args below meth c s.heap [] 0 0 (vx_MQ below Qc XC args s mc ms free) (entryFrame m args maxL)) : vx_Met l y ws rm Pc Qc XC mc ms free := by
  refine MetFree.of_bodyS (code := cc) (maxLocals := maxL) (ret := ret) hy ?_ ?_
  · intro args s m h hn
    obtain ⟨m9, meth, c, hn9, h1, h2, h3, h4, -, h5, h6, -⟩ := Cond.codeWith_spec (atoms_spec (ws := ws) h _ (by rw [hw]; exact List.mem_cons_self))
    cases hn.symm.trans hn9
    exact ⟨meth, c, h1, h2, h3, h4, h5, h6⟩
  · intro p e s m args below meth c s₁ B hml hP _
    have hh0 : s₁.heap = s.heap := by rw [B.state]; rfl
    obtain ⟨t, a1, o, b1, b2, b3⟩ := body p e s m args below meth c s₁ B hml hP s₁ hh0 (Stand.of_body B)
    exact ⟨t, o, a1, b1, b2, b3⟩
/-! ===== END ===== -/
end
section
def RX0 : String := "ForgivenWork$History"
def TX0 : u_T := fun k => match k with
  | 0 => ("ForgivenWork$History", "kept", "[LForgivenWork$State;", true)
  | 1 => ("ForgivenWork$History", "next", "I", false)
  | _ => ("ForgivenWork$History", "count", "I", false)
def tyX0 : Nat → FieldType := fun k => match k with
  | 0 => .array (.object "ForgivenWork$State")
  | 1 => .int
  | _ => .int
abbrev wsX00 : List Cond := u_ws RX0 TX0 3
theorem nmX0 : ∀ a, a < 3 → ∀ b, b < 3 → a ≠ b → (TX0 a).2.1 ≠ (TX0 b).2.1 := by decide +kernel
theorem tyX0_ok : ∀ k, k < 3 → parseFieldDescriptor (TX0 k).2.2.1 = some (tyX0 k) := by decide +kernel
abbrev cX0_init : ByteArray := prog_2_method_1_code
def yX0_init : MethodName := ⟨RX0, "<init>", "()V"⟩
abbrev cX0_remember : ByteArray := prog_2_method_2_code
def yX0_remember : MethodName := ⟨RX0, "remember", "(LForgivenWork$State;)V"⟩
abbrev cX0_takeBack : ByteArray := prog_2_method_3_code
def yX0_takeBack : MethodName := ⟨RX0, "takeBack", "(LForgivenWork$State;)V"⟩
abbrev cX0_forgetAll : ByteArray := prog_2_method_4_code
def yX0_forgetAll : MethodName := ⟨RX0, "forgetAll", "()V"⟩
def RX1 : String := "ForgivenWork$Row"
def TX1 : u_T := fun k => match k with
  | 0 => ("ForgivenWork$Row", "most", "I", true)
  | 1 => ("ForgivenWork$Row", "items", "[I", false)
  | _ => ("ForgivenWork$Row", "size", "I", false)
def tyX1 : Nat → FieldType := fun k => match k with
  | 0 => .int
  | 1 => .array .int
  | _ => .int
abbrev wsX10 : List Cond := u_ws RX1 TX1 3
theorem nmX1 : ∀ a, a < 3 → ∀ b, b < 3 → a ≠ b → (TX1 a).2.1 ≠ (TX1 b).2.1 := by decide +kernel
theorem tyX1_ok : ∀ k, k < 3 → parseFieldDescriptor (TX1 k).2.2.1 = some (tyX1 k) := by decide +kernel
abbrev cX1_init : ByteArray := prog_3_method_1_code
def yX1_init : MethodName := ⟨RX1, "<init>", "(II)V"⟩
abbrev cX1_get : ByteArray := prog_3_method_2_code
def yX1_get : MethodName := ⟨RX1, "get", "(I)I"⟩
abbrev cX1_set : ByteArray := prog_3_method_3_code
def yX1_set : MethodName := ⟨RX1, "set", "(II)V"⟩
abbrev cX1_push : ByteArray := prog_3_method_4_code
def yX1_push : MethodName := ⟨RX1, "push", "(I)V"⟩
abbrev cX1_cutTo : ByteArray := prog_3_method_5_code
def yX1_cutTo : MethodName := ⟨RX1, "cutTo", "(I)V"⟩
abbrev cX1_copyFrom : ByteArray := prog_3_method_6_code
def yX1_copyFrom : MethodName := ⟨RX1, "copyFrom", "(LForgivenWork$Row;)V"⟩
def RX2 : String := "ForgivenWork$State"
def TX2 : u_T := fun k => match k with
  | 0 => ("ForgivenWork$State", "values", "LForgivenWork$Row;", true)
  | 1 => ("ForgivenWork$State", "locks", "LForgivenWork$Row;", true)
  | 2 => ("ForgivenWork$State", "workers", "[LForgivenWork$Worker;", true)
  | 3 => ("ForgivenWork$State", "mercy", "I", false)
  | 4 => ("ForgivenWork$State", "forgiven", "I", false)
  | 5 => ("ForgivenWork$State", "writes", "I", false)
  | _ => ("ForgivenWork$State", "regretsDone", "I", false)
def tyX2 : Nat → FieldType := fun k => match k with
  | 0 => .object "ForgivenWork$Row"
  | 1 => .object "ForgivenWork$Row"
  | 2 => .array (.object "ForgivenWork$Worker")
  | 3 => .int
  | 4 => .int
  | 5 => .int
  | _ => .int
abbrev wsX20 : List Cond := u_ws RX2 TX2 7
theorem nmX2 : ∀ a, a < 7 → ∀ b, b < 7 → a ≠ b → (TX2 a).2.1 ≠ (TX2 b).2.1 := by decide +kernel
theorem tyX2_ok : ∀ k, k < 7 → parseFieldDescriptor (TX2 k).2.2.1 = some (tyX2 k) := by decide +kernel
abbrev cX2_init : ByteArray := prog_4_method_1_code
def yX2_init : MethodName := ⟨RX2, "<init>", "()V"⟩
abbrev cX2_clear : ByteArray := prog_4_method_2_code
def yX2_clear : MethodName := ⟨RX2, "clear", "()V"⟩
abbrev cX2_copyFrom : ByteArray := prog_4_method_3_code
def yX2_copyFrom : MethodName := ⟨RX2, "copyFrom", "(LForgivenWork$State;)V"⟩
abbrev cX2_workerAt : ByteArray := prog_4_method_4_code
def yX2_workerAt : MethodName := ⟨RX2, "workerAt", "(I)LForgivenWork$Worker;"⟩
abbrev cX2_sumOfValues : ByteArray := prog_4_method_5_code
def yX2_sumOfValues : MethodName := ⟨RX2, "sumOfValues", "()I"⟩
abbrev cX2_countLockedBy : ByteArray := prog_4_method_6_code
def yX2_countLockedBy : MethodName := ⟨RX2, "countLockedBy", "(I)I"⟩
abbrev cX2_numberOfWorker : ByteArray := prog_4_method_7_code
def yX2_numberOfWorker : MethodName := ⟨RX2, "numberOfWorker", "(LForgivenWork$Worker;I)I"⟩
abbrev cX2_sumOfWorkers : ByteArray := prog_4_method_8_code
def yX2_sumOfWorkers : MethodName := ⟨RX2, "sumOfWorkers", "(I)I"⟩
abbrev cX2_countDifferent : ByteArray := prog_4_method_9_code
def yX2_countDifferent : MethodName := ⟨RX2, "countDifferent", "(LForgivenWork$State;)I"⟩
abbrev cX2_oldestValue : ByteArray := prog_4_method_10_code
def yX2_oldestValue : MethodName := ⟨RX2, "oldestValue", "(I)I"⟩
abbrev cX2_obstacle : ByteArray := prog_4_method_11_code
def yX2_obstacle : MethodName := ⟨RX2, "obstacle", "(LForgivenWork$Worker;I)I"⟩
abbrev cX2_allows : ByteArray := prog_4_method_12_code
def yX2_allows : MethodName := ⟨RX2, "allows", "(ILForgivenWork$Worker;II)Z"⟩
abbrev cX2_canRegret : ByteArray := prog_4_method_13_code
def yX2_canRegret : MethodName := ⟨RX2, "canRegret", "(LForgivenWork$Worker;I)Z"⟩
abbrev cX2_perform : ByteArray := prog_4_method_14_code
def yX2_perform : MethodName := ⟨RX2, "perform", "(ILForgivenWork$Worker;II)I"⟩
abbrev cX2_attempt : ByteArray := prog_4_method_15_code
def yX2_attempt : MethodName := ⟨RX2, "attempt", "(IIII)Z"⟩
abbrev cX2_setValue : ByteArray := prog_4_method_16_code
def yX2_setValue : MethodName := ⟨RX2, "setValue", "(LForgivenWork$Worker;II)I"⟩
abbrev cX2_takeRegret : ByteArray := prog_4_method_17_code
def yX2_takeRegret : MethodName := ⟨RX2, "takeRegret", "(LForgivenWork$Worker;II)I"⟩
abbrev cX2_goBack : ByteArray := prog_4_method_18_code
def yX2_goBack : MethodName := ⟨RX2, "goBack", "(LForgivenWork$Worker;I)I"⟩
abbrev cX2_rollBack : ByteArray := prog_4_method_19_code
def yX2_rollBack : MethodName := ⟨RX2, "rollBack", "(LForgivenWork$Worker;I)V"⟩
abbrev cX2_endWell : ByteArray := prog_4_method_20_code
def yX2_endWell : MethodName := ⟨RX2, "endWell", "(LForgivenWork$Worker;)I"⟩
abbrev cX2_endBadly : ByteArray := prog_4_method_21_code
def yX2_endBadly : MethodName := ⟨RX2, "endBadly", "(LForgivenWork$Worker;)I"⟩
abbrev cX2_doRegrets : ByteArray := prog_4_method_22_code
def yX2_doRegrets : MethodName := ⟨RX2, "doRegrets", "(LForgivenWork$Worker;I)V"⟩
abbrev cX2_forgiveOrSpoil : ByteArray := prog_4_method_23_code
def yX2_forgiveOrSpoil : MethodName := ⟨RX2, "forgiveOrSpoil", "(LForgivenWork$Work;)I"⟩
abbrev cX2_endAll : ByteArray := prog_4_method_24_code
def yX2_endAll : MethodName := ⟨RX2, "endAll", "(LForgivenWork$Worker;)V"⟩
def RX3 : String := "ForgivenWork$Work"
def TX3 : u_T := fun k => match k with
  | 0 => ("ForgivenWork$Work", "logStart", "I", false)
  | 1 => ("ForgivenWork$Work", "regretStart", "I", false)
  | 2 => ("ForgivenWork$Work", "pointStart", "I", false)
  | 3 => ("ForgivenWork$Work", "forgiven", "I", false)
  | _ => ("ForgivenWork$Work", "spoiled", "Z", false)
def tyX3 : Nat → FieldType := fun k => match k with
  | 0 => .int
  | 1 => .int
  | 2 => .int
  | 3 => .int
  | _ => .boolean
abbrev wsX30 : List Cond := u_ws RX3 TX3 5
theorem nmX3 : ∀ a, a < 5 → ∀ b, b < 5 → a ≠ b → (TX3 a).2.1 ≠ (TX3 b).2.1 := by decide +kernel
theorem tyX3_ok : ∀ k, k < 5 → parseFieldDescriptor (TX3 k).2.2.1 = some (tyX3 k) := by decide +kernel
abbrev cX3_init : ByteArray := prog_5_method_1_code
def yX3_init : MethodName := ⟨RX3, "<init>", "()V"⟩
abbrev cX3_copyFrom : ByteArray := prog_5_method_2_code
def yX3_copyFrom : MethodName := ⟨RX3, "copyFrom", "(LForgivenWork$Work;)V"⟩
def RX4 : String := "ForgivenWork$Worker"
def TX4 : u_T := fun k => match k with
  | 0 => ("ForgivenWork$Worker", "number", "I", true)
  | 1 => ("ForgivenWork$Worker", "works", "[LForgivenWork$Work;", true)
  | 2 => ("ForgivenWork$Worker", "log", "LForgivenWork$Row;", true)
  | 3 => ("ForgivenWork$Worker", "regrets", "LForgivenWork$Row;", true)
  | 4 => ("ForgivenWork$Worker", "pointLogs", "LForgivenWork$Row;", true)
  | 5 => ("ForgivenWork$Worker", "pointRegrets", "LForgivenWork$Row;", true)
  | 6 => ("ForgivenWork$Worker", "depth", "I", false)
  | 7 => ("ForgivenWork$Worker", "overWell", "I", false)
  | _ => ("ForgivenWork$Worker", "overBadly", "I", false)
def tyX4 : Nat → FieldType := fun k => match k with
  | 0 => .int
  | 1 => .array (.object "ForgivenWork$Work")
  | 2 => .object "ForgivenWork$Row"
  | 3 => .object "ForgivenWork$Row"
  | 4 => .object "ForgivenWork$Row"
  | 5 => .object "ForgivenWork$Row"
  | 6 => .int
  | 7 => .int
  | _ => .int
abbrev wsX40 : List Cond := u_ws RX4 TX4 9
theorem nmX4 : ∀ a, a < 9 → ∀ b, b < 9 → a ≠ b → (TX4 a).2.1 ≠ (TX4 b).2.1 := by decide +kernel
theorem tyX4_ok : ∀ k, k < 9 → parseFieldDescriptor (TX4 k).2.2.1 = some (tyX4 k) := by decide +kernel
abbrev cX4_init : ByteArray := prog_6_method_1_code
def yX4_init : MethodName := ⟨RX4, "<init>", "(I)V"⟩
abbrev cX4_clear : ByteArray := prog_6_method_2_code
def yX4_clear : MethodName := ⟨RX4, "clear", "()V"⟩
abbrev cX4_copyFrom : ByteArray := prog_6_method_3_code
def yX4_copyFrom : MethodName := ⟨RX4, "copyFrom", "(LForgivenWork$Worker;)V"⟩
abbrev cX4_workAt : ByteArray := prog_6_method_4_code
def yX4_workAt : MethodName := ⟨RX4, "workAt", "(I)LForgivenWork$Work;"⟩
abbrev cX4_innermost : ByteArray := prog_6_method_5_code
def yX4_innermost : MethodName := ⟨RX4, "innermost", "()LForgivenWork$Work;"⟩
abbrev cX4_isSpoiled : ByteArray := prog_6_method_6_code
def yX4_isSpoiled : MethodName := ⟨RX4, "isSpoiled", "()Z"⟩
abbrev cX4_isReady : ByteArray := prog_6_method_7_code
def yX4_isReady : MethodName := ⟨RX4, "isReady", "()Z"⟩
abbrev cX4_countPoints : ByteArray := prog_6_method_8_code
def yX4_countPoints : MethodName := ⟨RX4, "countPoints", "(I)I"⟩
abbrev cX4_countRegrets : ByteArray := prog_6_method_9_code
def yX4_countRegrets : MethodName := ⟨RX4, "countRegrets", "(I)I"⟩
abbrev cX4_hasPoint : ByteArray := prog_6_method_10_code
def yX4_hasPoint : MethodName := ⟨RX4, "hasPoint", "(I)Z"⟩
abbrev cX4_cutPoints : ByteArray := prog_6_method_11_code
def yX4_cutPoints : MethodName := ⟨RX4, "cutPoints", "(I)V"⟩
abbrev cX4_startWork : ByteArray := prog_6_method_12_code
def yX4_startWork : MethodName := ⟨RX4, "startWork", "()I"⟩
abbrev cX4_setPoint : ByteArray := prog_6_method_13_code
def yX4_setPoint : MethodName := ⟨RX4, "setPoint", "()I"⟩
abbrev cX4_leaveWork : ByteArray := prog_6_method_14_code
def yX4_leaveWork : MethodName := ⟨RX4, "leaveWork", "()V"⟩
def RX5 : String := "ForgivenWork"
def TX5 : u_T := fun k => match k with
  | 0 => ("ForgivenWork", "text", "LForgivenWork$Row;", true)
  | 1 => ("ForgivenWork", "state", "LForgivenWork$State;", true)
  | 2 => ("ForgivenWork", "scratch", "LForgivenWork$State;", true)
  | 3 => ("ForgivenWork", "history", "LForgivenWork$History;", true)
  | 4 => ("ForgivenWork", "slots", "[LForgivenWork$State;", true)
  | _ => ("ForgivenWork", "isFilled", "[Z", true)
def tyX5 : Nat → FieldType := fun k => match k with
  | 0 => .object "ForgivenWork$Row"
  | 1 => .object "ForgivenWork$State"
  | 2 => .object "ForgivenWork$State"
  | 3 => .object "ForgivenWork$History"
  | 4 => .array (.object "ForgivenWork$State")
  | _ => .array .boolean
abbrev wsX50 : List Cond := u_ws RX5 TX5 6
theorem nmX5 : ∀ a, a < 6 → ∀ b, b < 6 → a ≠ b → (TX5 a).2.1 ≠ (TX5 b).2.1 := by decide +kernel
theorem tyX5_ok : ∀ k, k < 6 → parseFieldDescriptor (TX5 k).2.2.1 = some (tyX5 k) := by decide +kernel
abbrev cX5_init : ByteArray := prog_1_method_1_code
def yX5_init : MethodName := ⟨RX5, "<init>", "()V"⟩
abbrev cX5_append : ByteArray := prog_1_method_2_code
def yX5_append : MethodName := ⟨RX5, "append", "(I)I"⟩
abbrev cX5_clearText : ByteArray := prog_1_method_3_code
def yX5_clearText : MethodName := ⟨RX5, "clearText", "()I"⟩
abbrev cX5_errorPosition : ByteArray := prog_1_method_4_code
def yX5_errorPosition : MethodName := ⟨RX5, "errorPosition", "()I"⟩
abbrev cX5_load : ByteArray := prog_1_method_5_code
def yX5_load : MethodName := ⟨RX5, "load", "()I"⟩
abbrev cX5_about : ByteArray := prog_1_method_6_code
def yX5_about : MethodName := ⟨RX5, "about", "(I)I"⟩
abbrev cX5_cell : ByteArray := prog_1_method_7_code
def yX5_cell : MethodName := ⟨RX5, "cell", "(II)I"⟩
abbrev cX5_worker : ByteArray := prog_1_method_8_code
def yX5_worker : MethodName := ⟨RX5, "worker", "(II)I"⟩
abbrev cX5_work : ByteArray := prog_1_method_9_code
def yX5_work : MethodName := ⟨RX5, "work", "(III)I"⟩
abbrev cX5_entry : ByteArray := prog_1_method_10_code
def yX5_entry : MethodName := ⟨RX5, "entry", "(II)I"⟩
abbrev cX5_begin : ByteArray := prog_1_method_11_code
def yX5_begin : MethodName := ⟨RX5, "begin", "(I)I"⟩
abbrev cX5_write : ByteArray := prog_1_method_12_code
def yX5_write : MethodName := ⟨RX5, "write", "(III)I"⟩
abbrev cX5_point : ByteArray := prog_1_method_13_code
def yX5_point : MethodName := ⟨RX5, "point", "(I)I"⟩
abbrev cX5_back : ByteArray := prog_1_method_14_code
def yX5_back : MethodName := ⟨RX5, "back", "(II)I"⟩
abbrev cX5_regret : ByteArray := prog_1_method_15_code
def yX5_regret : MethodName := ⟨RX5, "regret", "(III)I"⟩
abbrev cX5_done : ByteArray := prog_1_method_16_code
def yX5_done : MethodName := ⟨RX5, "done", "(I)I"⟩
abbrev cX5_fail : ByteArray := prog_1_method_17_code
def yX5_fail : MethodName := ⟨RX5, "fail", "(I)I"⟩
abbrev cX5_setMercy : ByteArray := prog_1_method_18_code
def yX5_setMercy : MethodName := ⟨RX5, "setMercy", "(I)I"⟩
abbrev cX5_undo : ByteArray := prog_1_method_19_code
def yX5_undo : MethodName := ⟨RX5, "undo", "()I"⟩
abbrev cX5_whyNot : ByteArray := prog_1_method_20_code
def yX5_whyNot : MethodName := ⟨RX5, "whyNot", "(II)I"⟩
abbrev cX5_failed : ByteArray := prog_1_method_21_code
def yX5_failed : MethodName := ⟨RX5, "failed", "(III)I"⟩
abbrev cX5_changes : ByteArray := prog_1_method_22_code
def yX5_changes : MethodName := ⟨RX5, "changes", "(I)I"⟩
abbrev cX5_lost : ByteArray := prog_1_method_23_code
def yX5_lost : MethodName := ⟨RX5, "lost", "(II)I"⟩
abbrev cX5_mercyLeft : ByteArray := prog_1_method_24_code
def yX5_mercyLeft : MethodName := ⟨RX5, "mercyLeft", "(I)I"⟩
abbrev cX5_runScript : ByteArray := prog_1_method_25_code
def yX5_runScript : MethodName := ⟨RX5, "runScript", "(IJ)I"⟩
abbrev cX5_simulate : ByteArray := prog_1_method_26_code
def yX5_simulate : MethodName := ⟨RX5, "simulate", "(JI)I"⟩
abbrev cX5_save : ByteArray := prog_1_method_27_code
def yX5_save : MethodName := ⟨RX5, "save", "(I)I"⟩
abbrev cX5_restore : ByteArray := prog_1_method_28_code
def yX5_restore : MethodName := ⟨RX5, "restore", "(I)I"⟩
abbrev cX5_isCell : ByteArray := prog_1_method_29_code
def yX5_isCell : MethodName := ⟨RX5, "isCell", "(I)Z"⟩
abbrev cX5_isValue : ByteArray := prog_1_method_30_code
def yX5_isValue : MethodName := ⟨RX5, "isValue", "(I)Z"⟩
abbrev cX5_isRegretNumber : ByteArray := prog_1_method_31_code
def yX5_isRegretNumber : MethodName := ⟨RX5, "isRegretNumber", "(I)Z"⟩
abbrev cX5_existingWorker : ByteArray := prog_1_method_32_code
def yX5_existingWorker : MethodName := ⟨RX5, "existingWorker", "(I)LForgivenWork$Worker;"⟩
abbrev cX5_requireCell : ByteArray := prog_1_method_33_code
def yX5_requireCell : MethodName := ⟨RX5, "requireCell", "(I)V"⟩
abbrev cX5_requirePoint : ByteArray := prog_1_method_34_code
def yX5_requirePoint : MethodName := ⟨RX5, "requirePoint", "(LForgivenWork$Worker;I)V"⟩
abbrev cX5_requireSlot : ByteArray := prog_1_method_35_code
def yX5_requireSlot : MethodName := ⟨RX5, "requireSlot", "(I)V"⟩
abbrev cX5_act : ByteArray := prog_1_method_36_code
def yX5_act : MethodName := ⟨RX5, "act", "(ILForgivenWork$Worker;II)I"⟩
abbrev cX5_emptySlots : ByteArray := prog_1_method_37_code
def yX5_emptySlots : MethodName := ⟨RX5, "emptySlots", "()V"⟩
abbrev cX5_shapeOf : ByteArray := prog_1_method_38_code
def yX5_shapeOf : MethodName := ⟨RX5, "shapeOf", "(I)Ljava/lang/String;"⟩
abbrev cX5_countFitting : ByteArray := prog_1_method_39_code
def yX5_countFitting : MethodName := ⟨RX5, "countFitting", "(ILjava/lang/String;)I"⟩
abbrev cX5_fits : ByteArray := prog_1_method_40_code
def yX5_fits : MethodName := ⟨RX5, "fits", "(CI)Z"⟩
abbrev cX5_digitAt : ByteArray := prog_1_method_41_code
def yX5_digitAt : MethodName := ⟨RX5, "digitAt", "(I)I"⟩
abbrev cX5_numberAt : ByteArray := prog_1_method_42_code
def yX5_numberAt : MethodName := ⟨RX5, "numberAt", "(I)I"⟩
abbrev cX5_obeyText : ByteArray := prog_1_method_43_code
def yX5_obeyText : MethodName := ⟨RX5, "obeyText", "(I)Z"⟩
abbrev cX5_dropGroups : ByteArray := prog_1_method_44_code
def yX5_dropGroups : MethodName := ⟨RX5, "dropGroups", "(JI)J"⟩
abbrev cX5_obeyGroup : ByteArray := prog_1_method_45_code
def yX5_obeyGroup : MethodName := ⟨RX5, "obeyGroup", "(I)Z"⟩
abbrev cX5_isTrueOfWorker : ByteArray := prog_1_method_46_code
def yX5_isTrueOfWorker : MethodName := ⟨RX5, "isTrueOfWorker", "(IIII)Z"⟩
abbrev cX5_simulateStep : ByteArray := prog_1_method_47_code
def yX5_simulateStep : MethodName := ⟨RX5, "simulateStep", "(I)V"⟩
def RX6 : String := "ForgivenWorkModel"
def TX6 : u_T := fun k => match k with
  | 0 => ("ForgivenWorkModel", "refusal", "I", false)
  | 1 => ("ForgivenWorkModel", "script", "[I", true)
  | 2 => ("ForgivenWorkModel", "scriptSize", "I", false)
  | 3 => ("ForgivenWorkModel", "spot", "I", false)
  | 4 => ("ForgivenWorkModel", "isGood", "Z", false)
  | 5 => ("ForgivenWorkModel", "leftOut", "I", false)
  | 6 => ("ForgivenWorkModel", "read", "[I", true)
  | 7 => ("ForgivenWorkModel", "now", "[I", true)
  | 8 => ("ForgivenWorkModel", "trial", "[I", true)
  | 9 => ("ForgivenWorkModel", "diary0", "[I", true)
  | 10 => ("ForgivenWorkModel", "diary1", "[I", true)
  | 11 => ("ForgivenWorkModel", "diary2", "[I", true)
  | 12 => ("ForgivenWorkModel", "diary3", "[I", true)
  | 13 => ("ForgivenWorkModel", "first", "I", false)
  | 14 => ("ForgivenWorkModel", "acts", "I", false)
  | 15 => ("ForgivenWorkModel", "kept", "[I", true)
  | _ => ("ForgivenWorkModel", "isKept", "[Z", true)
def tyX6 : Nat → FieldType := fun k => match k with
  | 0 => .int
  | 1 => .array .int
  | 2 => .int
  | 3 => .int
  | 4 => .boolean
  | 5 => .int
  | 6 => .array .int
  | 7 => .array .int
  | 8 => .array .int
  | 9 => .array .int
  | 10 => .array .int
  | 11 => .array .int
  | 12 => .array .int
  | 13 => .int
  | 14 => .int
  | 15 => .array .int
  | _ => .array .boolean
abbrev wsX60 : List Cond := u_ws RX6 TX6 17
theorem nmX6 : ∀ a, a < 17 → ∀ b, b < 17 → a ≠ b → (TX6 a).2.1 ≠ (TX6 b).2.1 := by decide +kernel
theorem tyX6_ok : ∀ k, k < 17 → parseFieldDescriptor (TX6 k).2.2.1 = some (tyX6 k) := by decide +kernel
abbrev cX6_init : ByteArray := prog_8_method_1_code
def yX6_init : MethodName := ⟨RX6, "<init>", "()V"⟩
abbrev cX6_thrown : ByteArray := prog_8_method_2_code
def yX6_thrown : MethodName := ⟨RX6, "thrown", "()I"⟩
abbrev cX6_refused : ByteArray := prog_8_method_3_code
def yX6_refused : MethodName := ⟨RX6, "refused", "(I)Z"⟩
abbrev cX6_in : ByteArray := prog_8_method_4_code
def yX6_in : MethodName := ⟨RX6, "in", "(JJJ)Z"⟩
abbrev cX6_copy : ByteArray := prog_8_method_5_code
def yX6_copy : MethodName := ⟨RX6, "copy", "([II[III)V"⟩
abbrev cX6_tenTo : ByteArray := prog_8_method_6_code
def yX6_tenTo : MethodName := ⟨RX6, "tenTo", "(I)J"⟩
abbrev cX6_clean : ByteArray := prog_8_method_7_code
def yX6_clean : MethodName := ⟨RX6, "clean", "([I)V"⟩
abbrev cX6_layDown : ByteArray := prog_8_method_8_code
def yX6_layDown : MethodName := ⟨RX6, "layDown", "(I)V"⟩
abbrev cX6_takeUp : ByteArray := prog_8_method_9_code
def yX6_takeUp : MethodName := ⟨RX6, "takeUp", "(I)V"⟩
abbrev cX6_remember : ByteArray := prog_8_method_10_code
def yX6_remember : MethodName := ⟨RX6, "remember", "()V"⟩
abbrev cX6_tryIt : ByteArray := prog_8_method_11_code
def yX6_tryIt : MethodName := ⟨RX6, "tryIt", "()V"⟩
abbrev cX6_at : ByteArray := prog_8_method_12_code
def yX6_at : MethodName := ⟨RX6, "at", "(II)I"⟩
abbrev cX6_many : ByteArray := prog_8_method_13_code
def yX6_many : MethodName := ⟨RX6, "many", "([II)I"⟩
abbrev cX6_workAt : ByteArray := prog_8_method_14_code
def yX6_workAt : MethodName := ⟨RX6, "workAt", "(III)I"⟩
abbrev cX6_innerAt : ByteArray := prog_8_method_15_code
def yX6_innerAt : MethodName := ⟨RX6, "innerAt", "([III)I"⟩
abbrev cX6_isSpoiled : ByteArray := prog_8_method_16_code
def yX6_isSpoiled : MethodName := ⟨RX6, "isSpoiled", "([II)Z"⟩
abbrev cX6_isOpen : ByteArray := prog_8_method_17_code
def yX6_isOpen : MethodName := ⟨RX6, "isOpen", "([II)Z"⟩
abbrev cX6_reason : ByteArray := prog_8_method_18_code
def yX6_reason : MethodName := ⟨RX6, "reason", "([III)I"⟩
abbrev cX6_regretsOf : ByteArray := prog_8_method_19_code
def yX6_regretsOf : MethodName := ⟨RX6, "regretsOf", "([III)I"⟩
abbrev cX6_canBegin : ByteArray := prog_8_method_20_code
def yX6_canBegin : MethodName := ⟨RX6, "canBegin", "([II)Z"⟩
abbrev cX6_beginIn : ByteArray := prog_8_method_21_code
def yX6_beginIn : MethodName := ⟨RX6, "beginIn", "([II)V"⟩
abbrev cX6_enter : ByteArray := prog_8_method_22_code
def yX6_enter : MethodName := ⟨RX6, "enter", "([III)V"⟩
abbrev cX6_writeIn : ByteArray := prog_8_method_23_code
def yX6_writeIn : MethodName := ⟨RX6, "writeIn", "([IIII)I"⟩
abbrev cX6_canPoint : ByteArray := prog_8_method_24_code
def yX6_canPoint : MethodName := ⟨RX6, "canPoint", "([II)Z"⟩
abbrev cX6_pointIn : ByteArray := prog_8_method_25_code
def yX6_pointIn : MethodName := ⟨RX6, "pointIn", "([II)I"⟩
abbrev cX6_hasPoint : ByteArray := prog_8_method_26_code
def yX6_hasPoint : MethodName := ⟨RX6, "hasPoint", "([III)Z"⟩
abbrev cX6_undoTo : ByteArray := prog_8_method_27_code
def yX6_undoTo : MethodName := ⟨RX6, "undoTo", "([III)I"⟩
abbrev cX6_backIn : ByteArray := prog_8_method_28_code
def yX6_backIn : MethodName := ⟨RX6, "backIn", "([III)I"⟩
abbrev cX6_canRegret : ByteArray := prog_8_method_29_code
def yX6_canRegret : MethodName := ⟨RX6, "canRegret", "([III)Z"⟩
abbrev cX6_regretIn : ByteArray := prog_8_method_30_code
def yX6_regretIn : MethodName := ⟨RX6, "regretIn", "([IIII)I"⟩
abbrev cX6_end : ByteArray := prog_8_method_31_code
def yX6_end : MethodName := ⟨RX6, "end", "([II)V"⟩
abbrev cX6_doneIn : ByteArray := prog_8_method_32_code
def yX6_doneIn : MethodName := ⟨RX6, "doneIn", "([II)I"⟩
abbrev cX6_rue : ByteArray := prog_8_method_33_code
def yX6_rue : MethodName := ⟨RX6, "rue", "([IIIZ)V"⟩
abbrev cX6_failIn : ByteArray := prog_8_method_34_code
def yX6_failIn : MethodName := ⟨RX6, "failIn", "([II)I"⟩
abbrev cX6_append : ByteArray := prog_8_method_35_code
def yX6_append : MethodName := ⟨RX6, "append", "(I)I"⟩
abbrev cX6_clearText : ByteArray := prog_8_method_36_code
def yX6_clearText : MethodName := ⟨RX6, "clearText", "()I"⟩
abbrev cX6_isNext : ByteArray := prog_8_method_37_code
def yX6_isNext : MethodName := ⟨RX6, "isNext", "(I)Z"⟩
abbrev cX6_accept : ByteArray := prog_8_method_38_code
def yX6_accept : MethodName := ⟨RX6, "accept", "(Z)V"⟩
abbrev cX6_digit : ByteArray := prog_8_method_39_code
def yX6_digit : MethodName := ⟨RX6, "digit", "(II)I"⟩
abbrev cX6_cellRead : ByteArray := prog_8_method_40_code
def yX6_cellRead : MethodName := ⟨RX6, "cellRead", "()I"⟩
abbrev cX6_twoRead : ByteArray := prog_8_method_41_code
def yX6_twoRead : MethodName := ⟨RX6, "twoRead", "(I)I"⟩
abbrev cX6_doIt : ByteArray := prog_8_method_42_code
def yX6_doIt : MethodName := ⟨RX6, "doIt", "(Z)V"⟩
abbrev cX6_readWrite : ByteArray := prog_8_method_43_code
def yX6_readWrite : MethodName := ⟨RX6, "readWrite", "(I)V"⟩
abbrev cX6_readRegret : ByteArray := prog_8_method_44_code
def yX6_readRegret : MethodName := ⟨RX6, "readRegret", "(I)V"⟩
abbrev cX6_readBack : ByteArray := prog_8_method_45_code
def yX6_readBack : MethodName := ⟨RX6, "readBack", "(I)V"⟩
abbrev cX6_readBare : ByteArray := prog_8_method_46_code
def yX6_readBare : MethodName := ⟨RX6, "readBare", "(II)V"⟩
abbrev cX6_readCommand : ByteArray := prog_8_method_47_code
def yX6_readCommand : MethodName := ⟨RX6, "readCommand", "()V"⟩
abbrev cX6_readText : ByteArray := prog_8_method_48_code
def yX6_readText : MethodName := ⟨RX6, "readText", "()I"⟩
abbrev cX6_errorPosition : ByteArray := prog_8_method_49_code
def yX6_errorPosition : MethodName := ⟨RX6, "errorPosition", "()I"⟩
abbrev cX6_load : ByteArray := prog_8_method_50_code
def yX6_load : MethodName := ⟨RX6, "load", "()I"⟩
abbrev cX6_sum : ByteArray := prog_8_method_51_code
def yX6_sum : MethodName := ⟨RX6, "sum", "([I)I"⟩
abbrev cX6_locked : ByteArray := prog_8_method_52_code
def yX6_locked : MethodName := ⟨RX6, "locked", "([II)I"⟩
abbrev cX6_together : ByteArray := prog_8_method_53_code
def yX6_together : MethodName := ⟨RX6, "together", "([II)I"⟩
abbrev cX6_spoiled : ByteArray := prog_8_method_54_code
def yX6_spoiled : MethodName := ⟨RX6, "spoiled", "([I)I"⟩
abbrev cX6_about : ByteArray := prog_8_method_55_code
def yX6_about : MethodName := ⟨RX6, "about", "(I)I"⟩
abbrev cX6_isCell : ByteArray := prog_8_method_56_code
def yX6_isCell : MethodName := ⟨RX6, "isCell", "(I)Z"⟩
abbrev cX6_isWorker : ByteArray := prog_8_method_57_code
def yX6_isWorker : MethodName := ⟨RX6, "isWorker", "(I)Z"⟩
abbrev cX6_oldest : ByteArray := prog_8_method_58_code
def yX6_oldest : MethodName := ⟨RX6, "oldest", "(I)I"⟩
abbrev cX6_cell : ByteArray := prog_8_method_59_code
def yX6_cell : MethodName := ⟨RX6, "cell", "(II)I"⟩
abbrev cX6_worker : ByteArray := prog_8_method_60_code
def yX6_worker : MethodName := ⟨RX6, "worker", "(II)I"⟩
abbrev cX6_work : ByteArray := prog_8_method_61_code
def yX6_work : MethodName := ⟨RX6, "work", "(III)I"⟩
abbrev cX6_entry : ByteArray := prog_8_method_62_code
def yX6_entry : MethodName := ⟨RX6, "entry", "(II)I"⟩
abbrev cX6_begin : ByteArray := prog_8_method_63_code
def yX6_begin : MethodName := ⟨RX6, "begin", "(I)I"⟩
abbrev cX6_write : ByteArray := prog_8_method_64_code
def yX6_write : MethodName := ⟨RX6, "write", "(III)I"⟩
abbrev cX6_point : ByteArray := prog_8_method_65_code
def yX6_point : MethodName := ⟨RX6, "point", "(I)I"⟩
abbrev cX6_back : ByteArray := prog_8_method_66_code
def yX6_back : MethodName := ⟨RX6, "back", "(II)I"⟩
abbrev cX6_regret : ByteArray := prog_8_method_67_code
def yX6_regret : MethodName := ⟨RX6, "regret", "(III)I"⟩
abbrev cX6_done : ByteArray := prog_8_method_68_code
def yX6_done : MethodName := ⟨RX6, "done", "(I)I"⟩
abbrev cX6_fail : ByteArray := prog_8_method_69_code
def yX6_fail : MethodName := ⟨RX6, "fail", "(I)I"⟩
abbrev cX6_setMercy : ByteArray := prog_8_method_70_code
def yX6_setMercy : MethodName := ⟨RX6, "setMercy", "(I)I"⟩
abbrev cX6_undo : ByteArray := prog_8_method_71_code
def yX6_undo : MethodName := ⟨RX6, "undo", "()I"⟩
abbrev cX6_whyNot : ByteArray := prog_8_method_72_code
def yX6_whyNot : MethodName := ⟨RX6, "whyNot", "(II)I"⟩
abbrev cX6_failed : ByteArray := prog_8_method_73_code
def yX6_failed : MethodName := ⟨RX6, "failed", "(III)I"⟩
abbrev cX6_other : ByteArray := prog_8_method_74_code
def yX6_other : MethodName := ⟨RX6, "other", "()I"⟩
abbrev cX6_changes : ByteArray := prog_8_method_75_code
def yX6_changes : MethodName := ⟨RX6, "changes", "(I)I"⟩
abbrev cX6_lost : ByteArray := prog_8_method_76_code
def yX6_lost : MethodName := ⟨RX6, "lost", "(II)I"⟩
abbrev cX6_mercyLeft : ByteArray := prog_8_method_77_code
def yX6_mercyLeft : MethodName := ⟨RX6, "mercyLeft", "(I)I"⟩
abbrev cX6_bare : ByteArray := prog_8_method_78_code
def yX6_bare : MethodName := ⟨RX6, "bare", "(II)Z"⟩
abbrev cX6_writes : ByteArray := prog_8_method_79_code
def yX6_writes : MethodName := ⟨RX6, "writes", "(III)Z"⟩
abbrev cX6_goesBack : ByteArray := prog_8_method_80_code
def yX6_goesBack : MethodName := ⟨RX6, "goesBack", "(II)Z"⟩
abbrev cX6_regrets : ByteArray := prog_8_method_81_code
def yX6_regrets : MethodName := ⟨RX6, "regrets", "(III)Z"⟩
abbrev cX6_does : ByteArray := prog_8_method_82_code
def yX6_does : MethodName := ⟨RX6, "does", "(I)Z"⟩
abbrev cX6_runScript : ByteArray := prog_8_method_83_code
def yX6_runScript : MethodName := ⟨RX6, "runScript", "(IJ)I"⟩
abbrev cX6_stir : ByteArray := prog_8_method_84_code
def yX6_stir : MethodName := ⟨RX6, "stir", "(I)V"⟩
abbrev cX6_simulate : ByteArray := prog_8_method_85_code
def yX6_simulate : MethodName := ⟨RX6, "simulate", "(JI)I"⟩
abbrev cX6_save : ByteArray := prog_8_method_86_code
def yX6_save : MethodName := ⟨RX6, "save", "(I)I"⟩
abbrev cX6_restore : ByteArray := prog_8_method_87_code
def yX6_restore : MethodName := ⟨RX6, "restore", "(I)I"⟩
def RJx145de : String := "java/io/Serializable"
def TJx145de : u_T := fun k => match k with
  | _ => ("", "", "", false)
def tyJx145de : Nat → FieldType := fun k => match k with
  | _ => .int
abbrev wsJx145de0 : List Cond := u_ws RJx145de TJx145de 0
theorem nmJx145de : ∀ a, a < 0 → ∀ b, b < 0 → a ≠ b → (TJx145de a).2.1 ≠ (TJx145de b).2.1 := by decide +kernel
theorem tyJx145de_ok : ∀ k, k < 0 → parseFieldDescriptor (TJx145de k).2.2.1 = some (tyJx145de k) := by decide +kernel
def RJx9f9b0 : String := "java/lang/CharSequence"
def TJx9f9b0 : u_T := fun k => match k with
  | _ => ("", "", "", false)
def tyJx9f9b0 : Nat → FieldType := fun k => match k with
  | _ => .int
abbrev wsJx9f9b00 : List Cond := u_ws RJx9f9b0 TJx9f9b0 0
theorem nmJx9f9b0 : ∀ a, a < 0 → ∀ b, b < 0 → a ≠ b → (TJx9f9b0 a).2.1 ≠ (TJx9f9b0 b).2.1 := by decide +kernel
theorem tyJx9f9b0_ok : ∀ k, k < 0 → parseFieldDescriptor (TJx9f9b0 k).2.2.1 = some (tyJx9f9b0 k) := by decide +kernel
def RJx8e188 : String := "java/lang/Cloneable"
def TJx8e188 : u_T := fun k => match k with
  | _ => ("", "", "", false)
def tyJx8e188 : Nat → FieldType := fun k => match k with
  | _ => .int
abbrev wsJx8e1880 : List Cond := u_ws RJx8e188 TJx8e188 0
theorem nmJx8e188 : ∀ a, a < 0 → ∀ b, b < 0 → a ≠ b → (TJx8e188 a).2.1 ≠ (TJx8e188 b).2.1 := by decide +kernel
theorem tyJx8e188_ok : ∀ k, k < 0 → parseFieldDescriptor (TJx8e188 k).2.2.1 = some (tyJx8e188 k) := by decide +kernel
def RJxb160c : String := "java/lang/Comparable"
def TJxb160c : u_T := fun k => match k with
  | _ => ("", "", "", false)
def tyJxb160c : Nat → FieldType := fun k => match k with
  | _ => .int
abbrev wsJxb160c0 : List Cond := u_ws RJxb160c TJxb160c 0
theorem nmJxb160c : ∀ a, a < 0 → ∀ b, b < 0 → a ≠ b → (TJxb160c a).2.1 ≠ (TJxb160c b).2.1 := by decide +kernel
theorem tyJxb160c_ok : ∀ k, k < 0 → parseFieldDescriptor (TJxb160c k).2.2.1 = some (tyJxb160c k) := by decide +kernel
def RJ9 : String := "java/lang/Math"
def TJ9 : u_T := fun k => match k with
  | _ => ("", "", "", false)
def tyJ9 : Nat → FieldType := fun k => match k with
  | _ => .int
abbrev wsJ90 : List Cond := u_ws RJ9 TJ9 0
theorem nmJ9 : ∀ a, a < 0 → ∀ b, b < 0 → a ≠ b → (TJ9 a).2.1 ≠ (TJ9 b).2.1 := by decide +kernel
theorem tyJ9_ok : ∀ k, k < 0 → parseFieldDescriptor (TJ9 k).2.2.1 = some (tyJ9 k) := by decide +kernel
abbrev cJ9_max_7cf53 : ByteArray := prog_14_method_65_code
def yJ9_max_7cf53 : MethodName := ⟨RJ9, "max", "(II)I"⟩
abbrev cJ9_min_7cf53 : ByteArray := prog_14_method_69_code
def yJ9_min_7cf53 : MethodName := ⟨RJ9, "min", "(II)I"⟩
def RJ0 : String := "java/lang/String"
def TJ0 : u_T := fun k => match k with
  | _ => ("", "", "", false)
def tyJ0 : Nat → FieldType := fun k => match k with
  | _ => .int
abbrev wsJ00 : List Cond := u_ws RJ0 TJ0 0
theorem nmJ0 : ∀ a, a < 0 → ∀ b, b < 0 → a ≠ b → (TJ0 a).2.1 ≠ (TJ0 b).2.1 := by decide +kernel
theorem tyJ0_ok : ∀ k, k < 0 → parseFieldDescriptor (TJ0 k).2.2.1 = some (tyJ0 k) := by decide +kernel
abbrev cJ0_length_8abf5 : ByteArray := prog_16_method_54_code
def yJ0_length_8abf5 : MethodName := ⟨RJ0, "length", "()I"⟩
abbrev cJ0_isEmpty_aae02 : ByteArray := prog_16_method_55_code
def yJ0_isEmpty_aae02 : MethodName := ⟨RJ0, "isEmpty", "()Z"⟩
abbrev cJ0_charAt_5068e : ByteArray := prog_16_method_56_code
def yJ0_charAt_5068e : MethodName := ⟨RJ0, "charAt", "(I)C"⟩
abbrev cJ0_coder_7d493 : ByteArray := prog_16_method_152_code
def yJ0_coder_7d493 : MethodName := ⟨RJ0, "coder", "()B"⟩
abbrev cJ0_isLatin1_aae02 : ByteArray := prog_16_method_154_code
def yJ0_isLatin1_aae02 : MethodName := ⟨RJ0, "isLatin1", "()Z"⟩
abbrev cJ0_checkIndex_df160 : ByteArray := prog_16_method_155_code
def yJ0_checkIndex_df160 : MethodName := ⟨RJ0, "checkIndex", "(II)V"⟩
def RJ1 : String := "java/lang/StringLatin1"
def TJ1 : u_T := fun k => match k with
  | _ => ("", "", "", false)
def tyJ1 : Nat → FieldType := fun k => match k with
  | _ => .int
abbrev wsJ10 : List Cond := u_ws RJ1 TJ1 0
theorem nmJ1 : ∀ a, a < 0 → ∀ b, b < 0 → a ≠ b → (TJ1 a).2.1 ≠ (TJ1 b).2.1 := by decide +kernel
theorem tyJ1_ok : ∀ k, k < 0 → parseFieldDescriptor (TJ1 k).2.2.1 = some (tyJ1 k) := by decide +kernel
abbrev cJ1_charAt_3b067 : ByteArray := prog_17_method_2_code
def yJ1_charAt_3b067 : MethodName := ⟨RJ1, "charAt", "([BI)C"⟩
def RJ2 : String := "java/lang/StringUTF16"
def TJ2 : u_T := fun k => match k with
  | _ => ("", "", "", false)
def tyJ2 : Nat → FieldType := fun k => match k with
  | _ => .int
abbrev wsJ20 : List Cond := u_ws RJ2 TJ2 0
theorem nmJ2 : ∀ a, a < 0 → ∀ b, b < 0 → a ≠ b → (TJ2 a).2.1 ≠ (TJ2 b).2.1 := by decide +kernel
theorem tyJ2_ok : ∀ k, k < 0 → parseFieldDescriptor (TJ2 k).2.2.1 = some (tyJ2 k) := by decide +kernel
abbrev cJ2_getChar_3b067 : ByteArray := prog_18_method_5_code
def yJ2_getChar_3b067 : MethodName := ⟨RJ2, "getChar", "([BI)C"⟩
abbrev cJ2_length_9d52b : ByteArray := prog_18_method_6_code
def yJ2_length_9d52b : MethodName := ⟨RJ2, "length", "([B)I"⟩
abbrev cJ2_charAt_3b067 : ByteArray := prog_18_method_83_code
def yJ2_charAt_3b067 : MethodName := ⟨RJ2, "charAt", "([BI)C"⟩
abbrev cJ2_checkIndex_2214a : ByteArray := prog_18_method_91_code
def yJ2_checkIndex_2214a : MethodName := ⟨RJ2, "checkIndex", "(I[B)V"⟩
def RJ10 : String := "java/lang/System"
def TJ10 : u_T := fun k => match k with
  | _ => ("", "", "", false)
def tyJ10 : Nat → FieldType := fun k => match k with
  | _ => .int
abbrev wsJ100 : List Cond := u_ws RJ10 TJ10 0
theorem nmJ10 : ∀ a, a < 0 → ∀ b, b < 0 → a ≠ b → (TJ10 a).2.1 ≠ (TJ10 b).2.1 := by decide +kernel
theorem tyJ10_ok : ∀ k, k < 0 → parseFieldDescriptor (TJ10 k).2.2.1 = some (tyJ10 k) := by decide +kernel
def RJxfd54e : String := "java/lang/constant/Constable"
def TJxfd54e : u_T := fun k => match k with
  | _ => ("", "", "", false)
def tyJxfd54e : Nat → FieldType := fun k => match k with
  | _ => .int
abbrev wsJxfd54e0 : List Cond := u_ws RJxfd54e TJxfd54e 0
theorem nmJxfd54e : ∀ a, a < 0 → ∀ b, b < 0 → a ≠ b → (TJxfd54e a).2.1 ≠ (TJxfd54e b).2.1 := by decide +kernel
theorem tyJxfd54e_ok : ∀ k, k < 0 → parseFieldDescriptor (TJxfd54e k).2.2.1 = some (tyJxfd54e k) := by decide +kernel
def RJx3cf43 : String := "java/lang/constant/ConstantDesc"
def TJx3cf43 : u_T := fun k => match k with
  | _ => ("", "", "", false)
def tyJx3cf43 : Nat → FieldType := fun k => match k with
  | _ => .int
abbrev wsJx3cf430 : List Cond := u_ws RJx3cf43 TJx3cf43 0
theorem nmJx3cf43 : ∀ a, a < 0 → ∀ b, b < 0 → a ≠ b → (TJx3cf43 a).2.1 ≠ (TJx3cf43 b).2.1 := by decide +kernel
theorem tyJx3cf43_ok : ∀ k, k < 0 → parseFieldDescriptor (TJx3cf43 k).2.2.1 = some (tyJx3cf43 k) := by decide +kernel
def RJ7 : String := "java/util/Arrays"
def TJ7 : u_T := fun k => match k with
  | _ => ("", "", "", false)
def tyJ7 : Nat → FieldType := fun k => match k with
  | _ => .int
abbrev wsJ70 : List Cond := u_ws RJ7 TJ7 0
theorem nmJ7 : ∀ a, a < 0 → ∀ b, b < 0 → a ≠ b → (TJ7 a).2.1 ≠ (TJ7 b).2.1 := by decide +kernel
theorem tyJ7_ok : ∀ k, k < 0 → parseFieldDescriptor (TJ7 k).2.2.1 = some (tyJ7 k) := by decide +kernel
abbrev cJ7_copyOf_59c91 : ByteArray := prog_21_method_123_code
def yJ7_copyOf_59c91 : MethodName := ⟨RJ7, "copyOf", "([II)[I"⟩
def RJ3 : String := "jdk/internal/util/Preconditions"
def TJ3 : u_T := fun k => match k with
  | _ => ("", "", "", false)
def tyJ3 : Nat → FieldType := fun k => match k with
  | _ => .int
abbrev wsJ30 : List Cond := u_ws RJ3 TJ3 0
theorem nmJ3 : ∀ a, a < 0 → ∀ b, b < 0 → a ≠ b → (TJ3 a).2.1 ≠ (TJ3 b).2.1 := by decide +kernel
theorem tyJ3_ok : ∀ k, k < 0 → parseFieldDescriptor (TJ3 k).2.2.1 = some (tyJ3 k) := by decide +kernel
abbrev cJ3_checkIndex_8e157 : ByteArray := prog_22_method_11_code
def yJ3_checkIndex_8e157 : MethodName := ⟨RJ3, "checkIndex", "(IILjava/util/function/BiFunction;)I"⟩
def RL : String := "ForgivenWorkLaw"
abbrev cL_append : ByteArray := method_3_code
def yL_append : MethodName := ⟨RL, "append", "(LForgivenWork;I[J)I"⟩
abbrev cL_load : ByteArray := method_4_code
def yL_load : MethodName := ⟨RL, "load", "(LForgivenWork;[J)I"⟩
abbrev cL_about : ByteArray := method_5_code
def yL_about : MethodName := ⟨RL, "about", "(LForgivenWork;I[J)I"⟩
abbrev cL_cell : ByteArray := method_6_code
def yL_cell : MethodName := ⟨RL, "cell", "(LForgivenWork;II[J)I"⟩
abbrev cL_worker : ByteArray := method_7_code
def yL_worker : MethodName := ⟨RL, "worker", "(LForgivenWork;II[J)I"⟩
abbrev cL_work : ByteArray := method_8_code
def yL_work : MethodName := ⟨RL, "work", "(LForgivenWork;III[J)I"⟩
abbrev cL_entry : ByteArray := method_9_code
def yL_entry : MethodName := ⟨RL, "entry", "(LForgivenWork;II[J)I"⟩
abbrev cL_begin : ByteArray := method_10_code
def yL_begin : MethodName := ⟨RL, "begin", "(LForgivenWork;I[J)I"⟩
abbrev cL_write : ByteArray := method_11_code
def yL_write : MethodName := ⟨RL, "write", "(LForgivenWork;III[J)I"⟩
abbrev cL_point : ByteArray := method_12_code
def yL_point : MethodName := ⟨RL, "point", "(LForgivenWork;I[J)I"⟩
abbrev cL_back : ByteArray := method_13_code
def yL_back : MethodName := ⟨RL, "back", "(LForgivenWork;II[J)I"⟩
abbrev cL_regret : ByteArray := method_14_code
def yL_regret : MethodName := ⟨RL, "regret", "(LForgivenWork;III[J)I"⟩
abbrev cL_done : ByteArray := method_15_code
def yL_done : MethodName := ⟨RL, "done", "(LForgivenWork;I[J)I"⟩
abbrev cL_fail : ByteArray := method_16_code
def yL_fail : MethodName := ⟨RL, "fail", "(LForgivenWork;I[J)I"⟩
abbrev cL_setMercy : ByteArray := method_17_code
def yL_setMercy : MethodName := ⟨RL, "setMercy", "(LForgivenWork;I[J)I"⟩
abbrev cL_undo : ByteArray := method_18_code
def yL_undo : MethodName := ⟨RL, "undo", "(LForgivenWork;[J)I"⟩
abbrev cL_whyNot : ByteArray := method_19_code
def yL_whyNot : MethodName := ⟨RL, "whyNot", "(LForgivenWork;II[J)I"⟩
abbrev cL_failed : ByteArray := method_20_code
def yL_failed : MethodName := ⟨RL, "failed", "(LForgivenWork;III[J)I"⟩
abbrev cL_changes : ByteArray := method_21_code
def yL_changes : MethodName := ⟨RL, "changes", "(LForgivenWork;I[J)I"⟩
abbrev cL_lost : ByteArray := method_22_code
def yL_lost : MethodName := ⟨RL, "lost", "(LForgivenWork;II[J)I"⟩
abbrev cL_mercyLeft : ByteArray := method_23_code
def yL_mercyLeft : MethodName := ⟨RL, "mercyLeft", "(LForgivenWork;I[J)I"⟩
abbrev cL_runScript : ByteArray := method_24_code
def yL_runScript : MethodName := ⟨RL, "runScript", "(LForgivenWork;IJ[J)I"⟩
abbrev cL_simulate : ByteArray := method_25_code
def yL_simulate : MethodName := ⟨RL, "simulate", "(LForgivenWork;JI[J)I"⟩
abbrev cL_save : ByteArray := method_26_code
def yL_save : MethodName := ⟨RL, "save", "(LForgivenWork;I[J)I"⟩
abbrev cL_restore : ByteArray := method_27_code
def yL_restore : MethodName := ⟨RL, "restore", "(LForgivenWork;I[J)I"⟩
abbrev cL_law : ByteArray := code
def yL_law : MethodName := ⟨RL, "law", "([I)Z"⟩
abbrev vwCl : List vw_C := [(RX0, TX0, 3), (RX1, TX1, 3), (RX2, TX2, 7), (RX3, TX3, 5), (RX4, TX4, 9), (RX5, TX5, 6), (RX6, TX6, 17)]
end
section
theorem dX0_init_0 : decode cX0_init 0 = .ok (.aload_n 0, 1) := by decide +kernel
theorem dX0_init_1 : decode cX0_init 1 = .ok (.invokespecial 3, 3) := by decide +kernel
theorem dX0_init_4 : decode cX0_init 4 = .ok (.aload_n 0, 1) := by decide +kernel
theorem dX0_init_5 : decode cX0_init 5 = .ok (.bipush 14, 2) := by decide +kernel
theorem dX0_init_7 : decode cX0_init 7 = .ok (.anewarray 9, 3) := by decide +kernel
theorem dX0_init_10 : decode cX0_init 10 = .ok (.putfield 11, 3) := by decide +kernel
theorem dX0_init_13 : decode cX0_init 13 = .ok (.return_, 1) := by decide +kernel
theorem dX0_remember_0 : decode cX0_remember 0 = .ok (.aload_n 0, 1) := by decide +kernel
theorem dX0_remember_1 : decode cX0_remember 1 = .ok (.getfield 17, 3) := by decide +kernel
theorem dX0_remember_4 : decode cX0_remember 4 = .ok (.ifCond .lt 15, 3) := by decide +kernel
theorem dX0_remember_7 : decode cX0_remember 7 = .ok (.aload_n 0, 1) := by decide +kernel
theorem dX0_remember_8 : decode cX0_remember 8 = .ok (.getfield 17, 3) := by decide +kernel
theorem dX0_remember_11 : decode cX0_remember 11 = .ok (.aload_n 0, 1) := by decide +kernel
theorem dX0_remember_12 : decode cX0_remember 12 = .ok (.getfield 11, 3) := by decide +kernel
theorem dX0_remember_15 : decode cX0_remember 15 = .ok (.arraylength, 1) := by decide +kernel
theorem dX0_remember_16 : decode cX0_remember 16 = .ok (.if_icmp .lt 4, 3) := by decide +kernel
theorem dX0_remember_19 : decode cX0_remember 19 = .ok (.return_, 1) := by decide +kernel
theorem dX0_remember_20 : decode cX0_remember 20 = .ok (.aload_n 0, 1) := by decide +kernel
theorem dX0_remember_21 : decode cX0_remember 21 = .ok (.getfield 11, 3) := by decide +kernel
theorem dX0_remember_24 : decode cX0_remember 24 = .ok (.aload_n 0, 1) := by decide +kernel
theorem dX0_remember_25 : decode cX0_remember 25 = .ok (.getfield 17, 3) := by decide +kernel
theorem dX0_remember_28 : decode cX0_remember 28 = .ok (.aaload, 1) := by decide +kernel
theorem dX0_remember_29 : decode cX0_remember 29 = .ok (.astore_n 2, 1) := by decide +kernel
theorem dX0_remember_30 : decode cX0_remember 30 = .ok (.aload_n 2, 1) := by decide +kernel
theorem dX0_remember_31 : decode cX0_remember 31 = .ok (.ifnonnull 21, 3) := by decide +kernel
theorem dX0_remember_34 : decode cX0_remember 34 = .ok (.new 9, 3) := by decide +kernel
theorem dX0_remember_37 : decode cX0_remember 37 = .ok (.dup, 1) := by decide +kernel
theorem dX0_remember_38 : decode cX0_remember 38 = .ok (.invokespecial 21, 3) := by decide +kernel
theorem dX0_remember_41 : decode cX0_remember 41 = .ok (.astore_n 2, 1) := by decide +kernel
theorem dX0_remember_42 : decode cX0_remember 42 = .ok (.aload_n 0, 1) := by decide +kernel
theorem dX0_remember_43 : decode cX0_remember 43 = .ok (.getfield 11, 3) := by decide +kernel
theorem dX0_remember_46 : decode cX0_remember 46 = .ok (.aload_n 0, 1) := by decide +kernel
theorem dX0_remember_47 : decode cX0_remember 47 = .ok (.getfield 17, 3) := by decide +kernel
theorem dX0_remember_50 : decode cX0_remember 50 = .ok (.aload_n 2, 1) := by decide +kernel
theorem dX0_remember_51 : decode cX0_remember 51 = .ok (.aastore, 1) := by decide +kernel
theorem dX0_remember_52 : decode cX0_remember 52 = .ok (.aload_n 2, 1) := by decide +kernel
theorem dX0_remember_53 : decode cX0_remember 53 = .ok (.aload_n 1, 1) := by decide +kernel
theorem dX0_remember_54 : decode cX0_remember 54 = .ok (.invokevirtual 22, 3) := by decide +kernel
theorem dX0_remember_57 : decode cX0_remember 57 = .ok (.aload_n 0, 1) := by decide +kernel
theorem dX0_remember_58 : decode cX0_remember 58 = .ok (.aload_n 0, 1) := by decide +kernel
theorem dX0_remember_59 : decode cX0_remember 59 = .ok (.getfield 17, 3) := by decide +kernel
theorem dX0_remember_62 : decode cX0_remember 62 = .ok (.iconst 1, 1) := by decide +kernel
theorem dX0_remember_63 : decode cX0_remember 63 = .ok (.iadd, 1) := by decide +kernel
theorem dX0_remember_64 : decode cX0_remember 64 = .ok (.bipush 14, 2) := by decide +kernel
theorem dX0_remember_66 : decode cX0_remember 66 = .ok (.irem, 1) := by decide +kernel
theorem dX0_remember_67 : decode cX0_remember 67 = .ok (.putfield 17, 3) := by decide +kernel
theorem dX0_remember_70 : decode cX0_remember 70 = .ok (.aload_n 0, 1) := by decide +kernel
theorem dX0_remember_71 : decode cX0_remember 71 = .ok (.bipush 14, 2) := by decide +kernel
theorem dX0_remember_73 : decode cX0_remember 73 = .ok (.aload_n 0, 1) := by decide +kernel
theorem dX0_remember_74 : decode cX0_remember 74 = .ok (.getfield 26, 3) := by decide +kernel
theorem dX0_remember_77 : decode cX0_remember 77 = .ok (.iconst 1, 1) := by decide +kernel
theorem dX0_remember_78 : decode cX0_remember 78 = .ok (.iadd, 1) := by decide +kernel
theorem dX0_remember_79 : decode cX0_remember 79 = .ok (.invokestatic 29, 3) := by decide +kernel
theorem dX0_remember_82 : decode cX0_remember 82 = .ok (.putfield 26, 3) := by decide +kernel
theorem dX0_remember_85 : decode cX0_remember 85 = .ok (.return_, 1) := by decide +kernel
theorem dX0_takeBack_0 : decode cX0_takeBack 0 = .ok (.aload_n 0, 1) := by decide +kernel
theorem dX0_takeBack_1 : decode cX0_takeBack 1 = .ok (.getfield 17, 3) := by decide +kernel
theorem dX0_takeBack_4 : decode cX0_takeBack 4 = .ok (.bipush 14, 2) := by decide +kernel
theorem dX0_takeBack_6 : decode cX0_takeBack 6 = .ok (.iadd, 1) := by decide +kernel
theorem dX0_takeBack_7 : decode cX0_takeBack 7 = .ok (.iconst 1, 1) := by decide +kernel
theorem dX0_takeBack_8 : decode cX0_takeBack 8 = .ok (.isub, 1) := by decide +kernel
theorem dX0_takeBack_9 : decode cX0_takeBack 9 = .ok (.bipush 14, 2) := by decide +kernel
theorem dX0_takeBack_11 : decode cX0_takeBack 11 = .ok (.irem, 1) := by decide +kernel
theorem dX0_takeBack_12 : decode cX0_takeBack 12 = .ok (.istore_n 2, 1) := by decide +kernel
theorem dX0_takeBack_13 : decode cX0_takeBack 13 = .ok (.iload_n 2, 1) := by decide +kernel
theorem dX0_takeBack_14 : decode cX0_takeBack 14 = .ok (.ifCond .lt 21, 3) := by decide +kernel
theorem dX0_takeBack_17 : decode cX0_takeBack 17 = .ok (.iload_n 2, 1) := by decide +kernel
theorem dX0_takeBack_18 : decode cX0_takeBack 18 = .ok (.aload_n 0, 1) := by decide +kernel
theorem dX0_takeBack_19 : decode cX0_takeBack 19 = .ok (.getfield 11, 3) := by decide +kernel
theorem dX0_takeBack_22 : decode cX0_takeBack 22 = .ok (.arraylength, 1) := by decide +kernel
theorem dX0_takeBack_23 : decode cX0_takeBack 23 = .ok (.if_icmp .ge 12, 3) := by decide +kernel
theorem dX0_takeBack_26 : decode cX0_takeBack 26 = .ok (.aload_n 0, 1) := by decide +kernel
theorem dX0_takeBack_27 : decode cX0_takeBack 27 = .ok (.getfield 11, 3) := by decide +kernel
theorem dX0_takeBack_30 : decode cX0_takeBack 30 = .ok (.iload_n 2, 1) := by decide +kernel
theorem dX0_takeBack_31 : decode cX0_takeBack 31 = .ok (.aaload, 1) := by decide +kernel
theorem dX0_takeBack_32 : decode cX0_takeBack 32 = .ok (.goto 4, 3) := by decide +kernel
theorem dX0_takeBack_35 : decode cX0_takeBack 35 = .ok (.aconst_null, 1) := by decide +kernel
theorem dX0_takeBack_36 : decode cX0_takeBack 36 = .ok (.astore_n 3, 1) := by decide +kernel
theorem dX0_takeBack_37 : decode cX0_takeBack 37 = .ok (.aload_n 3, 1) := by decide +kernel
theorem dX0_takeBack_38 : decode cX0_takeBack 38 = .ok (.ifnull 10, 3) := by decide +kernel
theorem dX0_takeBack_41 : decode cX0_takeBack 41 = .ok (.aload_n 0, 1) := by decide +kernel
theorem dX0_takeBack_42 : decode cX0_takeBack 42 = .ok (.getfield 26, 3) := by decide +kernel
theorem dX0_takeBack_45 : decode cX0_takeBack 45 = .ok (.ifCond .ne 4, 3) := by decide +kernel
theorem dX0_takeBack_48 : decode cX0_takeBack 48 = .ok (.return_, 1) := by decide +kernel
theorem dX0_takeBack_49 : decode cX0_takeBack 49 = .ok (.aload_n 1, 1) := by decide +kernel
theorem dX0_takeBack_50 : decode cX0_takeBack 50 = .ok (.aload_n 3, 1) := by decide +kernel
theorem dX0_takeBack_51 : decode cX0_takeBack 51 = .ok (.invokevirtual 22, 3) := by decide +kernel
theorem dX0_takeBack_54 : decode cX0_takeBack 54 = .ok (.aload_n 0, 1) := by decide +kernel
theorem dX0_takeBack_55 : decode cX0_takeBack 55 = .ok (.iload_n 2, 1) := by decide +kernel
theorem dX0_takeBack_56 : decode cX0_takeBack 56 = .ok (.putfield 17, 3) := by decide +kernel
theorem dX0_takeBack_59 : decode cX0_takeBack 59 = .ok (.aload_n 0, 1) := by decide +kernel
theorem dX0_takeBack_60 : decode cX0_takeBack 60 = .ok (.dup, 1) := by decide +kernel
theorem dX0_takeBack_61 : decode cX0_takeBack 61 = .ok (.getfield 26, 3) := by decide +kernel
theorem dX0_takeBack_64 : decode cX0_takeBack 64 = .ok (.iconst 1, 1) := by decide +kernel
theorem dX0_takeBack_65 : decode cX0_takeBack 65 = .ok (.isub, 1) := by decide +kernel
theorem dX0_takeBack_66 : decode cX0_takeBack 66 = .ok (.putfield 26, 3) := by decide +kernel
theorem dX0_takeBack_69 : decode cX0_takeBack 69 = .ok (.return_, 1) := by decide +kernel
theorem dX0_forgetAll_0 : decode cX0_forgetAll 0 = .ok (.aload_n 0, 1) := by decide +kernel
theorem dX0_forgetAll_1 : decode cX0_forgetAll 1 = .ok (.iconst 0, 1) := by decide +kernel
theorem dX0_forgetAll_2 : decode cX0_forgetAll 2 = .ok (.putfield 26, 3) := by decide +kernel
theorem dX0_forgetAll_5 : decode cX0_forgetAll 5 = .ok (.return_, 1) := by decide +kernel
theorem dX1_init_0 : decode cX1_init 0 = .ok (.aload_n 0, 1) := by decide +kernel
theorem dX1_init_1 : decode cX1_init 1 = .ok (.invokespecial 1, 3) := by decide +kernel
theorem dX1_init_4 : decode cX1_init 4 = .ok (.aload_n 0, 1) := by decide +kernel
theorem dX1_init_5 : decode cX1_init 5 = .ok (.iconst 1, 1) := by decide +kernel
theorem dX1_init_6 : decode cX1_init 6 = .ok (.iload_n 1, 1) := by decide +kernel
theorem dX1_init_7 : decode cX1_init 7 = .ok (.invokestatic 7, 3) := by decide +kernel
theorem dX1_init_10 : decode cX1_init 10 = .ok (.newarray .int, 2) := by decide +kernel
theorem dX1_init_12 : decode cX1_init 12 = .ok (.putfield 13, 3) := by decide +kernel
theorem dX1_init_15 : decode cX1_init 15 = .ok (.aload_n 0, 1) := by decide +kernel
theorem dX1_init_16 : decode cX1_init 16 = .ok (.iload_n 2, 1) := by decide +kernel
theorem dX1_init_17 : decode cX1_init 17 = .ok (.putfield 19, 3) := by decide +kernel
theorem dX1_init_20 : decode cX1_init 20 = .ok (.return_, 1) := by decide +kernel
theorem dX1_get_0 : decode cX1_get 0 = .ok (.iload_n 1, 1) := by decide +kernel
theorem dX1_get_1 : decode cX1_get 1 = .ok (.ifCond .lt 29, 3) := by decide +kernel
theorem dX1_get_4 : decode cX1_get 4 = .ok (.iload_n 1, 1) := by decide +kernel
theorem dX1_get_5 : decode cX1_get 5 = .ok (.aload_n 0, 1) := by decide +kernel
theorem dX1_get_6 : decode cX1_get 6 = .ok (.getfield 23, 3) := by decide +kernel
theorem dX1_get_9 : decode cX1_get 9 = .ok (.if_icmp .ge 21, 3) := by decide +kernel
theorem dX1_get_12 : decode cX1_get 12 = .ok (.iload_n 1, 1) := by decide +kernel
theorem dX1_get_13 : decode cX1_get 13 = .ok (.aload_n 0, 1) := by decide +kernel
theorem dX1_get_14 : decode cX1_get 14 = .ok (.getfield 13, 3) := by decide +kernel
theorem dX1_get_17 : decode cX1_get 17 = .ok (.arraylength, 1) := by decide +kernel
theorem dX1_get_18 : decode cX1_get 18 = .ok (.if_icmp .ge 12, 3) := by decide +kernel
theorem dX1_get_21 : decode cX1_get 21 = .ok (.aload_n 0, 1) := by decide +kernel
theorem dX1_get_22 : decode cX1_get 22 = .ok (.getfield 13, 3) := by decide +kernel
theorem dX1_get_25 : decode cX1_get 25 = .ok (.iload_n 1, 1) := by decide +kernel
theorem dX1_get_26 : decode cX1_get 26 = .ok (.iaload, 1) := by decide +kernel
theorem dX1_get_27 : decode cX1_get 27 = .ok (.goto 4, 3) := by decide +kernel
theorem dX1_get_30 : decode cX1_get 30 = .ok (.iconst 0, 1) := by decide +kernel
theorem dX1_get_31 : decode cX1_get 31 = .ok (.ireturn, 1) := by decide +kernel
theorem dX1_set_0 : decode cX1_set 0 = .ok (.iload_n 1, 1) := by decide +kernel
theorem dX1_set_1 : decode cX1_set 1 = .ok (.ifCond .lt 27, 3) := by decide +kernel
theorem dX1_set_4 : decode cX1_set 4 = .ok (.iload_n 1, 1) := by decide +kernel
theorem dX1_set_5 : decode cX1_set 5 = .ok (.aload_n 0, 1) := by decide +kernel
theorem dX1_set_6 : decode cX1_set 6 = .ok (.getfield 23, 3) := by decide +kernel
theorem dX1_set_9 : decode cX1_set 9 = .ok (.if_icmp .ge 19, 3) := by decide +kernel
theorem dX1_set_12 : decode cX1_set 12 = .ok (.iload_n 1, 1) := by decide +kernel
theorem dX1_set_13 : decode cX1_set 13 = .ok (.aload_n 0, 1) := by decide +kernel
theorem dX1_set_14 : decode cX1_set 14 = .ok (.getfield 13, 3) := by decide +kernel
theorem dX1_set_17 : decode cX1_set 17 = .ok (.arraylength, 1) := by decide +kernel
theorem dX1_set_18 : decode cX1_set 18 = .ok (.if_icmp .ge 10, 3) := by decide +kernel
theorem dX1_set_21 : decode cX1_set 21 = .ok (.aload_n 0, 1) := by decide +kernel
theorem dX1_set_22 : decode cX1_set 22 = .ok (.getfield 13, 3) := by decide +kernel
theorem dX1_set_25 : decode cX1_set 25 = .ok (.iload_n 1, 1) := by decide +kernel
theorem dX1_set_26 : decode cX1_set 26 = .ok (.iload_n 2, 1) := by decide +kernel
theorem dX1_set_27 : decode cX1_set 27 = .ok (.iastore, 1) := by decide +kernel
theorem dX1_set_28 : decode cX1_set 28 = .ok (.return_, 1) := by decide +kernel
theorem dX1_push_0 : decode cX1_push 0 = .ok (.aload_n 0, 1) := by decide +kernel
theorem dX1_push_1 : decode cX1_push 1 = .ok (.getfield 23, 3) := by decide +kernel
theorem dX1_push_4 : decode cX1_push 4 = .ok (.ifCond .lt 14, 3) := by decide +kernel
theorem dX1_push_7 : decode cX1_push 7 = .ok (.aload_n 0, 1) := by decide +kernel
theorem dX1_push_8 : decode cX1_push 8 = .ok (.getfield 23, 3) := by decide +kernel
theorem dX1_push_11 : decode cX1_push 11 = .ok (.aload_n 0, 1) := by decide +kernel
theorem dX1_push_12 : decode cX1_push 12 = .ok (.getfield 19, 3) := by decide +kernel
theorem dX1_push_15 : decode cX1_push 15 = .ok (.if_icmp .lt 4, 3) := by decide +kernel
theorem dX1_push_18 : decode cX1_push 18 = .ok (.return_, 1) := by decide +kernel
theorem dX1_push_19 : decode cX1_push 19 = .ok (.aload_n 0, 1) := by decide +kernel
theorem dX1_push_20 : decode cX1_push 20 = .ok (.getfield 23, 3) := by decide +kernel
theorem dX1_push_23 : decode cX1_push 23 = .ok (.aload_n 0, 1) := by decide +kernel
theorem dX1_push_24 : decode cX1_push 24 = .ok (.getfield 13, 3) := by decide +kernel
theorem dX1_push_27 : decode cX1_push 27 = .ok (.arraylength, 1) := by decide +kernel
theorem dX1_push_28 : decode cX1_push 28 = .ok (.if_icmp .lt 29, 3) := by decide +kernel
theorem dX1_push_31 : decode cX1_push 31 = .ok (.aload_n 0, 1) := by decide +kernel
theorem dX1_push_32 : decode cX1_push 32 = .ok (.aload_n 0, 1) := by decide +kernel
theorem dX1_push_33 : decode cX1_push 33 = .ok (.getfield 13, 3) := by decide +kernel
theorem dX1_push_36 : decode cX1_push 36 = .ok (.aload_n 0, 1) := by decide +kernel
theorem dX1_push_37 : decode cX1_push 37 = .ok (.getfield 19, 3) := by decide +kernel
theorem dX1_push_40 : decode cX1_push 40 = .ok (.iconst 2, 1) := by decide +kernel
theorem dX1_push_41 : decode cX1_push 41 = .ok (.aload_n 0, 1) := by decide +kernel
theorem dX1_push_42 : decode cX1_push 42 = .ok (.getfield 23, 3) := by decide +kernel
theorem dX1_push_45 : decode cX1_push 45 = .ok (.imul, 1) := by decide +kernel
theorem dX1_push_46 : decode cX1_push 46 = .ok (.iconst 1, 1) := by decide +kernel
theorem dX1_push_47 : decode cX1_push 47 = .ok (.iadd, 1) := by decide +kernel
theorem dX1_push_48 : decode cX1_push 48 = .ok (.invokestatic 26, 3) := by decide +kernel
theorem dX1_push_51 : decode cX1_push 51 = .ok (.invokestatic 29, 3) := by decide +kernel
theorem dX1_push_54 : decode cX1_push 54 = .ok (.putfield 13, 3) := by decide +kernel
theorem dX1_push_57 : decode cX1_push 57 = .ok (.aload_n 0, 1) := by decide +kernel
theorem dX1_push_58 : decode cX1_push 58 = .ok (.getfield 23, 3) := by decide +kernel
theorem dX1_push_61 : decode cX1_push 61 = .ok (.aload_n 0, 1) := by decide +kernel
theorem dX1_push_62 : decode cX1_push 62 = .ok (.getfield 13, 3) := by decide +kernel
theorem dX1_push_65 : decode cX1_push 65 = .ok (.arraylength, 1) := by decide +kernel
theorem dX1_push_66 : decode cX1_push 66 = .ok (.if_icmp .ge 23, 3) := by decide +kernel
theorem dX1_push_69 : decode cX1_push 69 = .ok (.aload_n 0, 1) := by decide +kernel
theorem dX1_push_70 : decode cX1_push 70 = .ok (.getfield 13, 3) := by decide +kernel
theorem dX1_push_73 : decode cX1_push 73 = .ok (.aload_n 0, 1) := by decide +kernel
theorem dX1_push_74 : decode cX1_push 74 = .ok (.getfield 23, 3) := by decide +kernel
theorem dX1_push_77 : decode cX1_push 77 = .ok (.iload_n 1, 1) := by decide +kernel
theorem dX1_push_78 : decode cX1_push 78 = .ok (.iastore, 1) := by decide +kernel
theorem dX1_push_79 : decode cX1_push 79 = .ok (.aload_n 0, 1) := by decide +kernel
theorem dX1_push_80 : decode cX1_push 80 = .ok (.dup, 1) := by decide +kernel
theorem dX1_push_81 : decode cX1_push 81 = .ok (.getfield 23, 3) := by decide +kernel
theorem dX1_push_84 : decode cX1_push 84 = .ok (.iconst 1, 1) := by decide +kernel
theorem dX1_push_85 : decode cX1_push 85 = .ok (.iadd, 1) := by decide +kernel
theorem dX1_push_86 : decode cX1_push 86 = .ok (.putfield 23, 3) := by decide +kernel
theorem dX1_push_89 : decode cX1_push 89 = .ok (.return_, 1) := by decide +kernel
theorem dX1_cutTo_0 : decode cX1_cutTo 0 = .ok (.iload_n 1, 1) := by decide +kernel
theorem dX1_cutTo_1 : decode cX1_cutTo 1 = .ok (.ifCond .lt 16, 3) := by decide +kernel
theorem dX1_cutTo_4 : decode cX1_cutTo 4 = .ok (.iload_n 1, 1) := by decide +kernel
theorem dX1_cutTo_5 : decode cX1_cutTo 5 = .ok (.aload_n 0, 1) := by decide +kernel
theorem dX1_cutTo_6 : decode cX1_cutTo 6 = .ok (.getfield 23, 3) := by decide +kernel
theorem dX1_cutTo_9 : decode cX1_cutTo 9 = .ok (.if_icmp .ge 8, 3) := by decide +kernel
theorem dX1_cutTo_12 : decode cX1_cutTo 12 = .ok (.aload_n 0, 1) := by decide +kernel
theorem dX1_cutTo_13 : decode cX1_cutTo 13 = .ok (.iload_n 1, 1) := by decide +kernel
theorem dX1_cutTo_14 : decode cX1_cutTo 14 = .ok (.putfield 23, 3) := by decide +kernel
theorem dX1_cutTo_17 : decode cX1_cutTo 17 = .ok (.return_, 1) := by decide +kernel
theorem dX1_copyFrom_0 : decode cX1_copyFrom 0 = .ok (.aload_n 1, 1) := by decide +kernel
theorem dX1_copyFrom_1 : decode cX1_copyFrom 1 = .ok (.getfield 23, 3) := by decide +kernel
theorem dX1_copyFrom_4 : decode cX1_copyFrom 4 = .ok (.aload_n 0, 1) := by decide +kernel
theorem dX1_copyFrom_5 : decode cX1_copyFrom 5 = .ok (.getfield 13, 3) := by decide +kernel
theorem dX1_copyFrom_8 : decode cX1_copyFrom 8 = .ok (.arraylength, 1) := by decide +kernel
theorem dX1_copyFrom_9 : decode cX1_copyFrom 9 = .ok (.if_icmp .le 20, 3) := by decide +kernel
theorem dX1_copyFrom_12 : decode cX1_copyFrom 12 = .ok (.aload_n 0, 1) := by decide +kernel
theorem dX1_copyFrom_13 : decode cX1_copyFrom 13 = .ok (.aload_n 1, 1) := by decide +kernel
theorem dX1_copyFrom_14 : decode cX1_copyFrom 14 = .ok (.getfield 13, 3) := by decide +kernel
theorem dX1_copyFrom_17 : decode cX1_copyFrom 17 = .ok (.invokevirtual 35, 3) := by decide +kernel
theorem dX1_copyFrom_20 : decode cX1_copyFrom 20 = .ok (.checkcast 36, 3) := by decide +kernel
theorem dX1_copyFrom_23 : decode cX1_copyFrom 23 = .ok (.putfield 13, 3) := by decide +kernel
theorem dX1_copyFrom_26 : decode cX1_copyFrom 26 = .ok (.goto 39, 3) := by decide +kernel
theorem dX1_copyFrom_29 : decode cX1_copyFrom 29 = .ok (.aload_n 1, 1) := by decide +kernel
theorem dX1_copyFrom_30 : decode cX1_copyFrom 30 = .ok (.getfield 23, 3) := by decide +kernel
theorem dX1_copyFrom_33 : decode cX1_copyFrom 33 = .ok (.ifCond .lt 32, 3) := by decide +kernel
theorem dX1_copyFrom_36 : decode cX1_copyFrom 36 = .ok (.aload_n 1, 1) := by decide +kernel
theorem dX1_copyFrom_37 : decode cX1_copyFrom 37 = .ok (.getfield 23, 3) := by decide +kernel
theorem dX1_copyFrom_40 : decode cX1_copyFrom 40 = .ok (.aload_n 1, 1) := by decide +kernel
theorem dX1_copyFrom_41 : decode cX1_copyFrom 41 = .ok (.getfield 13, 3) := by decide +kernel
theorem dX1_copyFrom_44 : decode cX1_copyFrom 44 = .ok (.arraylength, 1) := by decide +kernel
theorem dX1_copyFrom_45 : decode cX1_copyFrom 45 = .ok (.if_icmp .gt 20, 3) := by decide +kernel
theorem dX1_copyFrom_48 : decode cX1_copyFrom 48 = .ok (.aload_n 1, 1) := by decide +kernel
theorem dX1_copyFrom_49 : decode cX1_copyFrom 49 = .ok (.getfield 13, 3) := by decide +kernel
theorem dX1_copyFrom_52 : decode cX1_copyFrom 52 = .ok (.iconst 0, 1) := by decide +kernel
theorem dX1_copyFrom_53 : decode cX1_copyFrom 53 = .ok (.aload_n 0, 1) := by decide +kernel
theorem dX1_copyFrom_54 : decode cX1_copyFrom 54 = .ok (.getfield 13, 3) := by decide +kernel
theorem dX1_copyFrom_57 : decode cX1_copyFrom 57 = .ok (.iconst 0, 1) := by decide +kernel
theorem dX1_copyFrom_58 : decode cX1_copyFrom 58 = .ok (.aload_n 1, 1) := by decide +kernel
theorem dX1_copyFrom_59 : decode cX1_copyFrom 59 = .ok (.getfield 23, 3) := by decide +kernel
theorem dX1_copyFrom_62 : decode cX1_copyFrom 62 = .ok (.invokestatic 40, 3) := by decide +kernel
theorem dX1_copyFrom_65 : decode cX1_copyFrom 65 = .ok (.aload_n 0, 1) := by decide +kernel
theorem dX1_copyFrom_66 : decode cX1_copyFrom 66 = .ok (.aload_n 1, 1) := by decide +kernel
theorem dX1_copyFrom_67 : decode cX1_copyFrom 67 = .ok (.getfield 23, 3) := by decide +kernel
theorem dX1_copyFrom_70 : decode cX1_copyFrom 70 = .ok (.putfield 23, 3) := by decide +kernel
theorem dX1_copyFrom_73 : decode cX1_copyFrom 73 = .ok (.return_, 1) := by decide +kernel
theorem dX3_init_0 : decode cX3_init 0 = .ok (.aload_n 0, 1) := by decide +kernel
theorem dX3_init_1 : decode cX3_init 1 = .ok (.invokespecial 1, 3) := by decide +kernel
theorem dX3_init_4 : decode cX3_init 4 = .ok (.return_, 1) := by decide +kernel
theorem dX3_copyFrom_0 : decode cX3_copyFrom 0 = .ok (.aload_n 0, 1) := by decide +kernel
theorem dX3_copyFrom_1 : decode cX3_copyFrom 1 = .ok (.aload_n 1, 1) := by decide +kernel
theorem dX3_copyFrom_2 : decode cX3_copyFrom 2 = .ok (.getfield 7, 3) := by decide +kernel
theorem dX3_copyFrom_5 : decode cX3_copyFrom 5 = .ok (.putfield 7, 3) := by decide +kernel
theorem dX3_copyFrom_8 : decode cX3_copyFrom 8 = .ok (.aload_n 0, 1) := by decide +kernel
theorem dX3_copyFrom_9 : decode cX3_copyFrom 9 = .ok (.aload_n 1, 1) := by decide +kernel
theorem dX3_copyFrom_10 : decode cX3_copyFrom 10 = .ok (.getfield 13, 3) := by decide +kernel
theorem dX3_copyFrom_13 : decode cX3_copyFrom 13 = .ok (.putfield 13, 3) := by decide +kernel
theorem dX3_copyFrom_16 : decode cX3_copyFrom 16 = .ok (.aload_n 0, 1) := by decide +kernel
theorem dX3_copyFrom_17 : decode cX3_copyFrom 17 = .ok (.aload_n 1, 1) := by decide +kernel
theorem dX3_copyFrom_18 : decode cX3_copyFrom 18 = .ok (.getfield 16, 3) := by decide +kernel
theorem dX3_copyFrom_21 : decode cX3_copyFrom 21 = .ok (.putfield 16, 3) := by decide +kernel
theorem dX3_copyFrom_24 : decode cX3_copyFrom 24 = .ok (.aload_n 0, 1) := by decide +kernel
theorem dX3_copyFrom_25 : decode cX3_copyFrom 25 = .ok (.aload_n 1, 1) := by decide +kernel
theorem dX3_copyFrom_26 : decode cX3_copyFrom 26 = .ok (.getfield 19, 3) := by decide +kernel
theorem dX3_copyFrom_29 : decode cX3_copyFrom 29 = .ok (.putfield 19, 3) := by decide +kernel
theorem dX3_copyFrom_32 : decode cX3_copyFrom 32 = .ok (.aload_n 0, 1) := by decide +kernel
theorem dX3_copyFrom_33 : decode cX3_copyFrom 33 = .ok (.aload_n 1, 1) := by decide +kernel
theorem dX3_copyFrom_34 : decode cX3_copyFrom 34 = .ok (.getfield 22, 3) := by decide +kernel
theorem dX3_copyFrom_37 : decode cX3_copyFrom 37 = .ok (.putfield 22, 3) := by decide +kernel
theorem dX3_copyFrom_40 : decode cX3_copyFrom 40 = .ok (.return_, 1) := by decide +kernel
theorem dX4_init_0 : decode cX4_init 0 = .ok (.aload_n 0, 1) := by decide +kernel
theorem dX4_init_1 : decode cX4_init 1 = .ok (.invokespecial 3, 3) := by decide +kernel
theorem dX4_init_4 : decode cX4_init 4 = .ok (.aload_n 0, 1) := by decide +kernel
theorem dX4_init_5 : decode cX4_init 5 = .ok (.iconst 5, 1) := by decide +kernel
theorem dX4_init_6 : decode cX4_init 6 = .ok (.anewarray 9, 3) := by decide +kernel
theorem dX4_init_9 : decode cX4_init 9 = .ok (.putfield 11, 3) := by decide +kernel
theorem dX4_init_12 : decode cX4_init 12 = .ok (.aload_n 0, 1) := by decide +kernel
theorem dX4_init_13 : decode cX4_init 13 = .ok (.new 17, 3) := by decide +kernel
theorem dX4_init_16 : decode cX4_init 16 = .ok (.dup, 1) := by decide +kernel
theorem dX4_init_17 : decode cX4_init 17 = .ok (.bipush 40, 2) := by decide +kernel
theorem dX4_init_19 : decode cX4_init 19 = .ok (.sipush 1024, 3) := by decide +kernel
theorem dX4_init_22 : decode cX4_init 22 = .ok (.invokespecial 19, 3) := by decide +kernel
theorem dX4_init_25 : decode cX4_init 25 = .ok (.putfield 22, 3) := by decide +kernel
theorem dX4_init_28 : decode cX4_init 28 = .ok (.aload_n 0, 1) := by decide +kernel
theorem dX4_init_29 : decode cX4_init 29 = .ok (.new 17, 3) := by decide +kernel
theorem dX4_init_32 : decode cX4_init 32 = .ok (.dup, 1) := by decide +kernel
theorem dX4_init_33 : decode cX4_init 33 = .ok (.bipush 12, 2) := by decide +kernel
theorem dX4_init_35 : decode cX4_init 35 = .ok (.sipush 1024, 3) := by decide +kernel
theorem dX4_init_38 : decode cX4_init 38 = .ok (.invokespecial 19, 3) := by decide +kernel
theorem dX4_init_41 : decode cX4_init 41 = .ok (.putfield 26, 3) := by decide +kernel
theorem dX4_init_44 : decode cX4_init 44 = .ok (.aload_n 0, 1) := by decide +kernel
theorem dX4_init_45 : decode cX4_init 45 = .ok (.new 17, 3) := by decide +kernel
theorem dX4_init_48 : decode cX4_init 48 = .ok (.dup, 1) := by decide +kernel
theorem dX4_init_49 : decode cX4_init 49 = .ok (.iconst 4, 1) := by decide +kernel
theorem dX4_init_50 : decode cX4_init 50 = .ok (.bipush 20, 2) := by decide +kernel
theorem dX4_init_52 : decode cX4_init 52 = .ok (.invokespecial 19, 3) := by decide +kernel
theorem dX4_init_55 : decode cX4_init 55 = .ok (.putfield 29, 3) := by decide +kernel
theorem dX4_init_58 : decode cX4_init 58 = .ok (.aload_n 0, 1) := by decide +kernel
theorem dX4_init_59 : decode cX4_init 59 = .ok (.new 17, 3) := by decide +kernel
theorem dX4_init_62 : decode cX4_init 62 = .ok (.dup, 1) := by decide +kernel
theorem dX4_init_63 : decode cX4_init 63 = .ok (.iconst 4, 1) := by decide +kernel
theorem dX4_init_64 : decode cX4_init 64 = .ok (.bipush 20, 2) := by decide +kernel
theorem dX4_init_66 : decode cX4_init 66 = .ok (.invokespecial 19, 3) := by decide +kernel
theorem dX4_init_69 : decode cX4_init 69 = .ok (.putfield 32, 3) := by decide +kernel
theorem dX4_init_72 : decode cX4_init 72 = .ok (.aload_n 0, 1) := by decide +kernel
theorem dX4_init_73 : decode cX4_init 73 = .ok (.iload_n 1, 1) := by decide +kernel
theorem dX4_init_74 : decode cX4_init 74 = .ok (.putfield 35, 3) := by decide +kernel
theorem dX4_init_77 : decode cX4_init 77 = .ok (.iconst 0, 1) := by decide +kernel
theorem dX4_init_78 : decode cX4_init 78 = .ok (.istore_n 2, 1) := by decide +kernel
theorem dX4_init_79 : decode cX4_init 79 = .ok (.iload_n 2, 1) := by decide +kernel
theorem dX4_init_80 : decode cX4_init 80 = .ok (.aload_n 0, 1) := by decide +kernel
theorem dX4_init_81 : decode cX4_init 81 = .ok (.getfield 11, 3) := by decide +kernel
theorem dX4_init_84 : decode cX4_init 84 = .ok (.arraylength, 1) := by decide +kernel
theorem dX4_init_85 : decode cX4_init 85 = .ok (.if_icmp .ge 22, 3) := by decide +kernel
theorem dX4_init_88 : decode cX4_init 88 = .ok (.aload_n 0, 1) := by decide +kernel
theorem dX4_init_89 : decode cX4_init 89 = .ok (.getfield 11, 3) := by decide +kernel
theorem dX4_init_92 : decode cX4_init 92 = .ok (.iload_n 2, 1) := by decide +kernel
theorem dX4_init_93 : decode cX4_init 93 = .ok (.new 9, 3) := by decide +kernel
theorem dX4_init_96 : decode cX4_init 96 = .ok (.dup, 1) := by decide +kernel
theorem dX4_init_97 : decode cX4_init 97 = .ok (.invokespecial 39, 3) := by decide +kernel
theorem dX4_init_100 : decode cX4_init 100 = .ok (.aastore, 1) := by decide +kernel
theorem dX4_init_101 : decode cX4_init 101 = .ok (.iinc 2 1, 3) := by decide +kernel
theorem dX4_init_104 : decode cX4_init 104 = .ok (.goto (-25), 3) := by decide +kernel
theorem dX4_init_107 : decode cX4_init 107 = .ok (.return_, 1) := by decide +kernel
theorem dX4_clear_0 : decode cX4_clear 0 = .ok (.aload_n 0, 1) := by decide +kernel
theorem dX4_clear_1 : decode cX4_clear 1 = .ok (.iconst 0, 1) := by decide +kernel
theorem dX4_clear_2 : decode cX4_clear 2 = .ok (.putfield 40, 3) := by decide +kernel
theorem dX4_clear_5 : decode cX4_clear 5 = .ok (.aload_n 0, 1) := by decide +kernel
theorem dX4_clear_6 : decode cX4_clear 6 = .ok (.getfield 22, 3) := by decide +kernel
theorem dX4_clear_9 : decode cX4_clear 9 = .ok (.iconst 0, 1) := by decide +kernel
theorem dX4_clear_10 : decode cX4_clear 10 = .ok (.invokevirtual 43, 3) := by decide +kernel
theorem dX4_clear_13 : decode cX4_clear 13 = .ok (.aload_n 0, 1) := by decide +kernel
theorem dX4_clear_14 : decode cX4_clear 14 = .ok (.getfield 26, 3) := by decide +kernel
theorem dX4_clear_17 : decode cX4_clear 17 = .ok (.iconst 0, 1) := by decide +kernel
theorem dX4_clear_18 : decode cX4_clear 18 = .ok (.invokevirtual 43, 3) := by decide +kernel
theorem dX4_clear_21 : decode cX4_clear 21 = .ok (.aload_n 0, 1) := by decide +kernel
theorem dX4_clear_22 : decode cX4_clear 22 = .ok (.iconst 0, 1) := by decide +kernel
theorem dX4_clear_23 : decode cX4_clear 23 = .ok (.invokevirtual 47, 3) := by decide +kernel
theorem dX4_clear_26 : decode cX4_clear 26 = .ok (.aload_n 0, 1) := by decide +kernel
theorem dX4_clear_27 : decode cX4_clear 27 = .ok (.iconst 0, 1) := by decide +kernel
theorem dX4_clear_28 : decode cX4_clear 28 = .ok (.putfield 50, 3) := by decide +kernel
theorem dX4_clear_31 : decode cX4_clear 31 = .ok (.aload_n 0, 1) := by decide +kernel
theorem dX4_clear_32 : decode cX4_clear 32 = .ok (.iconst 0, 1) := by decide +kernel
theorem dX4_clear_33 : decode cX4_clear 33 = .ok (.putfield 53, 3) := by decide +kernel
theorem dX4_clear_36 : decode cX4_clear 36 = .ok (.return_, 1) := by decide +kernel
theorem dX4_copyFrom_0 : decode cX4_copyFrom 0 = .ok (.aload_n 0, 1) := by decide +kernel
theorem dX4_copyFrom_1 : decode cX4_copyFrom 1 = .ok (.aload_n 1, 1) := by decide +kernel
theorem dX4_copyFrom_2 : decode cX4_copyFrom 2 = .ok (.getfield 40, 3) := by decide +kernel
theorem dX4_copyFrom_5 : decode cX4_copyFrom 5 = .ok (.putfield 40, 3) := by decide +kernel
theorem dX4_copyFrom_8 : decode cX4_copyFrom 8 = .ok (.aload_n 0, 1) := by decide +kernel
theorem dX4_copyFrom_9 : decode cX4_copyFrom 9 = .ok (.aload_n 1, 1) := by decide +kernel
theorem dX4_copyFrom_10 : decode cX4_copyFrom 10 = .ok (.getfield 50, 3) := by decide +kernel
theorem dX4_copyFrom_13 : decode cX4_copyFrom 13 = .ok (.putfield 50, 3) := by decide +kernel
theorem dX4_copyFrom_16 : decode cX4_copyFrom 16 = .ok (.aload_n 0, 1) := by decide +kernel
theorem dX4_copyFrom_17 : decode cX4_copyFrom 17 = .ok (.aload_n 1, 1) := by decide +kernel
theorem dX4_copyFrom_18 : decode cX4_copyFrom 18 = .ok (.getfield 53, 3) := by decide +kernel
theorem dX4_copyFrom_21 : decode cX4_copyFrom 21 = .ok (.putfield 53, 3) := by decide +kernel
theorem dX4_copyFrom_24 : decode cX4_copyFrom 24 = .ok (.aload_n 0, 1) := by decide +kernel
theorem dX4_copyFrom_25 : decode cX4_copyFrom 25 = .ok (.getfield 22, 3) := by decide +kernel
theorem dX4_copyFrom_28 : decode cX4_copyFrom 28 = .ok (.aload_n 1, 1) := by decide +kernel
theorem dX4_copyFrom_29 : decode cX4_copyFrom 29 = .ok (.getfield 22, 3) := by decide +kernel
theorem dX4_copyFrom_32 : decode cX4_copyFrom 32 = .ok (.invokevirtual 56, 3) := by decide +kernel
theorem dX4_copyFrom_35 : decode cX4_copyFrom 35 = .ok (.aload_n 0, 1) := by decide +kernel
theorem dX4_copyFrom_36 : decode cX4_copyFrom 36 = .ok (.getfield 26, 3) := by decide +kernel
theorem dX4_copyFrom_39 : decode cX4_copyFrom 39 = .ok (.aload_n 1, 1) := by decide +kernel
theorem dX4_copyFrom_40 : decode cX4_copyFrom 40 = .ok (.getfield 26, 3) := by decide +kernel
theorem dX4_copyFrom_43 : decode cX4_copyFrom 43 = .ok (.invokevirtual 56, 3) := by decide +kernel
theorem dX4_copyFrom_46 : decode cX4_copyFrom 46 = .ok (.aload_n 0, 1) := by decide +kernel
theorem dX4_copyFrom_47 : decode cX4_copyFrom 47 = .ok (.getfield 29, 3) := by decide +kernel
theorem dX4_copyFrom_50 : decode cX4_copyFrom 50 = .ok (.aload_n 1, 1) := by decide +kernel
theorem dX4_copyFrom_51 : decode cX4_copyFrom 51 = .ok (.getfield 29, 3) := by decide +kernel
theorem dX4_copyFrom_54 : decode cX4_copyFrom 54 = .ok (.invokevirtual 56, 3) := by decide +kernel
theorem dX4_copyFrom_57 : decode cX4_copyFrom 57 = .ok (.aload_n 0, 1) := by decide +kernel
theorem dX4_copyFrom_58 : decode cX4_copyFrom 58 = .ok (.getfield 32, 3) := by decide +kernel
theorem dX4_copyFrom_61 : decode cX4_copyFrom 61 = .ok (.aload_n 1, 1) := by decide +kernel
theorem dX4_copyFrom_62 : decode cX4_copyFrom 62 = .ok (.getfield 32, 3) := by decide +kernel
theorem dX4_copyFrom_65 : decode cX4_copyFrom 65 = .ok (.invokevirtual 56, 3) := by decide +kernel
theorem dX4_copyFrom_68 : decode cX4_copyFrom 68 = .ok (.iconst 0, 1) := by decide +kernel
theorem dX4_copyFrom_69 : decode cX4_copyFrom 69 = .ok (.istore_n 2, 1) := by decide +kernel
theorem dX4_copyFrom_70 : decode cX4_copyFrom 70 = .ok (.iload_n 2, 1) := by decide +kernel
theorem dX4_copyFrom_71 : decode cX4_copyFrom 71 = .ok (.aload_n 0, 1) := by decide +kernel
theorem dX4_copyFrom_72 : decode cX4_copyFrom 72 = .ok (.getfield 11, 3) := by decide +kernel
theorem dX4_copyFrom_75 : decode cX4_copyFrom 75 = .ok (.arraylength, 1) := by decide +kernel
theorem dX4_copyFrom_76 : decode cX4_copyFrom 76 = .ok (.if_icmp .ge 38, 3) := by decide +kernel
theorem dX4_copyFrom_79 : decode cX4_copyFrom 79 = .ok (.aload_n 1, 1) := by decide +kernel
theorem dX4_copyFrom_80 : decode cX4_copyFrom 80 = .ok (.iload_n 2, 1) := by decide +kernel
theorem dX4_copyFrom_81 : decode cX4_copyFrom 81 = .ok (.invokevirtual 60, 3) := by decide +kernel
theorem dX4_copyFrom_84 : decode cX4_copyFrom 84 = .ok (.astore_n 3, 1) := by decide +kernel
theorem dX4_copyFrom_85 : decode cX4_copyFrom 85 = .ok (.aload_n 0, 1) := by decide +kernel
theorem dX4_copyFrom_86 : decode cX4_copyFrom 86 = .ok (.getfield 11, 3) := by decide +kernel
theorem dX4_copyFrom_89 : decode cX4_copyFrom 89 = .ok (.iload_n 2, 1) := by decide +kernel
theorem dX4_copyFrom_90 : decode cX4_copyFrom 90 = .ok (.aaload, 1) := by decide +kernel
theorem dX4_copyFrom_91 : decode cX4_copyFrom 91 = .ok (.astore 4, 2) := by decide +kernel
theorem dX4_copyFrom_93 : decode cX4_copyFrom 93 = .ok (.aload_n 3, 1) := by decide +kernel
theorem dX4_copyFrom_94 : decode cX4_copyFrom 94 = .ok (.ifnull 14, 3) := by decide +kernel
theorem dX4_copyFrom_97 : decode cX4_copyFrom 97 = .ok (.aload 4, 2) := by decide +kernel
theorem dX4_copyFrom_99 : decode cX4_copyFrom 99 = .ok (.ifnull 9, 3) := by decide +kernel
theorem dX4_copyFrom_102 : decode cX4_copyFrom 102 = .ok (.aload 4, 2) := by decide +kernel
theorem dX4_copyFrom_104 : decode cX4_copyFrom 104 = .ok (.aload_n 3, 1) := by decide +kernel
theorem dX4_copyFrom_105 : decode cX4_copyFrom 105 = .ok (.invokevirtual 64, 3) := by decide +kernel
theorem dX4_copyFrom_108 : decode cX4_copyFrom 108 = .ok (.iinc 2 1, 3) := by decide +kernel
theorem dX4_copyFrom_111 : decode cX4_copyFrom 111 = .ok (.goto (-41), 3) := by decide +kernel
theorem dX4_copyFrom_114 : decode cX4_copyFrom 114 = .ok (.return_, 1) := by decide +kernel
theorem dX4_workAt_0 : decode cX4_workAt 0 = .ok (.iload_n 1, 1) := by decide +kernel
theorem dX4_workAt_1 : decode cX4_workAt 1 = .ok (.ifCond .lt 29, 3) := by decide +kernel
theorem dX4_workAt_4 : decode cX4_workAt 4 = .ok (.iload_n 1, 1) := by decide +kernel
theorem dX4_workAt_5 : decode cX4_workAt 5 = .ok (.aload_n 0, 1) := by decide +kernel
theorem dX4_workAt_6 : decode cX4_workAt 6 = .ok (.getfield 40, 3) := by decide +kernel
theorem dX4_workAt_9 : decode cX4_workAt 9 = .ok (.if_icmp .ge 21, 3) := by decide +kernel
theorem dX4_workAt_12 : decode cX4_workAt 12 = .ok (.iload_n 1, 1) := by decide +kernel
theorem dX4_workAt_13 : decode cX4_workAt 13 = .ok (.aload_n 0, 1) := by decide +kernel
theorem dX4_workAt_14 : decode cX4_workAt 14 = .ok (.getfield 11, 3) := by decide +kernel
theorem dX4_workAt_17 : decode cX4_workAt 17 = .ok (.arraylength, 1) := by decide +kernel
theorem dX4_workAt_18 : decode cX4_workAt 18 = .ok (.if_icmp .ge 12, 3) := by decide +kernel
theorem dX4_workAt_21 : decode cX4_workAt 21 = .ok (.aload_n 0, 1) := by decide +kernel
theorem dX4_workAt_22 : decode cX4_workAt 22 = .ok (.getfield 11, 3) := by decide +kernel
theorem dX4_workAt_25 : decode cX4_workAt 25 = .ok (.iload_n 1, 1) := by decide +kernel
theorem dX4_workAt_26 : decode cX4_workAt 26 = .ok (.aaload, 1) := by decide +kernel
theorem dX4_workAt_27 : decode cX4_workAt 27 = .ok (.goto 4, 3) := by decide +kernel
theorem dX4_workAt_30 : decode cX4_workAt 30 = .ok (.aconst_null, 1) := by decide +kernel
theorem dX4_workAt_31 : decode cX4_workAt 31 = .ok (.areturn, 1) := by decide +kernel
theorem dX4_innermost_0 : decode cX4_innermost 0 = .ok (.aload_n 0, 1) := by decide +kernel
theorem dX4_innermost_1 : decode cX4_innermost 1 = .ok (.getfield 40, 3) := by decide +kernel
theorem dX4_innermost_4 : decode cX4_innermost 4 = .ok (.ifCond .le 29, 3) := by decide +kernel
theorem dX4_innermost_7 : decode cX4_innermost 7 = .ok (.aload_n 0, 1) := by decide +kernel
theorem dX4_innermost_8 : decode cX4_innermost 8 = .ok (.getfield 40, 3) := by decide +kernel
theorem dX4_innermost_11 : decode cX4_innermost 11 = .ok (.aload_n 0, 1) := by decide +kernel
theorem dX4_innermost_12 : decode cX4_innermost 12 = .ok (.getfield 11, 3) := by decide +kernel
theorem dX4_innermost_15 : decode cX4_innermost 15 = .ok (.arraylength, 1) := by decide +kernel
theorem dX4_innermost_16 : decode cX4_innermost 16 = .ok (.if_icmp .gt 17, 3) := by decide +kernel
theorem dX4_innermost_19 : decode cX4_innermost 19 = .ok (.aload_n 0, 1) := by decide +kernel
theorem dX4_innermost_20 : decode cX4_innermost 20 = .ok (.getfield 11, 3) := by decide +kernel
theorem dX4_innermost_23 : decode cX4_innermost 23 = .ok (.aload_n 0, 1) := by decide +kernel
theorem dX4_innermost_24 : decode cX4_innermost 24 = .ok (.getfield 40, 3) := by decide +kernel
theorem dX4_innermost_27 : decode cX4_innermost 27 = .ok (.iconst 1, 1) := by decide +kernel
theorem dX4_innermost_28 : decode cX4_innermost 28 = .ok (.isub, 1) := by decide +kernel
theorem dX4_innermost_29 : decode cX4_innermost 29 = .ok (.aaload, 1) := by decide +kernel
theorem dX4_innermost_30 : decode cX4_innermost 30 = .ok (.goto 4, 3) := by decide +kernel
theorem dX4_innermost_33 : decode cX4_innermost 33 = .ok (.aconst_null, 1) := by decide +kernel
theorem dX4_innermost_34 : decode cX4_innermost 34 = .ok (.areturn, 1) := by decide +kernel
theorem dX4_isSpoiled_0 : decode cX4_isSpoiled 0 = .ok (.aload_n 0, 1) := by decide +kernel
theorem dX4_isSpoiled_1 : decode cX4_isSpoiled 1 = .ok (.invokevirtual 67, 3) := by decide +kernel
theorem dX4_isSpoiled_4 : decode cX4_isSpoiled 4 = .ok (.astore_n 1, 1) := by decide +kernel
theorem dX4_isSpoiled_5 : decode cX4_isSpoiled 5 = .ok (.aload_n 1, 1) := by decide +kernel
theorem dX4_isSpoiled_6 : decode cX4_isSpoiled 6 = .ok (.ifnull 14, 3) := by decide +kernel
theorem dX4_isSpoiled_9 : decode cX4_isSpoiled 9 = .ok (.aload_n 1, 1) := by decide +kernel
theorem dX4_isSpoiled_10 : decode cX4_isSpoiled 10 = .ok (.getfield 71, 3) := by decide +kernel
theorem dX4_isSpoiled_13 : decode cX4_isSpoiled 13 = .ok (.ifCond .eq 7, 3) := by decide +kernel
theorem dX4_isSpoiled_16 : decode cX4_isSpoiled 16 = .ok (.iconst 1, 1) := by decide +kernel
theorem dX4_isSpoiled_17 : decode cX4_isSpoiled 17 = .ok (.goto 4, 3) := by decide +kernel
theorem dX4_isSpoiled_20 : decode cX4_isSpoiled 20 = .ok (.iconst 0, 1) := by decide +kernel
theorem dX4_isSpoiled_21 : decode cX4_isSpoiled 21 = .ok (.ireturn, 1) := by decide +kernel
theorem dX4_isReady_0 : decode cX4_isReady 0 = .ok (.aload_n 0, 1) := by decide +kernel
theorem dX4_isReady_1 : decode cX4_isReady 1 = .ok (.getfield 40, 3) := by decide +kernel
theorem dX4_isReady_4 : decode cX4_isReady 4 = .ok (.ifCond .le 14, 3) := by decide +kernel
theorem dX4_isReady_7 : decode cX4_isReady 7 = .ok (.aload_n 0, 1) := by decide +kernel
theorem dX4_isReady_8 : decode cX4_isReady 8 = .ok (.invokevirtual 75, 3) := by decide +kernel
theorem dX4_isReady_11 : decode cX4_isReady 11 = .ok (.ifCond .ne 7, 3) := by decide +kernel
theorem dX4_isReady_14 : decode cX4_isReady 14 = .ok (.iconst 1, 1) := by decide +kernel
theorem dX4_isReady_15 : decode cX4_isReady 15 = .ok (.goto 4, 3) := by decide +kernel
theorem dX4_isReady_18 : decode cX4_isReady 18 = .ok (.iconst 0, 1) := by decide +kernel
theorem dX4_isReady_19 : decode cX4_isReady 19 = .ok (.ireturn, 1) := by decide +kernel
theorem dX4_countPoints_0 : decode cX4_countPoints 0 = .ok (.aload_n 0, 1) := by decide +kernel
theorem dX4_countPoints_1 : decode cX4_countPoints 1 = .ok (.iload_n 1, 1) := by decide +kernel
theorem dX4_countPoints_2 : decode cX4_countPoints 2 = .ok (.invokevirtual 60, 3) := by decide +kernel
theorem dX4_countPoints_5 : decode cX4_countPoints 5 = .ok (.astore_n 2, 1) := by decide +kernel
theorem dX4_countPoints_6 : decode cX4_countPoints 6 = .ok (.aload_n 0, 1) := by decide +kernel
theorem dX4_countPoints_7 : decode cX4_countPoints 7 = .ok (.iload_n 1, 1) := by decide +kernel
theorem dX4_countPoints_8 : decode cX4_countPoints 8 = .ok (.iconst 1, 1) := by decide +kernel
theorem dX4_countPoints_9 : decode cX4_countPoints 9 = .ok (.iadd, 1) := by decide +kernel
theorem dX4_countPoints_10 : decode cX4_countPoints 10 = .ok (.invokevirtual 60, 3) := by decide +kernel
theorem dX4_countPoints_13 : decode cX4_countPoints 13 = .ok (.astore_n 3, 1) := by decide +kernel
theorem dX4_countPoints_14 : decode cX4_countPoints 14 = .ok (.aload_n 3, 1) := by decide +kernel
theorem dX4_countPoints_15 : decode cX4_countPoints 15 = .ok (.ifnonnull 13, 3) := by decide +kernel
theorem dX4_countPoints_18 : decode cX4_countPoints 18 = .ok (.aload_n 0, 1) := by decide +kernel
theorem dX4_countPoints_19 : decode cX4_countPoints 19 = .ok (.getfield 29, 3) := by decide +kernel
theorem dX4_countPoints_22 : decode cX4_countPoints 22 = .ok (.getfield 79, 3) := by decide +kernel
theorem dX4_countPoints_25 : decode cX4_countPoints 25 = .ok (.goto 7, 3) := by decide +kernel
theorem dX4_countPoints_28 : decode cX4_countPoints 28 = .ok (.aload_n 3, 1) := by decide +kernel
theorem dX4_countPoints_29 : decode cX4_countPoints 29 = .ok (.getfield 82, 3) := by decide +kernel
theorem dX4_countPoints_32 : decode cX4_countPoints 32 = .ok (.istore 4, 2) := by decide +kernel
theorem dX4_countPoints_34 : decode cX4_countPoints 34 = .ok (.aload_n 2, 1) := by decide +kernel
theorem dX4_countPoints_35 : decode cX4_countPoints 35 = .ok (.ifnonnull 7, 3) := by decide +kernel
theorem dX4_countPoints_38 : decode cX4_countPoints 38 = .ok (.iconst 0, 1) := by decide +kernel
theorem dX4_countPoints_39 : decode cX4_countPoints 39 = .ok (.goto 10, 3) := by decide +kernel
theorem dX4_countPoints_42 : decode cX4_countPoints 42 = .ok (.iload 4, 2) := by decide +kernel
theorem dX4_countPoints_44 : decode cX4_countPoints 44 = .ok (.aload_n 2, 1) := by decide +kernel
theorem dX4_countPoints_45 : decode cX4_countPoints 45 = .ok (.getfield 82, 3) := by decide +kernel
theorem dX4_countPoints_48 : decode cX4_countPoints 48 = .ok (.isub, 1) := by decide +kernel
theorem dX4_countPoints_49 : decode cX4_countPoints 49 = .ok (.ireturn, 1) := by decide +kernel
theorem dX4_countRegrets_0 : decode cX4_countRegrets 0 = .ok (.aload_n 0, 1) := by decide +kernel
theorem dX4_countRegrets_1 : decode cX4_countRegrets 1 = .ok (.iload_n 1, 1) := by decide +kernel
theorem dX4_countRegrets_2 : decode cX4_countRegrets 2 = .ok (.invokevirtual 60, 3) := by decide +kernel
theorem dX4_countRegrets_5 : decode cX4_countRegrets 5 = .ok (.astore_n 2, 1) := by decide +kernel
theorem dX4_countRegrets_6 : decode cX4_countRegrets 6 = .ok (.aload_n 0, 1) := by decide +kernel
theorem dX4_countRegrets_7 : decode cX4_countRegrets 7 = .ok (.iload_n 1, 1) := by decide +kernel
theorem dX4_countRegrets_8 : decode cX4_countRegrets 8 = .ok (.iconst 1, 1) := by decide +kernel
theorem dX4_countRegrets_9 : decode cX4_countRegrets 9 = .ok (.iadd, 1) := by decide +kernel
theorem dX4_countRegrets_10 : decode cX4_countRegrets 10 = .ok (.invokevirtual 60, 3) := by decide +kernel
theorem dX4_countRegrets_13 : decode cX4_countRegrets 13 = .ok (.astore_n 3, 1) := by decide +kernel
theorem dX4_countRegrets_14 : decode cX4_countRegrets 14 = .ok (.aload_n 3, 1) := by decide +kernel
theorem dX4_countRegrets_15 : decode cX4_countRegrets 15 = .ok (.ifnonnull 13, 3) := by decide +kernel
theorem dX4_countRegrets_18 : decode cX4_countRegrets 18 = .ok (.aload_n 0, 1) := by decide +kernel
theorem dX4_countRegrets_19 : decode cX4_countRegrets 19 = .ok (.getfield 26, 3) := by decide +kernel
theorem dX4_countRegrets_22 : decode cX4_countRegrets 22 = .ok (.getfield 79, 3) := by decide +kernel
theorem dX4_countRegrets_25 : decode cX4_countRegrets 25 = .ok (.goto 7, 3) := by decide +kernel
theorem dX4_countRegrets_28 : decode cX4_countRegrets 28 = .ok (.aload_n 3, 1) := by decide +kernel
theorem dX4_countRegrets_29 : decode cX4_countRegrets 29 = .ok (.getfield 85, 3) := by decide +kernel
theorem dX4_countRegrets_32 : decode cX4_countRegrets 32 = .ok (.istore 4, 2) := by decide +kernel
theorem dX4_countRegrets_34 : decode cX4_countRegrets 34 = .ok (.aload_n 2, 1) := by decide +kernel
theorem dX4_countRegrets_35 : decode cX4_countRegrets 35 = .ok (.ifnonnull 7, 3) := by decide +kernel
theorem dX4_countRegrets_38 : decode cX4_countRegrets 38 = .ok (.iconst 0, 1) := by decide +kernel
theorem dX4_countRegrets_39 : decode cX4_countRegrets 39 = .ok (.goto 10, 3) := by decide +kernel
theorem dX4_countRegrets_42 : decode cX4_countRegrets 42 = .ok (.iload 4, 2) := by decide +kernel
theorem dX4_countRegrets_44 : decode cX4_countRegrets 44 = .ok (.aload_n 2, 1) := by decide +kernel
theorem dX4_countRegrets_45 : decode cX4_countRegrets 45 = .ok (.getfield 85, 3) := by decide +kernel
theorem dX4_countRegrets_48 : decode cX4_countRegrets 48 = .ok (.isub, 1) := by decide +kernel
theorem dX4_countRegrets_49 : decode cX4_countRegrets 49 = .ok (.ireturn, 1) := by decide +kernel
theorem dX4_hasPoint_0 : decode cX4_hasPoint 0 = .ok (.iload_n 1, 1) := by decide +kernel
theorem dX4_hasPoint_1 : decode cX4_hasPoint 1 = .ok (.ifCond .lt 21, 3) := by decide +kernel
theorem dX4_hasPoint_4 : decode cX4_hasPoint 4 = .ok (.iload_n 1, 1) := by decide +kernel
theorem dX4_hasPoint_5 : decode cX4_hasPoint 5 = .ok (.aload_n 0, 1) := by decide +kernel
theorem dX4_hasPoint_6 : decode cX4_hasPoint 6 = .ok (.aload_n 0, 1) := by decide +kernel
theorem dX4_hasPoint_7 : decode cX4_hasPoint 7 = .ok (.getfield 40, 3) := by decide +kernel
theorem dX4_hasPoint_10 : decode cX4_hasPoint 10 = .ok (.iconst 1, 1) := by decide +kernel
theorem dX4_hasPoint_11 : decode cX4_hasPoint 11 = .ok (.isub, 1) := by decide +kernel
theorem dX4_hasPoint_12 : decode cX4_hasPoint 12 = .ok (.invokevirtual 88, 3) := by decide +kernel
theorem dX4_hasPoint_15 : decode cX4_hasPoint 15 = .ok (.if_icmp .ge 7, 3) := by decide +kernel
theorem dX4_hasPoint_18 : decode cX4_hasPoint 18 = .ok (.iconst 1, 1) := by decide +kernel
theorem dX4_hasPoint_19 : decode cX4_hasPoint 19 = .ok (.goto 4, 3) := by decide +kernel
theorem dX4_hasPoint_22 : decode cX4_hasPoint 22 = .ok (.iconst 0, 1) := by decide +kernel
theorem dX4_hasPoint_23 : decode cX4_hasPoint 23 = .ok (.ireturn, 1) := by decide +kernel
theorem dX4_cutPoints_0 : decode cX4_cutPoints 0 = .ok (.aload_n 0, 1) := by decide +kernel
theorem dX4_cutPoints_1 : decode cX4_cutPoints 1 = .ok (.getfield 29, 3) := by decide +kernel
theorem dX4_cutPoints_4 : decode cX4_cutPoints 4 = .ok (.iload_n 1, 1) := by decide +kernel
theorem dX4_cutPoints_5 : decode cX4_cutPoints 5 = .ok (.invokevirtual 43, 3) := by decide +kernel
theorem dX4_cutPoints_8 : decode cX4_cutPoints 8 = .ok (.aload_n 0, 1) := by decide +kernel
theorem dX4_cutPoints_9 : decode cX4_cutPoints 9 = .ok (.getfield 32, 3) := by decide +kernel
theorem dX4_cutPoints_12 : decode cX4_cutPoints 12 = .ok (.iload_n 1, 1) := by decide +kernel
theorem dX4_cutPoints_13 : decode cX4_cutPoints 13 = .ok (.invokevirtual 43, 3) := by decide +kernel
theorem dX4_cutPoints_16 : decode cX4_cutPoints 16 = .ok (.return_, 1) := by decide +kernel
theorem dX4_startWork_0 : decode cX4_startWork 0 = .ok (.aload_n 0, 1) := by decide +kernel
theorem dX4_startWork_1 : decode cX4_startWork 1 = .ok (.getfield 40, 3) := by decide +kernel
theorem dX4_startWork_4 : decode cX4_startWork 4 = .ok (.ifCond .lt 82, 3) := by decide +kernel
theorem dX4_startWork_7 : decode cX4_startWork 7 = .ok (.aload_n 0, 1) := by decide +kernel
theorem dX4_startWork_8 : decode cX4_startWork 8 = .ok (.getfield 40, 3) := by decide +kernel
theorem dX4_startWork_11 : decode cX4_startWork 11 = .ok (.aload_n 0, 1) := by decide +kernel
theorem dX4_startWork_12 : decode cX4_startWork 12 = .ok (.getfield 11, 3) := by decide +kernel
theorem dX4_startWork_15 : decode cX4_startWork 15 = .ok (.arraylength, 1) := by decide +kernel
theorem dX4_startWork_16 : decode cX4_startWork 16 = .ok (.if_icmp .ge 70, 3) := by decide +kernel
theorem dX4_startWork_19 : decode cX4_startWork 19 = .ok (.aload_n 0, 1) := by decide +kernel
theorem dX4_startWork_20 : decode cX4_startWork 20 = .ok (.getfield 11, 3) := by decide +kernel
theorem dX4_startWork_23 : decode cX4_startWork 23 = .ok (.aload_n 0, 1) := by decide +kernel
theorem dX4_startWork_24 : decode cX4_startWork 24 = .ok (.getfield 40, 3) := by decide +kernel
theorem dX4_startWork_27 : decode cX4_startWork 27 = .ok (.aaload, 1) := by decide +kernel
theorem dX4_startWork_28 : decode cX4_startWork 28 = .ok (.astore_n 1, 1) := by decide +kernel
theorem dX4_startWork_29 : decode cX4_startWork 29 = .ok (.aload_n 1, 1) := by decide +kernel
theorem dX4_startWork_30 : decode cX4_startWork 30 = .ok (.ifnull 56, 3) := by decide +kernel
theorem dX4_startWork_33 : decode cX4_startWork 33 = .ok (.aload_n 1, 1) := by decide +kernel
theorem dX4_startWork_34 : decode cX4_startWork 34 = .ok (.aload_n 0, 1) := by decide +kernel
theorem dX4_startWork_35 : decode cX4_startWork 35 = .ok (.getfield 22, 3) := by decide +kernel
theorem dX4_startWork_38 : decode cX4_startWork 38 = .ok (.getfield 79, 3) := by decide +kernel
theorem dX4_startWork_41 : decode cX4_startWork 41 = .ok (.putfield 92, 3) := by decide +kernel
theorem dX4_startWork_44 : decode cX4_startWork 44 = .ok (.aload_n 1, 1) := by decide +kernel
theorem dX4_startWork_45 : decode cX4_startWork 45 = .ok (.aload_n 0, 1) := by decide +kernel
theorem dX4_startWork_46 : decode cX4_startWork 46 = .ok (.getfield 26, 3) := by decide +kernel
theorem dX4_startWork_49 : decode cX4_startWork 49 = .ok (.getfield 79, 3) := by decide +kernel
theorem dX4_startWork_52 : decode cX4_startWork 52 = .ok (.putfield 85, 3) := by decide +kernel
theorem dX4_startWork_55 : decode cX4_startWork 55 = .ok (.aload_n 1, 1) := by decide +kernel
theorem dX4_startWork_56 : decode cX4_startWork 56 = .ok (.aload_n 0, 1) := by decide +kernel
theorem dX4_startWork_57 : decode cX4_startWork 57 = .ok (.getfield 29, 3) := by decide +kernel
theorem dX4_startWork_60 : decode cX4_startWork 60 = .ok (.getfield 79, 3) := by decide +kernel
theorem dX4_startWork_63 : decode cX4_startWork 63 = .ok (.putfield 82, 3) := by decide +kernel
theorem dX4_startWork_66 : decode cX4_startWork 66 = .ok (.aload_n 1, 1) := by decide +kernel
theorem dX4_startWork_67 : decode cX4_startWork 67 = .ok (.iconst 0, 1) := by decide +kernel
theorem dX4_startWork_68 : decode cX4_startWork 68 = .ok (.putfield 95, 3) := by decide +kernel
theorem dX4_startWork_71 : decode cX4_startWork 71 = .ok (.aload_n 1, 1) := by decide +kernel
theorem dX4_startWork_72 : decode cX4_startWork 72 = .ok (.iconst 0, 1) := by decide +kernel
theorem dX4_startWork_73 : decode cX4_startWork 73 = .ok (.putfield 71, 3) := by decide +kernel
theorem dX4_startWork_76 : decode cX4_startWork 76 = .ok (.aload_n 0, 1) := by decide +kernel
theorem dX4_startWork_77 : decode cX4_startWork 77 = .ok (.dup, 1) := by decide +kernel
theorem dX4_startWork_78 : decode cX4_startWork 78 = .ok (.getfield 40, 3) := by decide +kernel
theorem dX4_startWork_81 : decode cX4_startWork 81 = .ok (.iconst 1, 1) := by decide +kernel
theorem dX4_startWork_82 : decode cX4_startWork 82 = .ok (.iadd, 1) := by decide +kernel
theorem dX4_startWork_83 : decode cX4_startWork 83 = .ok (.putfield 40, 3) := by decide +kernel
theorem dX4_startWork_86 : decode cX4_startWork 86 = .ok (.aload_n 0, 1) := by decide +kernel
theorem dX4_startWork_87 : decode cX4_startWork 87 = .ok (.getfield 40, 3) := by decide +kernel
theorem dX4_startWork_90 : decode cX4_startWork 90 = .ok (.ireturn, 1) := by decide +kernel
theorem dX4_setPoint_0 : decode cX4_setPoint 0 = .ok (.aload_n 0, 1) := by decide +kernel
theorem dX4_setPoint_1 : decode cX4_setPoint 1 = .ok (.getfield 29, 3) := by decide +kernel
theorem dX4_setPoint_4 : decode cX4_setPoint 4 = .ok (.aload_n 0, 1) := by decide +kernel
theorem dX4_setPoint_5 : decode cX4_setPoint 5 = .ok (.getfield 22, 3) := by decide +kernel
theorem dX4_setPoint_8 : decode cX4_setPoint 8 = .ok (.getfield 79, 3) := by decide +kernel
theorem dX4_setPoint_11 : decode cX4_setPoint 11 = .ok (.invokevirtual 98, 3) := by decide +kernel
theorem dX4_setPoint_14 : decode cX4_setPoint 14 = .ok (.aload_n 0, 1) := by decide +kernel
theorem dX4_setPoint_15 : decode cX4_setPoint 15 = .ok (.getfield 32, 3) := by decide +kernel
theorem dX4_setPoint_18 : decode cX4_setPoint 18 = .ok (.aload_n 0, 1) := by decide +kernel
theorem dX4_setPoint_19 : decode cX4_setPoint 19 = .ok (.getfield 26, 3) := by decide +kernel
theorem dX4_setPoint_22 : decode cX4_setPoint 22 = .ok (.getfield 79, 3) := by decide +kernel
theorem dX4_setPoint_25 : decode cX4_setPoint 25 = .ok (.invokevirtual 98, 3) := by decide +kernel
theorem dX4_setPoint_28 : decode cX4_setPoint 28 = .ok (.aload_n 0, 1) := by decide +kernel
theorem dX4_setPoint_29 : decode cX4_setPoint 29 = .ok (.aload_n 0, 1) := by decide +kernel
theorem dX4_setPoint_30 : decode cX4_setPoint 30 = .ok (.getfield 40, 3) := by decide +kernel
theorem dX4_setPoint_33 : decode cX4_setPoint 33 = .ok (.iconst 1, 1) := by decide +kernel
theorem dX4_setPoint_34 : decode cX4_setPoint 34 = .ok (.isub, 1) := by decide +kernel
theorem dX4_setPoint_35 : decode cX4_setPoint 35 = .ok (.invokevirtual 88, 3) := by decide +kernel
theorem dX4_setPoint_38 : decode cX4_setPoint 38 = .ok (.iconst 1, 1) := by decide +kernel
theorem dX4_setPoint_39 : decode cX4_setPoint 39 = .ok (.isub, 1) := by decide +kernel
theorem dX4_setPoint_40 : decode cX4_setPoint 40 = .ok (.ireturn, 1) := by decide +kernel
theorem dX4_leaveWork_0 : decode cX4_leaveWork 0 = .ok (.aload_n 0, 1) := by decide +kernel
theorem dX4_leaveWork_1 : decode cX4_leaveWork 1 = .ok (.invokevirtual 67, 3) := by decide +kernel
theorem dX4_leaveWork_4 : decode cX4_leaveWork 4 = .ok (.astore_n 1, 1) := by decide +kernel
theorem dX4_leaveWork_5 : decode cX4_leaveWork 5 = .ok (.aload_n 1, 1) := by decide +kernel
theorem dX4_leaveWork_6 : decode cX4_leaveWork 6 = .ok (.ifnull 21, 3) := by decide +kernel
theorem dX4_leaveWork_9 : decode cX4_leaveWork 9 = .ok (.aload_n 0, 1) := by decide +kernel
theorem dX4_leaveWork_10 : decode cX4_leaveWork 10 = .ok (.aload_n 1, 1) := by decide +kernel
theorem dX4_leaveWork_11 : decode cX4_leaveWork 11 = .ok (.getfield 82, 3) := by decide +kernel
theorem dX4_leaveWork_14 : decode cX4_leaveWork 14 = .ok (.invokevirtual 47, 3) := by decide +kernel
theorem dX4_leaveWork_17 : decode cX4_leaveWork 17 = .ok (.aload_n 0, 1) := by decide +kernel
theorem dX4_leaveWork_18 : decode cX4_leaveWork 18 = .ok (.dup, 1) := by decide +kernel
theorem dX4_leaveWork_19 : decode cX4_leaveWork 19 = .ok (.getfield 40, 3) := by decide +kernel
theorem dX4_leaveWork_22 : decode cX4_leaveWork 22 = .ok (.iconst 1, 1) := by decide +kernel
theorem dX4_leaveWork_23 : decode cX4_leaveWork 23 = .ok (.isub, 1) := by decide +kernel
theorem dX4_leaveWork_24 : decode cX4_leaveWork 24 = .ok (.putfield 40, 3) := by decide +kernel
theorem dX4_leaveWork_27 : decode cX4_leaveWork 27 = .ok (.return_, 1) := by decide +kernel
theorem dX2_init_0 : decode cX2_init 0 = .ok (.aload_n 0, 1) := by decide +kernel
theorem dX2_init_1 : decode cX2_init 1 = .ok (.invokespecial 3, 3) := by decide +kernel
theorem dX2_init_4 : decode cX2_init 4 = .ok (.aload_n 0, 1) := by decide +kernel
theorem dX2_init_5 : decode cX2_init 5 = .ok (.new 9, 3) := by decide +kernel
theorem dX2_init_8 : decode cX2_init 8 = .ok (.dup, 1) := by decide +kernel
theorem dX2_init_9 : decode cX2_init 9 = .ok (.bipush 16, 2) := by decide +kernel
theorem dX2_init_11 : decode cX2_init 11 = .ok (.bipush 16, 2) := by decide +kernel
theorem dX2_init_13 : decode cX2_init 13 = .ok (.invokespecial 11, 3) := by decide +kernel
theorem dX2_init_16 : decode cX2_init 16 = .ok (.putfield 14, 3) := by decide +kernel
theorem dX2_init_19 : decode cX2_init 19 = .ok (.aload_n 0, 1) := by decide +kernel
theorem dX2_init_20 : decode cX2_init 20 = .ok (.new 9, 3) := by decide +kernel
theorem dX2_init_23 : decode cX2_init 23 = .ok (.dup, 1) := by decide +kernel
theorem dX2_init_24 : decode cX2_init 24 = .ok (.bipush 16, 2) := by decide +kernel
theorem dX2_init_26 : decode cX2_init 26 = .ok (.bipush 16, 2) := by decide +kernel
theorem dX2_init_28 : decode cX2_init 28 = .ok (.invokespecial 11, 3) := by decide +kernel
theorem dX2_init_31 : decode cX2_init 31 = .ok (.putfield 20, 3) := by decide +kernel
theorem dX2_init_34 : decode cX2_init 34 = .ok (.aload_n 0, 1) := by decide +kernel
theorem dX2_init_35 : decode cX2_init 35 = .ok (.iconst 3, 1) := by decide +kernel
theorem dX2_init_36 : decode cX2_init 36 = .ok (.anewarray 23, 3) := by decide +kernel
theorem dX2_init_39 : decode cX2_init 39 = .ok (.putfield 25, 3) := by decide +kernel
theorem dX2_init_42 : decode cX2_init 42 = .ok (.aload_n 0, 1) := by decide +kernel
theorem dX2_init_43 : decode cX2_init 43 = .ok (.iconst 1, 1) := by decide +kernel
theorem dX2_init_44 : decode cX2_init 44 = .ok (.putfield 29, 3) := by decide +kernel
theorem dX2_init_47 : decode cX2_init 47 = .ok (.iconst 0, 1) := by decide +kernel
theorem dX2_init_48 : decode cX2_init 48 = .ok (.istore_n 1, 1) := by decide +kernel
theorem dX2_init_49 : decode cX2_init 49 = .ok (.iload_n 1, 1) := by decide +kernel
theorem dX2_init_50 : decode cX2_init 50 = .ok (.bipush 16, 2) := by decide +kernel
theorem dX2_init_52 : decode cX2_init 52 = .ok (.if_icmp .ge 25, 3) := by decide +kernel
theorem dX2_init_55 : decode cX2_init 55 = .ok (.aload_n 0, 1) := by decide +kernel
theorem dX2_init_56 : decode cX2_init 56 = .ok (.getfield 14, 3) := by decide +kernel
theorem dX2_init_59 : decode cX2_init 59 = .ok (.iconst 0, 1) := by decide +kernel
theorem dX2_init_60 : decode cX2_init 60 = .ok (.invokevirtual 33, 3) := by decide +kernel
theorem dX2_init_63 : decode cX2_init 63 = .ok (.aload_n 0, 1) := by decide +kernel
theorem dX2_init_64 : decode cX2_init 64 = .ok (.getfield 20, 3) := by decide +kernel
theorem dX2_init_67 : decode cX2_init 67 = .ok (.iconst (-1), 1) := by decide +kernel
theorem dX2_init_68 : decode cX2_init 68 = .ok (.invokevirtual 33, 3) := by decide +kernel
theorem dX2_init_71 : decode cX2_init 71 = .ok (.iinc 1 1, 3) := by decide +kernel
theorem dX2_init_74 : decode cX2_init 74 = .ok (.goto (-25), 3) := by decide +kernel
theorem dX2_init_77 : decode cX2_init 77 = .ok (.iconst 0, 1) := by decide +kernel
theorem dX2_init_78 : decode cX2_init 78 = .ok (.istore_n 1, 1) := by decide +kernel
theorem dX2_init_79 : decode cX2_init 79 = .ok (.iload_n 1, 1) := by decide +kernel
theorem dX2_init_80 : decode cX2_init 80 = .ok (.aload_n 0, 1) := by decide +kernel
theorem dX2_init_81 : decode cX2_init 81 = .ok (.getfield 25, 3) := by decide +kernel
theorem dX2_init_84 : decode cX2_init 84 = .ok (.arraylength, 1) := by decide +kernel
theorem dX2_init_85 : decode cX2_init 85 = .ok (.if_icmp .ge 23, 3) := by decide +kernel
theorem dX2_init_88 : decode cX2_init 88 = .ok (.aload_n 0, 1) := by decide +kernel
theorem dX2_init_89 : decode cX2_init 89 = .ok (.getfield 25, 3) := by decide +kernel
theorem dX2_init_92 : decode cX2_init 92 = .ok (.iload_n 1, 1) := by decide +kernel
theorem dX2_init_93 : decode cX2_init 93 = .ok (.new 23, 3) := by decide +kernel
theorem dX2_init_96 : decode cX2_init 96 = .ok (.dup, 1) := by decide +kernel
theorem dX2_init_97 : decode cX2_init 97 = .ok (.iload_n 1, 1) := by decide +kernel
theorem dX2_init_98 : decode cX2_init 98 = .ok (.invokespecial 37, 3) := by decide +kernel
theorem dX2_init_101 : decode cX2_init 101 = .ok (.aastore, 1) := by decide +kernel
theorem dX2_init_102 : decode cX2_init 102 = .ok (.iinc 1 1, 3) := by decide +kernel
theorem dX2_init_105 : decode cX2_init 105 = .ok (.goto (-26), 3) := by decide +kernel
theorem dX2_init_108 : decode cX2_init 108 = .ok (.return_, 1) := by decide +kernel
theorem dX2_clear_0 : decode cX2_clear 0 = .ok (.iconst 0, 1) := by decide +kernel
theorem dX2_clear_1 : decode cX2_clear 1 = .ok (.istore_n 1, 1) := by decide +kernel
theorem dX2_clear_2 : decode cX2_clear 2 = .ok (.iload_n 1, 1) := by decide +kernel
theorem dX2_clear_3 : decode cX2_clear 3 = .ok (.bipush 16, 2) := by decide +kernel
theorem dX2_clear_5 : decode cX2_clear 5 = .ok (.if_icmp .ge 27, 3) := by decide +kernel
theorem dX2_clear_8 : decode cX2_clear 8 = .ok (.aload_n 0, 1) := by decide +kernel
theorem dX2_clear_9 : decode cX2_clear 9 = .ok (.getfield 14, 3) := by decide +kernel
theorem dX2_clear_12 : decode cX2_clear 12 = .ok (.iload_n 1, 1) := by decide +kernel
theorem dX2_clear_13 : decode cX2_clear 13 = .ok (.iconst 0, 1) := by decide +kernel
theorem dX2_clear_14 : decode cX2_clear 14 = .ok (.invokevirtual 39, 3) := by decide +kernel
theorem dX2_clear_17 : decode cX2_clear 17 = .ok (.aload_n 0, 1) := by decide +kernel
theorem dX2_clear_18 : decode cX2_clear 18 = .ok (.getfield 20, 3) := by decide +kernel
theorem dX2_clear_21 : decode cX2_clear 21 = .ok (.iload_n 1, 1) := by decide +kernel
theorem dX2_clear_22 : decode cX2_clear 22 = .ok (.iconst (-1), 1) := by decide +kernel
theorem dX2_clear_23 : decode cX2_clear 23 = .ok (.invokevirtual 39, 3) := by decide +kernel
theorem dX2_clear_26 : decode cX2_clear 26 = .ok (.iinc 1 1, 3) := by decide +kernel
theorem dX2_clear_29 : decode cX2_clear 29 = .ok (.goto (-27), 3) := by decide +kernel
theorem dX2_clear_32 : decode cX2_clear 32 = .ok (.iconst 0, 1) := by decide +kernel
theorem dX2_clear_33 : decode cX2_clear 33 = .ok (.istore_n 1, 1) := by decide +kernel
theorem dX2_clear_34 : decode cX2_clear 34 = .ok (.iload_n 1, 1) := by decide +kernel
theorem dX2_clear_35 : decode cX2_clear 35 = .ok (.iconst 3, 1) := by decide +kernel
theorem dX2_clear_36 : decode cX2_clear 36 = .ok (.if_icmp .ge 23, 3) := by decide +kernel
theorem dX2_clear_39 : decode cX2_clear 39 = .ok (.aload_n 0, 1) := by decide +kernel
theorem dX2_clear_40 : decode cX2_clear 40 = .ok (.iload_n 1, 1) := by decide +kernel
theorem dX2_clear_41 : decode cX2_clear 41 = .ok (.invokevirtual 42, 3) := by decide +kernel
theorem dX2_clear_44 : decode cX2_clear 44 = .ok (.astore_n 2, 1) := by decide +kernel
theorem dX2_clear_45 : decode cX2_clear 45 = .ok (.aload_n 2, 1) := by decide +kernel
theorem dX2_clear_46 : decode cX2_clear 46 = .ok (.ifnull 7, 3) := by decide +kernel
theorem dX2_clear_49 : decode cX2_clear 49 = .ok (.aload_n 2, 1) := by decide +kernel
theorem dX2_clear_50 : decode cX2_clear 50 = .ok (.invokevirtual 46, 3) := by decide +kernel
theorem dX2_clear_53 : decode cX2_clear 53 = .ok (.iinc 1 1, 3) := by decide +kernel
theorem dX2_clear_56 : decode cX2_clear 56 = .ok (.goto (-22), 3) := by decide +kernel
theorem dX2_clear_59 : decode cX2_clear 59 = .ok (.aload_n 0, 1) := by decide +kernel
theorem dX2_clear_60 : decode cX2_clear 60 = .ok (.iconst 1, 1) := by decide +kernel
theorem dX2_clear_61 : decode cX2_clear 61 = .ok (.putfield 29, 3) := by decide +kernel
theorem dX2_clear_64 : decode cX2_clear 64 = .ok (.aload_n 0, 1) := by decide +kernel
theorem dX2_clear_65 : decode cX2_clear 65 = .ok (.iconst 0, 1) := by decide +kernel
theorem dX2_clear_66 : decode cX2_clear 66 = .ok (.putfield 49, 3) := by decide +kernel
theorem dX2_clear_69 : decode cX2_clear 69 = .ok (.aload_n 0, 1) := by decide +kernel
theorem dX2_clear_70 : decode cX2_clear 70 = .ok (.iconst 0, 1) := by decide +kernel
theorem dX2_clear_71 : decode cX2_clear 71 = .ok (.putfield 52, 3) := by decide +kernel
theorem dX2_clear_74 : decode cX2_clear 74 = .ok (.aload_n 0, 1) := by decide +kernel
theorem dX2_clear_75 : decode cX2_clear 75 = .ok (.iconst 0, 1) := by decide +kernel
theorem dX2_clear_76 : decode cX2_clear 76 = .ok (.putfield 55, 3) := by decide +kernel
theorem dX2_clear_79 : decode cX2_clear 79 = .ok (.return_, 1) := by decide +kernel
theorem dX2_copyFrom_0 : decode cX2_copyFrom 0 = .ok (.aload_n 0, 1) := by decide +kernel
theorem dX2_copyFrom_1 : decode cX2_copyFrom 1 = .ok (.getfield 14, 3) := by decide +kernel
theorem dX2_copyFrom_4 : decode cX2_copyFrom 4 = .ok (.aload_n 1, 1) := by decide +kernel
theorem dX2_copyFrom_5 : decode cX2_copyFrom 5 = .ok (.getfield 14, 3) := by decide +kernel
theorem dX2_copyFrom_8 : decode cX2_copyFrom 8 = .ok (.invokevirtual 58, 3) := by decide +kernel
theorem dX2_copyFrom_11 : decode cX2_copyFrom 11 = .ok (.aload_n 0, 1) := by decide +kernel
theorem dX2_copyFrom_12 : decode cX2_copyFrom 12 = .ok (.getfield 20, 3) := by decide +kernel
theorem dX2_copyFrom_15 : decode cX2_copyFrom 15 = .ok (.aload_n 1, 1) := by decide +kernel
theorem dX2_copyFrom_16 : decode cX2_copyFrom 16 = .ok (.getfield 20, 3) := by decide +kernel
theorem dX2_copyFrom_19 : decode cX2_copyFrom 19 = .ok (.invokevirtual 58, 3) := by decide +kernel
theorem dX2_copyFrom_22 : decode cX2_copyFrom 22 = .ok (.iconst 0, 1) := by decide +kernel
theorem dX2_copyFrom_23 : decode cX2_copyFrom 23 = .ok (.istore_n 2, 1) := by decide +kernel
theorem dX2_copyFrom_24 : decode cX2_copyFrom 24 = .ok (.iload_n 2, 1) := by decide +kernel
theorem dX2_copyFrom_25 : decode cX2_copyFrom 25 = .ok (.iconst 3, 1) := by decide +kernel
theorem dX2_copyFrom_26 : decode cX2_copyFrom 26 = .ok (.if_icmp .ge 37, 3) := by decide +kernel
theorem dX2_copyFrom_29 : decode cX2_copyFrom 29 = .ok (.aload_n 0, 1) := by decide +kernel
theorem dX2_copyFrom_30 : decode cX2_copyFrom 30 = .ok (.iload_n 2, 1) := by decide +kernel
theorem dX2_copyFrom_31 : decode cX2_copyFrom 31 = .ok (.invokevirtual 42, 3) := by decide +kernel
theorem dX2_copyFrom_34 : decode cX2_copyFrom 34 = .ok (.astore_n 3, 1) := by decide +kernel
theorem dX2_copyFrom_35 : decode cX2_copyFrom 35 = .ok (.aload_n 1, 1) := by decide +kernel
theorem dX2_copyFrom_36 : decode cX2_copyFrom 36 = .ok (.iload_n 2, 1) := by decide +kernel
theorem dX2_copyFrom_37 : decode cX2_copyFrom 37 = .ok (.invokevirtual 42, 3) := by decide +kernel
theorem dX2_copyFrom_40 : decode cX2_copyFrom 40 = .ok (.astore 4, 2) := by decide +kernel
theorem dX2_copyFrom_42 : decode cX2_copyFrom 42 = .ok (.aload_n 3, 1) := by decide +kernel
theorem dX2_copyFrom_43 : decode cX2_copyFrom 43 = .ok (.ifnull 14, 3) := by decide +kernel
theorem dX2_copyFrom_46 : decode cX2_copyFrom 46 = .ok (.aload 4, 2) := by decide +kernel
theorem dX2_copyFrom_48 : decode cX2_copyFrom 48 = .ok (.ifnull 9, 3) := by decide +kernel
theorem dX2_copyFrom_51 : decode cX2_copyFrom 51 = .ok (.aload_n 3, 1) := by decide +kernel
theorem dX2_copyFrom_52 : decode cX2_copyFrom 52 = .ok (.aload 4, 2) := by decide +kernel
theorem dX2_copyFrom_54 : decode cX2_copyFrom 54 = .ok (.invokevirtual 62, 3) := by decide +kernel
theorem dX2_copyFrom_57 : decode cX2_copyFrom 57 = .ok (.iinc 2 1, 3) := by decide +kernel
theorem dX2_copyFrom_60 : decode cX2_copyFrom 60 = .ok (.goto (-36), 3) := by decide +kernel
theorem dX2_copyFrom_63 : decode cX2_copyFrom 63 = .ok (.aload_n 0, 1) := by decide +kernel
theorem dX2_copyFrom_64 : decode cX2_copyFrom 64 = .ok (.aload_n 1, 1) := by decide +kernel
theorem dX2_copyFrom_65 : decode cX2_copyFrom 65 = .ok (.getfield 29, 3) := by decide +kernel
theorem dX2_copyFrom_68 : decode cX2_copyFrom 68 = .ok (.putfield 29, 3) := by decide +kernel
theorem dX2_copyFrom_71 : decode cX2_copyFrom 71 = .ok (.aload_n 0, 1) := by decide +kernel
theorem dX2_copyFrom_72 : decode cX2_copyFrom 72 = .ok (.aload_n 1, 1) := by decide +kernel
theorem dX2_copyFrom_73 : decode cX2_copyFrom 73 = .ok (.getfield 49, 3) := by decide +kernel
theorem dX2_copyFrom_76 : decode cX2_copyFrom 76 = .ok (.putfield 49, 3) := by decide +kernel
theorem dX2_copyFrom_79 : decode cX2_copyFrom 79 = .ok (.aload_n 0, 1) := by decide +kernel
theorem dX2_copyFrom_80 : decode cX2_copyFrom 80 = .ok (.aload_n 1, 1) := by decide +kernel
theorem dX2_copyFrom_81 : decode cX2_copyFrom 81 = .ok (.getfield 52, 3) := by decide +kernel
theorem dX2_copyFrom_84 : decode cX2_copyFrom 84 = .ok (.putfield 52, 3) := by decide +kernel
theorem dX2_copyFrom_87 : decode cX2_copyFrom 87 = .ok (.aload_n 0, 1) := by decide +kernel
theorem dX2_copyFrom_88 : decode cX2_copyFrom 88 = .ok (.aload_n 1, 1) := by decide +kernel
theorem dX2_copyFrom_89 : decode cX2_copyFrom 89 = .ok (.getfield 55, 3) := by decide +kernel
theorem dX2_copyFrom_92 : decode cX2_copyFrom 92 = .ok (.putfield 55, 3) := by decide +kernel
theorem dX2_copyFrom_95 : decode cX2_copyFrom 95 = .ok (.return_, 1) := by decide +kernel
theorem dX2_workerAt_0 : decode cX2_workerAt 0 = .ok (.iload_n 1, 1) := by decide +kernel
theorem dX2_workerAt_1 : decode cX2_workerAt 1 = .ok (.ifCond .lt 21, 3) := by decide +kernel
theorem dX2_workerAt_4 : decode cX2_workerAt 4 = .ok (.iload_n 1, 1) := by decide +kernel
theorem dX2_workerAt_5 : decode cX2_workerAt 5 = .ok (.aload_n 0, 1) := by decide +kernel
theorem dX2_workerAt_6 : decode cX2_workerAt 6 = .ok (.getfield 25, 3) := by decide +kernel
theorem dX2_workerAt_9 : decode cX2_workerAt 9 = .ok (.arraylength, 1) := by decide +kernel
theorem dX2_workerAt_10 : decode cX2_workerAt 10 = .ok (.if_icmp .ge 12, 3) := by decide +kernel
theorem dX2_workerAt_13 : decode cX2_workerAt 13 = .ok (.aload_n 0, 1) := by decide +kernel
theorem dX2_workerAt_14 : decode cX2_workerAt 14 = .ok (.getfield 25, 3) := by decide +kernel
theorem dX2_workerAt_17 : decode cX2_workerAt 17 = .ok (.iload_n 1, 1) := by decide +kernel
theorem dX2_workerAt_18 : decode cX2_workerAt 18 = .ok (.aaload, 1) := by decide +kernel
theorem dX2_workerAt_19 : decode cX2_workerAt 19 = .ok (.goto 4, 3) := by decide +kernel
theorem dX2_workerAt_22 : decode cX2_workerAt 22 = .ok (.aconst_null, 1) := by decide +kernel
theorem dX2_workerAt_23 : decode cX2_workerAt 23 = .ok (.areturn, 1) := by decide +kernel
theorem dX2_sumOfValues_0 : decode cX2_sumOfValues 0 = .ok (.iconst 0, 1) := by decide +kernel
theorem dX2_sumOfValues_1 : decode cX2_sumOfValues 1 = .ok (.istore_n 1, 1) := by decide +kernel
theorem dX2_sumOfValues_2 : decode cX2_sumOfValues 2 = .ok (.iconst 0, 1) := by decide +kernel
theorem dX2_sumOfValues_3 : decode cX2_sumOfValues 3 = .ok (.istore_n 2, 1) := by decide +kernel
theorem dX2_sumOfValues_4 : decode cX2_sumOfValues 4 = .ok (.iload_n 2, 1) := by decide +kernel
theorem dX2_sumOfValues_5 : decode cX2_sumOfValues 5 = .ok (.bipush 16, 2) := by decide +kernel
theorem dX2_sumOfValues_7 : decode cX2_sumOfValues 7 = .ok (.if_icmp .ge 20, 3) := by decide +kernel
theorem dX2_sumOfValues_10 : decode cX2_sumOfValues 10 = .ok (.iload_n 1, 1) := by decide +kernel
theorem dX2_sumOfValues_11 : decode cX2_sumOfValues 11 = .ok (.aload_n 0, 1) := by decide +kernel
theorem dX2_sumOfValues_12 : decode cX2_sumOfValues 12 = .ok (.getfield 14, 3) := by decide +kernel
theorem dX2_sumOfValues_15 : decode cX2_sumOfValues 15 = .ok (.iload_n 2, 1) := by decide +kernel
theorem dX2_sumOfValues_16 : decode cX2_sumOfValues 16 = .ok (.invokevirtual 65, 3) := by decide +kernel
theorem dX2_sumOfValues_19 : decode cX2_sumOfValues 19 = .ok (.iadd, 1) := by decide +kernel
theorem dX2_sumOfValues_20 : decode cX2_sumOfValues 20 = .ok (.istore_n 1, 1) := by decide +kernel
theorem dX2_sumOfValues_21 : decode cX2_sumOfValues 21 = .ok (.iinc 2 1, 3) := by decide +kernel
theorem dX2_sumOfValues_24 : decode cX2_sumOfValues 24 = .ok (.goto (-20), 3) := by decide +kernel
theorem dX2_sumOfValues_27 : decode cX2_sumOfValues 27 = .ok (.iload_n 1, 1) := by decide +kernel
theorem dX2_sumOfValues_28 : decode cX2_sumOfValues 28 = .ok (.ireturn, 1) := by decide +kernel
theorem dX2_countLockedBy_0 : decode cX2_countLockedBy 0 = .ok (.iconst 0, 1) := by decide +kernel
theorem dX2_countLockedBy_1 : decode cX2_countLockedBy 1 = .ok (.istore_n 2, 1) := by decide +kernel
theorem dX2_countLockedBy_2 : decode cX2_countLockedBy 2 = .ok (.iconst 0, 1) := by decide +kernel
theorem dX2_countLockedBy_3 : decode cX2_countLockedBy 3 = .ok (.istore_n 3, 1) := by decide +kernel
theorem dX2_countLockedBy_4 : decode cX2_countLockedBy 4 = .ok (.iload_n 3, 1) := by decide +kernel
theorem dX2_countLockedBy_5 : decode cX2_countLockedBy 5 = .ok (.bipush 16, 2) := by decide +kernel
theorem dX2_countLockedBy_7 : decode cX2_countLockedBy 7 = .ok (.if_icmp .ge 24, 3) := by decide +kernel
theorem dX2_countLockedBy_10 : decode cX2_countLockedBy 10 = .ok (.aload_n 0, 1) := by decide +kernel
theorem dX2_countLockedBy_11 : decode cX2_countLockedBy 11 = .ok (.getfield 20, 3) := by decide +kernel
theorem dX2_countLockedBy_14 : decode cX2_countLockedBy 14 = .ok (.iload_n 3, 1) := by decide +kernel
theorem dX2_countLockedBy_15 : decode cX2_countLockedBy 15 = .ok (.invokevirtual 65, 3) := by decide +kernel
theorem dX2_countLockedBy_18 : decode cX2_countLockedBy 18 = .ok (.iload_n 1, 1) := by decide +kernel
theorem dX2_countLockedBy_19 : decode cX2_countLockedBy 19 = .ok (.if_icmp .ne 6, 3) := by decide +kernel
theorem dX2_countLockedBy_22 : decode cX2_countLockedBy 22 = .ok (.iinc 2 1, 3) := by decide +kernel
theorem dX2_countLockedBy_25 : decode cX2_countLockedBy 25 = .ok (.iinc 3 1, 3) := by decide +kernel
theorem dX2_countLockedBy_28 : decode cX2_countLockedBy 28 = .ok (.goto (-24), 3) := by decide +kernel
theorem dX2_countLockedBy_31 : decode cX2_countLockedBy 31 = .ok (.iload_n 2, 1) := by decide +kernel
theorem dX2_countLockedBy_32 : decode cX2_countLockedBy 32 = .ok (.ireturn, 1) := by decide +kernel
theorem dX2_numberOfWorker_0 : decode cX2_numberOfWorker 0 = .ok (.iload_n 2, 1) := by decide +kernel
theorem dX2_numberOfWorker_1 : decode cX2_numberOfWorker 1 = .ok (.tableswitch 84 0 5 #[39, 44, 52, 61, 66, 71], 39) := by decide +kernel
theorem dX2_numberOfWorker_40 : decode cX2_numberOfWorker 40 = .ok (.aload_n 1, 1) := by decide +kernel
theorem dX2_numberOfWorker_41 : decode cX2_numberOfWorker 41 = .ok (.getfield 69, 3) := by decide +kernel
theorem dX2_numberOfWorker_44 : decode cX2_numberOfWorker 44 = .ok (.ireturn, 1) := by decide +kernel
theorem dX2_numberOfWorker_45 : decode cX2_numberOfWorker 45 = .ok (.aload_n 1, 1) := by decide +kernel
theorem dX2_numberOfWorker_46 : decode cX2_numberOfWorker 46 = .ok (.getfield 72, 3) := by decide +kernel
theorem dX2_numberOfWorker_49 : decode cX2_numberOfWorker 49 = .ok (.getfield 75, 3) := by decide +kernel
theorem dX2_numberOfWorker_52 : decode cX2_numberOfWorker 52 = .ok (.ireturn, 1) := by decide +kernel
theorem dX2_numberOfWorker_53 : decode cX2_numberOfWorker 53 = .ok (.aload_n 0, 1) := by decide +kernel
theorem dX2_numberOfWorker_54 : decode cX2_numberOfWorker 54 = .ok (.aload_n 1, 1) := by decide +kernel
theorem dX2_numberOfWorker_55 : decode cX2_numberOfWorker 55 = .ok (.getfield 78, 3) := by decide +kernel
theorem dX2_numberOfWorker_58 : decode cX2_numberOfWorker 58 = .ok (.invokevirtual 81, 3) := by decide +kernel
theorem dX2_numberOfWorker_61 : decode cX2_numberOfWorker 61 = .ok (.ireturn, 1) := by decide +kernel
theorem dX2_numberOfWorker_62 : decode cX2_numberOfWorker 62 = .ok (.aload_n 1, 1) := by decide +kernel
theorem dX2_numberOfWorker_63 : decode cX2_numberOfWorker 63 = .ok (.getfield 84, 3) := by decide +kernel
theorem dX2_numberOfWorker_66 : decode cX2_numberOfWorker 66 = .ok (.ireturn, 1) := by decide +kernel
theorem dX2_numberOfWorker_67 : decode cX2_numberOfWorker 67 = .ok (.aload_n 1, 1) := by decide +kernel
theorem dX2_numberOfWorker_68 : decode cX2_numberOfWorker 68 = .ok (.getfield 87, 3) := by decide +kernel
theorem dX2_numberOfWorker_71 : decode cX2_numberOfWorker 71 = .ok (.ireturn, 1) := by decide +kernel
theorem dX2_numberOfWorker_72 : decode cX2_numberOfWorker 72 = .ok (.aload_n 1, 1) := by decide +kernel
theorem dX2_numberOfWorker_73 : decode cX2_numberOfWorker 73 = .ok (.invokevirtual 90, 3) := by decide +kernel
theorem dX2_numberOfWorker_76 : decode cX2_numberOfWorker 76 = .ok (.ifCond .eq 7, 3) := by decide +kernel
theorem dX2_numberOfWorker_79 : decode cX2_numberOfWorker 79 = .ok (.iconst 1, 1) := by decide +kernel
theorem dX2_numberOfWorker_80 : decode cX2_numberOfWorker 80 = .ok (.goto 4, 3) := by decide +kernel
theorem dX2_numberOfWorker_83 : decode cX2_numberOfWorker 83 = .ok (.iconst 0, 1) := by decide +kernel
theorem dX2_numberOfWorker_84 : decode cX2_numberOfWorker 84 = .ok (.ireturn, 1) := by decide +kernel
theorem dX2_numberOfWorker_85 : decode cX2_numberOfWorker 85 = .ok (.iconst (-1), 1) := by decide +kernel
theorem dX2_numberOfWorker_86 : decode cX2_numberOfWorker 86 = .ok (.ireturn, 1) := by decide +kernel
theorem dX2_sumOfWorkers_0 : decode cX2_sumOfWorkers 0 = .ok (.iconst 0, 1) := by decide +kernel
theorem dX2_sumOfWorkers_1 : decode cX2_sumOfWorkers 1 = .ok (.istore_n 2, 1) := by decide +kernel
theorem dX2_sumOfWorkers_2 : decode cX2_sumOfWorkers 2 = .ok (.iconst 0, 1) := by decide +kernel
theorem dX2_sumOfWorkers_3 : decode cX2_sumOfWorkers 3 = .ok (.istore_n 3, 1) := by decide +kernel
theorem dX2_sumOfWorkers_4 : decode cX2_sumOfWorkers 4 = .ok (.iload_n 3, 1) := by decide +kernel
theorem dX2_sumOfWorkers_5 : decode cX2_sumOfWorkers 5 = .ok (.iconst 3, 1) := by decide +kernel
theorem dX2_sumOfWorkers_6 : decode cX2_sumOfWorkers 6 = .ok (.if_icmp .ge 31, 3) := by decide +kernel
theorem dX2_sumOfWorkers_9 : decode cX2_sumOfWorkers 9 = .ok (.aload_n 0, 1) := by decide +kernel
theorem dX2_sumOfWorkers_10 : decode cX2_sumOfWorkers 10 = .ok (.iload_n 3, 1) := by decide +kernel
theorem dX2_sumOfWorkers_11 : decode cX2_sumOfWorkers 11 = .ok (.invokevirtual 42, 3) := by decide +kernel
theorem dX2_sumOfWorkers_14 : decode cX2_sumOfWorkers 14 = .ok (.astore 4, 2) := by decide +kernel
theorem dX2_sumOfWorkers_16 : decode cX2_sumOfWorkers 16 = .ok (.aload 4, 2) := by decide +kernel
theorem dX2_sumOfWorkers_18 : decode cX2_sumOfWorkers 18 = .ok (.ifnull 13, 3) := by decide +kernel
theorem dX2_sumOfWorkers_21 : decode cX2_sumOfWorkers 21 = .ok (.iload_n 2, 1) := by decide +kernel
theorem dX2_sumOfWorkers_22 : decode cX2_sumOfWorkers 22 = .ok (.aload_n 0, 1) := by decide +kernel
theorem dX2_sumOfWorkers_23 : decode cX2_sumOfWorkers 23 = .ok (.aload 4, 2) := by decide +kernel
theorem dX2_sumOfWorkers_25 : decode cX2_sumOfWorkers 25 = .ok (.iload_n 1, 1) := by decide +kernel
theorem dX2_sumOfWorkers_26 : decode cX2_sumOfWorkers 26 = .ok (.invokevirtual 94, 3) := by decide +kernel
theorem dX2_sumOfWorkers_29 : decode cX2_sumOfWorkers 29 = .ok (.iadd, 1) := by decide +kernel
theorem dX2_sumOfWorkers_30 : decode cX2_sumOfWorkers 30 = .ok (.istore_n 2, 1) := by decide +kernel
theorem dX2_sumOfWorkers_31 : decode cX2_sumOfWorkers 31 = .ok (.iinc 3 1, 3) := by decide +kernel
theorem dX2_sumOfWorkers_34 : decode cX2_sumOfWorkers 34 = .ok (.goto (-30), 3) := by decide +kernel
theorem dX2_sumOfWorkers_37 : decode cX2_sumOfWorkers 37 = .ok (.iload_n 2, 1) := by decide +kernel
theorem dX2_sumOfWorkers_38 : decode cX2_sumOfWorkers 38 = .ok (.ireturn, 1) := by decide +kernel
theorem dX2_countDifferent_0 : decode cX2_countDifferent 0 = .ok (.iconst 0, 1) := by decide +kernel
theorem dX2_countDifferent_1 : decode cX2_countDifferent 1 = .ok (.istore_n 2, 1) := by decide +kernel
theorem dX2_countDifferent_2 : decode cX2_countDifferent 2 = .ok (.iconst 0, 1) := by decide +kernel
theorem dX2_countDifferent_3 : decode cX2_countDifferent 3 = .ok (.istore_n 3, 1) := by decide +kernel
theorem dX2_countDifferent_4 : decode cX2_countDifferent 4 = .ok (.iload_n 3, 1) := by decide +kernel
theorem dX2_countDifferent_5 : decode cX2_countDifferent 5 = .ok (.bipush 16, 2) := by decide +kernel
theorem dX2_countDifferent_7 : decode cX2_countDifferent 7 = .ok (.if_icmp .ge 31, 3) := by decide +kernel
theorem dX2_countDifferent_10 : decode cX2_countDifferent 10 = .ok (.aload_n 0, 1) := by decide +kernel
theorem dX2_countDifferent_11 : decode cX2_countDifferent 11 = .ok (.getfield 14, 3) := by decide +kernel
theorem dX2_countDifferent_14 : decode cX2_countDifferent 14 = .ok (.iload_n 3, 1) := by decide +kernel
theorem dX2_countDifferent_15 : decode cX2_countDifferent 15 = .ok (.invokevirtual 65, 3) := by decide +kernel
theorem dX2_countDifferent_18 : decode cX2_countDifferent 18 = .ok (.aload_n 1, 1) := by decide +kernel
theorem dX2_countDifferent_19 : decode cX2_countDifferent 19 = .ok (.getfield 14, 3) := by decide +kernel
theorem dX2_countDifferent_22 : decode cX2_countDifferent 22 = .ok (.iload_n 3, 1) := by decide +kernel
theorem dX2_countDifferent_23 : decode cX2_countDifferent 23 = .ok (.invokevirtual 65, 3) := by decide +kernel
theorem dX2_countDifferent_26 : decode cX2_countDifferent 26 = .ok (.if_icmp .eq 6, 3) := by decide +kernel
theorem dX2_countDifferent_29 : decode cX2_countDifferent 29 = .ok (.iinc 2 1, 3) := by decide +kernel
theorem dX2_countDifferent_32 : decode cX2_countDifferent 32 = .ok (.iinc 3 1, 3) := by decide +kernel
theorem dX2_countDifferent_35 : decode cX2_countDifferent 35 = .ok (.goto (-31), 3) := by decide +kernel
theorem dX2_countDifferent_38 : decode cX2_countDifferent 38 = .ok (.iload_n 2, 1) := by decide +kernel
theorem dX2_countDifferent_39 : decode cX2_countDifferent 39 = .ok (.ireturn, 1) := by decide +kernel
theorem dX2_oldestValue_0 : decode cX2_oldestValue 0 = .ok (.aload_n 0, 1) := by decide +kernel
theorem dX2_oldestValue_1 : decode cX2_oldestValue 1 = .ok (.aload_n 0, 1) := by decide +kernel
theorem dX2_oldestValue_2 : decode cX2_oldestValue 2 = .ok (.getfield 20, 3) := by decide +kernel
theorem dX2_oldestValue_5 : decode cX2_oldestValue 5 = .ok (.iload_n 1, 1) := by decide +kernel
theorem dX2_oldestValue_6 : decode cX2_oldestValue 6 = .ok (.invokevirtual 65, 3) := by decide +kernel
theorem dX2_oldestValue_9 : decode cX2_oldestValue 9 = .ok (.invokevirtual 42, 3) := by decide +kernel
theorem dX2_oldestValue_12 : decode cX2_oldestValue 12 = .ok (.astore_n 2, 1) := by decide +kernel
theorem dX2_oldestValue_13 : decode cX2_oldestValue 13 = .ok (.aload_n 2, 1) := by decide +kernel
theorem dX2_oldestValue_14 : decode cX2_oldestValue 14 = .ok (.ifnonnull 12, 3) := by decide +kernel
theorem dX2_oldestValue_17 : decode cX2_oldestValue 17 = .ok (.aload_n 0, 1) := by decide +kernel
theorem dX2_oldestValue_18 : decode cX2_oldestValue 18 = .ok (.getfield 14, 3) := by decide +kernel
theorem dX2_oldestValue_21 : decode cX2_oldestValue 21 = .ok (.iload_n 1, 1) := by decide +kernel
theorem dX2_oldestValue_22 : decode cX2_oldestValue 22 = .ok (.invokevirtual 65, 3) := by decide +kernel
theorem dX2_oldestValue_25 : decode cX2_oldestValue 25 = .ok (.ireturn, 1) := by decide +kernel
theorem dX2_oldestValue_26 : decode cX2_oldestValue 26 = .ok (.iconst 0, 1) := by decide +kernel
theorem dX2_oldestValue_27 : decode cX2_oldestValue 27 = .ok (.istore_n 3, 1) := by decide +kernel
theorem dX2_oldestValue_28 : decode cX2_oldestValue 28 = .ok (.iload_n 3, 1) := by decide +kernel
theorem dX2_oldestValue_29 : decode cX2_oldestValue 29 = .ok (.aload_n 2, 1) := by decide +kernel
theorem dX2_oldestValue_30 : decode cX2_oldestValue 30 = .ok (.getfield 72, 3) := by decide +kernel
theorem dX2_oldestValue_33 : decode cX2_oldestValue 33 = .ok (.getfield 75, 3) := by decide +kernel
theorem dX2_oldestValue_36 : decode cX2_oldestValue 36 = .ok (.if_icmp .ge 34, 3) := by decide +kernel
theorem dX2_oldestValue_39 : decode cX2_oldestValue 39 = .ok (.aload_n 2, 1) := by decide +kernel
theorem dX2_oldestValue_40 : decode cX2_oldestValue 40 = .ok (.getfield 72, 3) := by decide +kernel
theorem dX2_oldestValue_43 : decode cX2_oldestValue 43 = .ok (.iload_n 3, 1) := by decide +kernel
theorem dX2_oldestValue_44 : decode cX2_oldestValue 44 = .ok (.invokevirtual 65, 3) := by decide +kernel
theorem dX2_oldestValue_47 : decode cX2_oldestValue 47 = .ok (.istore 4, 2) := by decide +kernel
theorem dX2_oldestValue_49 : decode cX2_oldestValue 49 = .ok (.iload 4, 2) := by decide +kernel
theorem dX2_oldestValue_51 : decode cX2_oldestValue 51 = .ok (.bipush 100, 2) := by decide +kernel
theorem dX2_oldestValue_53 : decode cX2_oldestValue 53 = .ok (.idiv, 1) := by decide +kernel
theorem dX2_oldestValue_54 : decode cX2_oldestValue 54 = .ok (.iload_n 1, 1) := by decide +kernel
theorem dX2_oldestValue_55 : decode cX2_oldestValue 55 = .ok (.if_icmp .ne 9, 3) := by decide +kernel
theorem dX2_oldestValue_58 : decode cX2_oldestValue 58 = .ok (.iload 4, 2) := by decide +kernel
theorem dX2_oldestValue_60 : decode cX2_oldestValue 60 = .ok (.bipush 100, 2) := by decide +kernel
theorem dX2_oldestValue_62 : decode cX2_oldestValue 62 = .ok (.irem, 1) := by decide +kernel
theorem dX2_oldestValue_63 : decode cX2_oldestValue 63 = .ok (.ireturn, 1) := by decide +kernel
theorem dX2_oldestValue_64 : decode cX2_oldestValue 64 = .ok (.iinc 3 1, 3) := by decide +kernel
theorem dX2_oldestValue_67 : decode cX2_oldestValue 67 = .ok (.goto (-39), 3) := by decide +kernel
theorem dX2_oldestValue_70 : decode cX2_oldestValue 70 = .ok (.aload_n 0, 1) := by decide +kernel
theorem dX2_oldestValue_71 : decode cX2_oldestValue 71 = .ok (.getfield 14, 3) := by decide +kernel
theorem dX2_oldestValue_74 : decode cX2_oldestValue 74 = .ok (.iload_n 1, 1) := by decide +kernel
theorem dX2_oldestValue_75 : decode cX2_oldestValue 75 = .ok (.invokevirtual 65, 3) := by decide +kernel
theorem dX2_oldestValue_78 : decode cX2_oldestValue 78 = .ok (.ireturn, 1) := by decide +kernel
theorem dX2_obstacle_0 : decode cX2_obstacle 0 = .ok (.aload_n 1, 1) := by decide +kernel
theorem dX2_obstacle_1 : decode cX2_obstacle 1 = .ok (.getfield 69, 3) := by decide +kernel
theorem dX2_obstacle_4 : decode cX2_obstacle 4 = .ok (.ifCond .ne 5, 3) := by decide +kernel
theorem dX2_obstacle_7 : decode cX2_obstacle 7 = .ok (.iconst 1, 1) := by decide +kernel
theorem dX2_obstacle_8 : decode cX2_obstacle 8 = .ok (.ireturn, 1) := by decide +kernel
theorem dX2_obstacle_9 : decode cX2_obstacle 9 = .ok (.aload_n 1, 1) := by decide +kernel
theorem dX2_obstacle_10 : decode cX2_obstacle 10 = .ok (.invokevirtual 90, 3) := by decide +kernel
theorem dX2_obstacle_13 : decode cX2_obstacle 13 = .ok (.ifCond .eq 5, 3) := by decide +kernel
theorem dX2_obstacle_16 : decode cX2_obstacle 16 = .ok (.iconst 2, 1) := by decide +kernel
theorem dX2_obstacle_17 : decode cX2_obstacle 17 = .ok (.ireturn, 1) := by decide +kernel
theorem dX2_obstacle_18 : decode cX2_obstacle 18 = .ok (.aload_n 0, 1) := by decide +kernel
theorem dX2_obstacle_19 : decode cX2_obstacle 19 = .ok (.getfield 20, 3) := by decide +kernel
theorem dX2_obstacle_22 : decode cX2_obstacle 22 = .ok (.iload_n 2, 1) := by decide +kernel
theorem dX2_obstacle_23 : decode cX2_obstacle 23 = .ok (.invokevirtual 65, 3) := by decide +kernel
theorem dX2_obstacle_26 : decode cX2_obstacle 26 = .ok (.istore_n 3, 1) := by decide +kernel
theorem dX2_obstacle_27 : decode cX2_obstacle 27 = .ok (.iload_n 3, 1) := by decide +kernel
theorem dX2_obstacle_28 : decode cX2_obstacle 28 = .ok (.iconst (-1), 1) := by decide +kernel
theorem dX2_obstacle_29 : decode cX2_obstacle 29 = .ok (.if_icmp .eq 13, 3) := by decide +kernel
theorem dX2_obstacle_32 : decode cX2_obstacle 32 = .ok (.iload_n 3, 1) := by decide +kernel
theorem dX2_obstacle_33 : decode cX2_obstacle 33 = .ok (.aload_n 1, 1) := by decide +kernel
theorem dX2_obstacle_34 : decode cX2_obstacle 34 = .ok (.getfield 78, 3) := by decide +kernel
theorem dX2_obstacle_37 : decode cX2_obstacle 37 = .ok (.if_icmp .eq 5, 3) := by decide +kernel
theorem dX2_obstacle_40 : decode cX2_obstacle 40 = .ok (.iconst 3, 1) := by decide +kernel
theorem dX2_obstacle_41 : decode cX2_obstacle 41 = .ok (.ireturn, 1) := by decide +kernel
theorem dX2_obstacle_42 : decode cX2_obstacle 42 = .ok (.aload_n 1, 1) := by decide +kernel
theorem dX2_obstacle_43 : decode cX2_obstacle 43 = .ok (.getfield 72, 3) := by decide +kernel
theorem dX2_obstacle_46 : decode cX2_obstacle 46 = .ok (.getfield 75, 3) := by decide +kernel
theorem dX2_obstacle_49 : decode cX2_obstacle 49 = .ok (.bipush 40, 2) := by decide +kernel
theorem dX2_obstacle_51 : decode cX2_obstacle 51 = .ok (.if_icmp .lt 7, 3) := by decide +kernel
theorem dX2_obstacle_54 : decode cX2_obstacle 54 = .ok (.iconst 4, 1) := by decide +kernel
theorem dX2_obstacle_55 : decode cX2_obstacle 55 = .ok (.goto 4, 3) := by decide +kernel
theorem dX2_obstacle_58 : decode cX2_obstacle 58 = .ok (.iconst 0, 1) := by decide +kernel
theorem dX2_obstacle_59 : decode cX2_obstacle 59 = .ok (.ireturn, 1) := by decide +kernel
theorem dX2_allows_0 : decode cX2_allows 0 = .ok (.iload_n 1, 1) := by decide +kernel
theorem dX2_allows_1 : decode cX2_allows 1 = .ok (.tableswitch 190 0 6 #[43, 64, 69, 82, 109, 130, 160], 43) := by decide +kernel
theorem dX2_allows_44 : decode cX2_allows 44 = .ok (.aload_n 2, 1) := by decide +kernel
theorem dX2_allows_45 : decode cX2_allows 45 = .ok (.getfield 69, 3) := by decide +kernel
theorem dX2_allows_48 : decode cX2_allows 48 = .ok (.iconst 5, 1) := by decide +kernel
theorem dX2_allows_49 : decode cX2_allows 49 = .ok (.if_icmp .ge 14, 3) := by decide +kernel
theorem dX2_allows_52 : decode cX2_allows 52 = .ok (.aload_n 2, 1) := by decide +kernel
theorem dX2_allows_53 : decode cX2_allows 53 = .ok (.invokevirtual 90, 3) := by decide +kernel
theorem dX2_allows_56 : decode cX2_allows 56 = .ok (.ifCond .ne 7, 3) := by decide +kernel
theorem dX2_allows_59 : decode cX2_allows 59 = .ok (.iconst 1, 1) := by decide +kernel
theorem dX2_allows_60 : decode cX2_allows 60 = .ok (.goto 4, 3) := by decide +kernel
theorem dX2_allows_63 : decode cX2_allows 63 = .ok (.iconst 0, 1) := by decide +kernel
theorem dX2_allows_64 : decode cX2_allows 64 = .ok (.ireturn, 1) := by decide +kernel
theorem dX2_allows_65 : decode cX2_allows 65 = .ok (.aload_n 2, 1) := by decide +kernel
theorem dX2_allows_66 : decode cX2_allows 66 = .ok (.invokevirtual 98, 3) := by decide +kernel
theorem dX2_allows_69 : decode cX2_allows 69 = .ok (.ireturn, 1) := by decide +kernel
theorem dX2_allows_70 : decode cX2_allows 70 = .ok (.aload_n 2, 1) := by decide +kernel
theorem dX2_allows_71 : decode cX2_allows 71 = .ok (.getfield 69, 3) := by decide +kernel
theorem dX2_allows_74 : decode cX2_allows 74 = .ok (.ifCond .le 7, 3) := by decide +kernel
theorem dX2_allows_77 : decode cX2_allows 77 = .ok (.iconst 1, 1) := by decide +kernel
theorem dX2_allows_78 : decode cX2_allows 78 = .ok (.goto 4, 3) := by decide +kernel
theorem dX2_allows_81 : decode cX2_allows 81 = .ok (.iconst 0, 1) := by decide +kernel
theorem dX2_allows_82 : decode cX2_allows 82 = .ok (.ireturn, 1) := by decide +kernel
theorem dX2_allows_83 : decode cX2_allows 83 = .ok (.aload_n 2, 1) := by decide +kernel
theorem dX2_allows_84 : decode cX2_allows 84 = .ok (.invokevirtual 98, 3) := by decide +kernel
theorem dX2_allows_87 : decode cX2_allows 87 = .ok (.ifCond .eq 21, 3) := by decide +kernel
theorem dX2_allows_90 : decode cX2_allows 90 = .ok (.aload_n 2, 1) := by decide +kernel
theorem dX2_allows_91 : decode cX2_allows 91 = .ok (.aload_n 2, 1) := by decide +kernel
theorem dX2_allows_92 : decode cX2_allows 92 = .ok (.getfield 69, 3) := by decide +kernel
theorem dX2_allows_95 : decode cX2_allows 95 = .ok (.iconst 1, 1) := by decide +kernel
theorem dX2_allows_96 : decode cX2_allows 96 = .ok (.isub, 1) := by decide +kernel
theorem dX2_allows_97 : decode cX2_allows 97 = .ok (.invokevirtual 101, 3) := by decide +kernel
theorem dX2_allows_100 : decode cX2_allows 100 = .ok (.iconst 4, 1) := by decide +kernel
theorem dX2_allows_101 : decode cX2_allows 101 = .ok (.if_icmp .ge 7, 3) := by decide +kernel
theorem dX2_allows_104 : decode cX2_allows 104 = .ok (.iconst 1, 1) := by decide +kernel
theorem dX2_allows_105 : decode cX2_allows 105 = .ok (.goto 4, 3) := by decide +kernel
theorem dX2_allows_108 : decode cX2_allows 108 = .ok (.iconst 0, 1) := by decide +kernel
theorem dX2_allows_109 : decode cX2_allows 109 = .ok (.ireturn, 1) := by decide +kernel
theorem dX2_allows_110 : decode cX2_allows 110 = .ok (.aload_n 2, 1) := by decide +kernel
theorem dX2_allows_111 : decode cX2_allows 111 = .ok (.invokevirtual 98, 3) := by decide +kernel
theorem dX2_allows_114 : decode cX2_allows 114 = .ok (.ifCond .eq 15, 3) := by decide +kernel
theorem dX2_allows_117 : decode cX2_allows 117 = .ok (.aload_n 2, 1) := by decide +kernel
theorem dX2_allows_118 : decode cX2_allows 118 = .ok (.iload_n 3, 1) := by decide +kernel
theorem dX2_allows_119 : decode cX2_allows 119 = .ok (.invokevirtual 104, 3) := by decide +kernel
theorem dX2_allows_122 : decode cX2_allows 122 = .ok (.ifCond .eq 7, 3) := by decide +kernel
theorem dX2_allows_125 : decode cX2_allows 125 = .ok (.iconst 1, 1) := by decide +kernel
theorem dX2_allows_126 : decode cX2_allows 126 = .ok (.goto 4, 3) := by decide +kernel
theorem dX2_allows_129 : decode cX2_allows 129 = .ok (.iconst 0, 1) := by decide +kernel
theorem dX2_allows_130 : decode cX2_allows 130 = .ok (.ireturn, 1) := by decide +kernel
theorem dX2_allows_131 : decode cX2_allows 131 = .ok (.iload_n 3, 1) := by decide +kernel
theorem dX2_allows_132 : decode cX2_allows 132 = .ok (.invokestatic 108, 3) := by decide +kernel
theorem dX2_allows_135 : decode cX2_allows 135 = .ok (.ifCond .eq 24, 3) := by decide +kernel
theorem dX2_allows_138 : decode cX2_allows 138 = .ok (.iload 4, 2) := by decide +kernel
theorem dX2_allows_140 : decode cX2_allows 140 = .ok (.invokestatic 111, 3) := by decide +kernel
theorem dX2_allows_143 : decode cX2_allows 143 = .ok (.ifCond .eq 16, 3) := by decide +kernel
theorem dX2_allows_146 : decode cX2_allows 146 = .ok (.aload_n 0, 1) := by decide +kernel
theorem dX2_allows_147 : decode cX2_allows 147 = .ok (.aload_n 2, 1) := by decide +kernel
theorem dX2_allows_148 : decode cX2_allows 148 = .ok (.iload_n 3, 1) := by decide +kernel
theorem dX2_allows_149 : decode cX2_allows 149 = .ok (.invokevirtual 114, 3) := by decide +kernel
theorem dX2_allows_152 : decode cX2_allows 152 = .ok (.ifCond .eq 7, 3) := by decide +kernel
theorem dX2_allows_155 : decode cX2_allows 155 = .ok (.iconst 1, 1) := by decide +kernel
theorem dX2_allows_156 : decode cX2_allows 156 = .ok (.goto 4, 3) := by decide +kernel
theorem dX2_allows_159 : decode cX2_allows 159 = .ok (.iconst 0, 1) := by decide +kernel
theorem dX2_allows_160 : decode cX2_allows 160 = .ok (.ireturn, 1) := by decide +kernel
theorem dX2_allows_161 : decode cX2_allows 161 = .ok (.iload_n 3, 1) := by decide +kernel
theorem dX2_allows_162 : decode cX2_allows 162 = .ok (.invokestatic 108, 3) := by decide +kernel
theorem dX2_allows_165 : decode cX2_allows 165 = .ok (.ifCond .eq 24, 3) := by decide +kernel
theorem dX2_allows_168 : decode cX2_allows 168 = .ok (.iload 4, 2) := by decide +kernel
theorem dX2_allows_170 : decode cX2_allows 170 = .ok (.invokestatic 118, 3) := by decide +kernel
theorem dX2_allows_173 : decode cX2_allows 173 = .ok (.ifCond .eq 16, 3) := by decide +kernel
theorem dX2_allows_176 : decode cX2_allows 176 = .ok (.aload_n 0, 1) := by decide +kernel
theorem dX2_allows_177 : decode cX2_allows 177 = .ok (.aload_n 2, 1) := by decide +kernel
theorem dX2_allows_178 : decode cX2_allows 178 = .ok (.iload_n 3, 1) := by decide +kernel
theorem dX2_allows_179 : decode cX2_allows 179 = .ok (.invokevirtual 121, 3) := by decide +kernel
theorem dX2_allows_182 : decode cX2_allows 182 = .ok (.ifCond .ne 7, 3) := by decide +kernel
theorem dX2_allows_185 : decode cX2_allows 185 = .ok (.iconst 1, 1) := by decide +kernel
theorem dX2_allows_186 : decode cX2_allows 186 = .ok (.goto 4, 3) := by decide +kernel
theorem dX2_allows_189 : decode cX2_allows 189 = .ok (.iconst 0, 1) := by decide +kernel
theorem dX2_allows_190 : decode cX2_allows 190 = .ok (.ireturn, 1) := by decide +kernel
theorem dX2_allows_191 : decode cX2_allows 191 = .ok (.iconst 0, 1) := by decide +kernel
theorem dX2_allows_192 : decode cX2_allows 192 = .ok (.ireturn, 1) := by decide +kernel
theorem dX2_canRegret_0 : decode cX2_canRegret 0 = .ok (.aload_n 0, 1) := by decide +kernel
theorem dX2_canRegret_1 : decode cX2_canRegret 1 = .ok (.aload_n 1, 1) := by decide +kernel
theorem dX2_canRegret_2 : decode cX2_canRegret 2 = .ok (.iload_n 2, 1) := by decide +kernel
theorem dX2_canRegret_3 : decode cX2_canRegret 3 = .ok (.invokevirtual 121, 3) := by decide +kernel
theorem dX2_canRegret_6 : decode cX2_canRegret 6 = .ok (.istore_n 3, 1) := by decide +kernel
theorem dX2_canRegret_7 : decode cX2_canRegret 7 = .ok (.iload_n 3, 1) := by decide +kernel
theorem dX2_canRegret_8 : decode cX2_canRegret 8 = .ok (.ifCond .eq 8, 3) := by decide +kernel
theorem dX2_canRegret_11 : decode cX2_canRegret 11 = .ok (.iload_n 3, 1) := by decide +kernel
theorem dX2_canRegret_12 : decode cX2_canRegret 12 = .ok (.iconst 4, 1) := by decide +kernel
theorem dX2_canRegret_13 : decode cX2_canRegret 13 = .ok (.if_icmp .ne 22, 3) := by decide +kernel
theorem dX2_canRegret_16 : decode cX2_canRegret 16 = .ok (.aload_n 1, 1) := by decide +kernel
theorem dX2_canRegret_17 : decode cX2_canRegret 17 = .ok (.aload_n 1, 1) := by decide +kernel
theorem dX2_canRegret_18 : decode cX2_canRegret 18 = .ok (.getfield 69, 3) := by decide +kernel
theorem dX2_canRegret_21 : decode cX2_canRegret 21 = .ok (.iconst 1, 1) := by decide +kernel
theorem dX2_canRegret_22 : decode cX2_canRegret 22 = .ok (.isub, 1) := by decide +kernel
theorem dX2_canRegret_23 : decode cX2_canRegret 23 = .ok (.invokevirtual 124, 3) := by decide +kernel
theorem dX2_canRegret_26 : decode cX2_canRegret 26 = .ok (.bipush 6, 2) := by decide +kernel
theorem dX2_canRegret_28 : decode cX2_canRegret 28 = .ok (.if_icmp .ge 7, 3) := by decide +kernel
theorem dX2_canRegret_31 : decode cX2_canRegret 31 = .ok (.iconst 1, 1) := by decide +kernel
theorem dX2_canRegret_32 : decode cX2_canRegret 32 = .ok (.goto 4, 3) := by decide +kernel
theorem dX2_canRegret_35 : decode cX2_canRegret 35 = .ok (.iconst 0, 1) := by decide +kernel
theorem dX2_canRegret_36 : decode cX2_canRegret 36 = .ok (.ireturn, 1) := by decide +kernel
theorem dX2_perform_0 : decode cX2_perform 0 = .ok (.iload_n 1, 1) := by decide +kernel
theorem dX2_perform_1 : decode cX2_perform 1 = .ok (.tableswitch 90 0 6 #[43, 48, 54, 60, 65, 72, 81], 43) := by decide +kernel
theorem dX2_perform_44 : decode cX2_perform 44 = .ok (.aload_n 2, 1) := by decide +kernel
theorem dX2_perform_45 : decode cX2_perform 45 = .ok (.invokevirtual 127, 3) := by decide +kernel
theorem dX2_perform_48 : decode cX2_perform 48 = .ok (.ireturn, 1) := by decide +kernel
theorem dX2_perform_49 : decode cX2_perform 49 = .ok (.aload_n 0, 1) := by decide +kernel
theorem dX2_perform_50 : decode cX2_perform 50 = .ok (.aload_n 2, 1) := by decide +kernel
theorem dX2_perform_51 : decode cX2_perform 51 = .ok (.invokevirtual 131, 3) := by decide +kernel
theorem dX2_perform_54 : decode cX2_perform 54 = .ok (.ireturn, 1) := by decide +kernel
theorem dX2_perform_55 : decode cX2_perform 55 = .ok (.aload_n 0, 1) := by decide +kernel
theorem dX2_perform_56 : decode cX2_perform 56 = .ok (.aload_n 2, 1) := by decide +kernel
theorem dX2_perform_57 : decode cX2_perform 57 = .ok (.invokevirtual 135, 3) := by decide +kernel
theorem dX2_perform_60 : decode cX2_perform 60 = .ok (.ireturn, 1) := by decide +kernel
theorem dX2_perform_61 : decode cX2_perform 61 = .ok (.aload_n 2, 1) := by decide +kernel
theorem dX2_perform_62 : decode cX2_perform 62 = .ok (.invokevirtual 138, 3) := by decide +kernel
theorem dX2_perform_65 : decode cX2_perform 65 = .ok (.ireturn, 1) := by decide +kernel
theorem dX2_perform_66 : decode cX2_perform 66 = .ok (.aload_n 0, 1) := by decide +kernel
theorem dX2_perform_67 : decode cX2_perform 67 = .ok (.aload_n 2, 1) := by decide +kernel
theorem dX2_perform_68 : decode cX2_perform 68 = .ok (.iload_n 3, 1) := by decide +kernel
theorem dX2_perform_69 : decode cX2_perform 69 = .ok (.invokevirtual 141, 3) := by decide +kernel
theorem dX2_perform_72 : decode cX2_perform 72 = .ok (.ireturn, 1) := by decide +kernel
theorem dX2_perform_73 : decode cX2_perform 73 = .ok (.aload_n 0, 1) := by decide +kernel
theorem dX2_perform_74 : decode cX2_perform 74 = .ok (.aload_n 2, 1) := by decide +kernel
theorem dX2_perform_75 : decode cX2_perform 75 = .ok (.iload_n 3, 1) := by decide +kernel
theorem dX2_perform_76 : decode cX2_perform 76 = .ok (.iload 4, 2) := by decide +kernel
theorem dX2_perform_78 : decode cX2_perform 78 = .ok (.invokevirtual 144, 3) := by decide +kernel
theorem dX2_perform_81 : decode cX2_perform 81 = .ok (.ireturn, 1) := by decide +kernel
theorem dX2_perform_82 : decode cX2_perform 82 = .ok (.aload_n 0, 1) := by decide +kernel
theorem dX2_perform_83 : decode cX2_perform 83 = .ok (.aload_n 2, 1) := by decide +kernel
theorem dX2_perform_84 : decode cX2_perform 84 = .ok (.iload_n 3, 1) := by decide +kernel
theorem dX2_perform_85 : decode cX2_perform 85 = .ok (.iload 4, 2) := by decide +kernel
theorem dX2_perform_87 : decode cX2_perform 87 = .ok (.invokevirtual 148, 3) := by decide +kernel
theorem dX2_perform_90 : decode cX2_perform 90 = .ok (.ireturn, 1) := by decide +kernel
theorem dX2_perform_91 : decode cX2_perform 91 = .ok (.iconst (-1), 1) := by decide +kernel
theorem dX2_perform_92 : decode cX2_perform 92 = .ok (.ireturn, 1) := by decide +kernel
theorem dX2_attempt_0 : decode cX2_attempt 0 = .ok (.aload_n 0, 1) := by decide +kernel
theorem dX2_attempt_1 : decode cX2_attempt 1 = .ok (.iload_n 2, 1) := by decide +kernel
theorem dX2_attempt_2 : decode cX2_attempt 2 = .ok (.invokevirtual 42, 3) := by decide +kernel
theorem dX2_attempt_5 : decode cX2_attempt 5 = .ok (.astore 5, 2) := by decide +kernel
theorem dX2_attempt_7 : decode cX2_attempt 7 = .ok (.aload 5, 2) := by decide +kernel
theorem dX2_attempt_9 : decode cX2_attempt 9 = .ok (.ifnull 16, 3) := by decide +kernel
theorem dX2_attempt_12 : decode cX2_attempt 12 = .ok (.aload_n 0, 1) := by decide +kernel
theorem dX2_attempt_13 : decode cX2_attempt 13 = .ok (.iload_n 1, 1) := by decide +kernel
theorem dX2_attempt_14 : decode cX2_attempt 14 = .ok (.aload 5, 2) := by decide +kernel
theorem dX2_attempt_16 : decode cX2_attempt 16 = .ok (.iload_n 3, 1) := by decide +kernel
theorem dX2_attempt_17 : decode cX2_attempt 17 = .ok (.iload 4, 2) := by decide +kernel
theorem dX2_attempt_19 : decode cX2_attempt 19 = .ok (.invokevirtual 151, 3) := by decide +kernel
theorem dX2_attempt_22 : decode cX2_attempt 22 = .ok (.ifCond .ne 5, 3) := by decide +kernel
theorem dX2_attempt_25 : decode cX2_attempt 25 = .ok (.iconst 0, 1) := by decide +kernel
theorem dX2_attempt_26 : decode cX2_attempt 26 = .ok (.ireturn, 1) := by decide +kernel
theorem dX2_attempt_27 : decode cX2_attempt 27 = .ok (.aload_n 0, 1) := by decide +kernel
theorem dX2_attempt_28 : decode cX2_attempt 28 = .ok (.iload_n 1, 1) := by decide +kernel
theorem dX2_attempt_29 : decode cX2_attempt 29 = .ok (.aload 5, 2) := by decide +kernel
theorem dX2_attempt_31 : decode cX2_attempt 31 = .ok (.iload_n 3, 1) := by decide +kernel
theorem dX2_attempt_32 : decode cX2_attempt 32 = .ok (.iload 4, 2) := by decide +kernel
theorem dX2_attempt_34 : decode cX2_attempt 34 = .ok (.invokevirtual 155, 3) := by decide +kernel
theorem dX2_attempt_37 : decode cX2_attempt 37 = .ok (.pop, 1) := by decide +kernel
theorem dX2_attempt_38 : decode cX2_attempt 38 = .ok (.iconst 1, 1) := by decide +kernel
theorem dX2_attempt_39 : decode cX2_attempt 39 = .ok (.ireturn, 1) := by decide +kernel
theorem dX2_setValue_0 : decode cX2_setValue 0 = .ok (.aload_n 0, 1) := by decide +kernel
theorem dX2_setValue_1 : decode cX2_setValue 1 = .ok (.getfield 14, 3) := by decide +kernel
theorem dX2_setValue_4 : decode cX2_setValue 4 = .ok (.iload_n 2, 1) := by decide +kernel
theorem dX2_setValue_5 : decode cX2_setValue 5 = .ok (.invokevirtual 65, 3) := by decide +kernel
theorem dX2_setValue_8 : decode cX2_setValue 8 = .ok (.istore 4, 2) := by decide +kernel
theorem dX2_setValue_10 : decode cX2_setValue 10 = .ok (.aload_n 0, 1) := by decide +kernel
theorem dX2_setValue_11 : decode cX2_setValue 11 = .ok (.getfield 20, 3) := by decide +kernel
theorem dX2_setValue_14 : decode cX2_setValue 14 = .ok (.iload_n 2, 1) := by decide +kernel
theorem dX2_setValue_15 : decode cX2_setValue 15 = .ok (.aload_n 1, 1) := by decide +kernel
theorem dX2_setValue_16 : decode cX2_setValue 16 = .ok (.getfield 78, 3) := by decide +kernel
theorem dX2_setValue_19 : decode cX2_setValue 19 = .ok (.invokevirtual 39, 3) := by decide +kernel
theorem dX2_setValue_22 : decode cX2_setValue 22 = .ok (.aload_n 1, 1) := by decide +kernel
theorem dX2_setValue_23 : decode cX2_setValue 23 = .ok (.getfield 72, 3) := by decide +kernel
theorem dX2_setValue_26 : decode cX2_setValue 26 = .ok (.bipush 100, 2) := by decide +kernel
theorem dX2_setValue_28 : decode cX2_setValue 28 = .ok (.iload_n 2, 1) := by decide +kernel
theorem dX2_setValue_29 : decode cX2_setValue 29 = .ok (.imul, 1) := by decide +kernel
theorem dX2_setValue_30 : decode cX2_setValue 30 = .ok (.iload 4, 2) := by decide +kernel
theorem dX2_setValue_32 : decode cX2_setValue 32 = .ok (.iadd, 1) := by decide +kernel
theorem dX2_setValue_33 : decode cX2_setValue 33 = .ok (.invokevirtual 33, 3) := by decide +kernel
theorem dX2_setValue_36 : decode cX2_setValue 36 = .ok (.aload_n 0, 1) := by decide +kernel
theorem dX2_setValue_37 : decode cX2_setValue 37 = .ok (.getfield 14, 3) := by decide +kernel
theorem dX2_setValue_40 : decode cX2_setValue 40 = .ok (.iload_n 2, 1) := by decide +kernel
theorem dX2_setValue_41 : decode cX2_setValue 41 = .ok (.iload_n 3, 1) := by decide +kernel
theorem dX2_setValue_42 : decode cX2_setValue 42 = .ok (.invokevirtual 39, 3) := by decide +kernel
theorem dX2_setValue_45 : decode cX2_setValue 45 = .ok (.aload_n 0, 1) := by decide +kernel
theorem dX2_setValue_46 : decode cX2_setValue 46 = .ok (.dup, 1) := by decide +kernel
theorem dX2_setValue_47 : decode cX2_setValue 47 = .ok (.getfield 52, 3) := by decide +kernel
theorem dX2_setValue_50 : decode cX2_setValue 50 = .ok (.iconst 1, 1) := by decide +kernel
theorem dX2_setValue_51 : decode cX2_setValue 51 = .ok (.iadd, 1) := by decide +kernel
theorem dX2_setValue_52 : decode cX2_setValue 52 = .ok (.putfield 52, 3) := by decide +kernel
theorem dX2_setValue_55 : decode cX2_setValue 55 = .ok (.iload 4, 2) := by decide +kernel
theorem dX2_setValue_57 : decode cX2_setValue 57 = .ok (.ireturn, 1) := by decide +kernel
theorem dX2_takeRegret_0 : decode cX2_takeRegret 0 = .ok (.aload_n 0, 1) := by decide +kernel
theorem dX2_takeRegret_1 : decode cX2_takeRegret 1 = .ok (.getfield 20, 3) := by decide +kernel
theorem dX2_takeRegret_4 : decode cX2_takeRegret 4 = .ok (.iload_n 2, 1) := by decide +kernel
theorem dX2_takeRegret_5 : decode cX2_takeRegret 5 = .ok (.aload_n 1, 1) := by decide +kernel
theorem dX2_takeRegret_6 : decode cX2_takeRegret 6 = .ok (.getfield 78, 3) := by decide +kernel
theorem dX2_takeRegret_9 : decode cX2_takeRegret 9 = .ok (.invokevirtual 39, 3) := by decide +kernel
theorem dX2_takeRegret_12 : decode cX2_takeRegret 12 = .ok (.aload_n 1, 1) := by decide +kernel
theorem dX2_takeRegret_13 : decode cX2_takeRegret 13 = .ok (.getfield 159, 3) := by decide +kernel
theorem dX2_takeRegret_16 : decode cX2_takeRegret 16 = .ok (.bipush 100, 2) := by decide +kernel
theorem dX2_takeRegret_18 : decode cX2_takeRegret 18 = .ok (.iload_n 2, 1) := by decide +kernel
theorem dX2_takeRegret_19 : decode cX2_takeRegret 19 = .ok (.imul, 1) := by decide +kernel
theorem dX2_takeRegret_20 : decode cX2_takeRegret 20 = .ok (.iload_n 3, 1) := by decide +kernel
theorem dX2_takeRegret_21 : decode cX2_takeRegret 21 = .ok (.iadd, 1) := by decide +kernel
theorem dX2_takeRegret_22 : decode cX2_takeRegret 22 = .ok (.invokevirtual 33, 3) := by decide +kernel
theorem dX2_takeRegret_25 : decode cX2_takeRegret 25 = .ok (.aload_n 1, 1) := by decide +kernel
theorem dX2_takeRegret_26 : decode cX2_takeRegret 26 = .ok (.aload_n 1, 1) := by decide +kernel
theorem dX2_takeRegret_27 : decode cX2_takeRegret 27 = .ok (.getfield 69, 3) := by decide +kernel
theorem dX2_takeRegret_30 : decode cX2_takeRegret 30 = .ok (.iconst 1, 1) := by decide +kernel
theorem dX2_takeRegret_31 : decode cX2_takeRegret 31 = .ok (.isub, 1) := by decide +kernel
theorem dX2_takeRegret_32 : decode cX2_takeRegret 32 = .ok (.invokevirtual 124, 3) := by decide +kernel
theorem dX2_takeRegret_35 : decode cX2_takeRegret 35 = .ok (.ireturn, 1) := by decide +kernel
theorem dX2_goBack_0 : decode cX2_goBack 0 = .ok (.aload_n 1, 1) := by decide +kernel
theorem dX2_goBack_1 : decode cX2_goBack 1 = .ok (.invokevirtual 162, 3) := by decide +kernel
theorem dX2_goBack_4 : decode cX2_goBack 4 = .ok (.astore_n 3, 1) := by decide +kernel
theorem dX2_goBack_5 : decode cX2_goBack 5 = .ok (.aload_n 3, 1) := by decide +kernel
theorem dX2_goBack_6 : decode cX2_goBack 6 = .ok (.ifnull 11, 3) := by decide +kernel
theorem dX2_goBack_9 : decode cX2_goBack 9 = .ok (.aload_n 1, 1) := by decide +kernel
theorem dX2_goBack_10 : decode cX2_goBack 10 = .ok (.iload_n 2, 1) := by decide +kernel
theorem dX2_goBack_11 : decode cX2_goBack 11 = .ok (.invokevirtual 104, 3) := by decide +kernel
theorem dX2_goBack_14 : decode cX2_goBack 14 = .ok (.ifCond .ne 5, 3) := by decide +kernel
theorem dX2_goBack_17 : decode cX2_goBack 17 = .ok (.iconst 0, 1) := by decide +kernel
theorem dX2_goBack_18 : decode cX2_goBack 18 = .ok (.ireturn, 1) := by decide +kernel
theorem dX2_goBack_19 : decode cX2_goBack 19 = .ok (.aload_n 3, 1) := by decide +kernel
theorem dX2_goBack_20 : decode cX2_goBack 20 = .ok (.getfield 166, 3) := by decide +kernel
theorem dX2_goBack_23 : decode cX2_goBack 23 = .ok (.iload_n 2, 1) := by decide +kernel
theorem dX2_goBack_24 : decode cX2_goBack 24 = .ok (.iadd, 1) := by decide +kernel
theorem dX2_goBack_25 : decode cX2_goBack 25 = .ok (.istore 4, 2) := by decide +kernel
theorem dX2_goBack_27 : decode cX2_goBack 27 = .ok (.aload_n 1, 1) := by decide +kernel
theorem dX2_goBack_28 : decode cX2_goBack 28 = .ok (.getfield 72, 3) := by decide +kernel
theorem dX2_goBack_31 : decode cX2_goBack 31 = .ok (.getfield 75, 3) := by decide +kernel
theorem dX2_goBack_34 : decode cX2_goBack 34 = .ok (.istore 5, 2) := by decide +kernel
theorem dX2_goBack_36 : decode cX2_goBack 36 = .ok (.aload_n 0, 1) := by decide +kernel
theorem dX2_goBack_37 : decode cX2_goBack 37 = .ok (.aload_n 1, 1) := by decide +kernel
theorem dX2_goBack_38 : decode cX2_goBack 38 = .ok (.aload_n 1, 1) := by decide +kernel
theorem dX2_goBack_39 : decode cX2_goBack 39 = .ok (.getfield 171, 3) := by decide +kernel
theorem dX2_goBack_42 : decode cX2_goBack 42 = .ok (.iload 4, 2) := by decide +kernel
theorem dX2_goBack_44 : decode cX2_goBack 44 = .ok (.invokevirtual 65, 3) := by decide +kernel
theorem dX2_goBack_47 : decode cX2_goBack 47 = .ok (.invokevirtual 174, 3) := by decide +kernel
theorem dX2_goBack_50 : decode cX2_goBack 50 = .ok (.aload_n 1, 1) := by decide +kernel
theorem dX2_goBack_51 : decode cX2_goBack 51 = .ok (.getfield 159, 3) := by decide +kernel
theorem dX2_goBack_54 : decode cX2_goBack 54 = .ok (.aload_n 1, 1) := by decide +kernel
theorem dX2_goBack_55 : decode cX2_goBack 55 = .ok (.getfield 178, 3) := by decide +kernel
theorem dX2_goBack_58 : decode cX2_goBack 58 = .ok (.iload 4, 2) := by decide +kernel
theorem dX2_goBack_60 : decode cX2_goBack 60 = .ok (.invokevirtual 65, 3) := by decide +kernel
theorem dX2_goBack_63 : decode cX2_goBack 63 = .ok (.invokevirtual 181, 3) := by decide +kernel
theorem dX2_goBack_66 : decode cX2_goBack 66 = .ok (.aload_n 1, 1) := by decide +kernel
theorem dX2_goBack_67 : decode cX2_goBack 67 = .ok (.iload 4, 2) := by decide +kernel
theorem dX2_goBack_69 : decode cX2_goBack 69 = .ok (.iconst 1, 1) := by decide +kernel
theorem dX2_goBack_70 : decode cX2_goBack 70 = .ok (.iadd, 1) := by decide +kernel
theorem dX2_goBack_71 : decode cX2_goBack 71 = .ok (.invokevirtual 184, 3) := by decide +kernel
theorem dX2_goBack_74 : decode cX2_goBack 74 = .ok (.iload 5, 2) := by decide +kernel
theorem dX2_goBack_76 : decode cX2_goBack 76 = .ok (.aload_n 1, 1) := by decide +kernel
theorem dX2_goBack_77 : decode cX2_goBack 77 = .ok (.getfield 72, 3) := by decide +kernel
theorem dX2_goBack_80 : decode cX2_goBack 80 = .ok (.getfield 75, 3) := by decide +kernel
theorem dX2_goBack_83 : decode cX2_goBack 83 = .ok (.isub, 1) := by decide +kernel
theorem dX2_goBack_84 : decode cX2_goBack 84 = .ok (.ireturn, 1) := by decide +kernel
theorem dX2_rollBack_0 : decode cX2_rollBack 0 = .ok (.aload_n 1, 1) := by decide +kernel
theorem dX2_rollBack_1 : decode cX2_rollBack 1 = .ok (.getfield 72, 3) := by decide +kernel
theorem dX2_rollBack_4 : decode cX2_rollBack 4 = .ok (.getfield 75, 3) := by decide +kernel
theorem dX2_rollBack_7 : decode cX2_rollBack 7 = .ok (.iconst 1, 1) := by decide +kernel
theorem dX2_rollBack_8 : decode cX2_rollBack 8 = .ok (.isub, 1) := by decide +kernel
theorem dX2_rollBack_9 : decode cX2_rollBack 9 = .ok (.istore_n 3, 1) := by decide +kernel
theorem dX2_rollBack_10 : decode cX2_rollBack 10 = .ok (.iload_n 3, 1) := by decide +kernel
theorem dX2_rollBack_11 : decode cX2_rollBack 11 = .ok (.iload_n 2, 1) := by decide +kernel
theorem dX2_rollBack_12 : decode cX2_rollBack 12 = .ok (.if_icmp .lt 36, 3) := by decide +kernel
theorem dX2_rollBack_15 : decode cX2_rollBack 15 = .ok (.aload_n 1, 1) := by decide +kernel
theorem dX2_rollBack_16 : decode cX2_rollBack 16 = .ok (.getfield 72, 3) := by decide +kernel
theorem dX2_rollBack_19 : decode cX2_rollBack 19 = .ok (.iload_n 3, 1) := by decide +kernel
theorem dX2_rollBack_20 : decode cX2_rollBack 20 = .ok (.invokevirtual 65, 3) := by decide +kernel
theorem dX2_rollBack_23 : decode cX2_rollBack 23 = .ok (.istore 4, 2) := by decide +kernel
theorem dX2_rollBack_25 : decode cX2_rollBack 25 = .ok (.aload_n 0, 1) := by decide +kernel
theorem dX2_rollBack_26 : decode cX2_rollBack 26 = .ok (.getfield 14, 3) := by decide +kernel
theorem dX2_rollBack_29 : decode cX2_rollBack 29 = .ok (.iload 4, 2) := by decide +kernel
theorem dX2_rollBack_31 : decode cX2_rollBack 31 = .ok (.bipush 100, 2) := by decide +kernel
theorem dX2_rollBack_33 : decode cX2_rollBack 33 = .ok (.idiv, 1) := by decide +kernel
theorem dX2_rollBack_34 : decode cX2_rollBack 34 = .ok (.iload 4, 2) := by decide +kernel
theorem dX2_rollBack_36 : decode cX2_rollBack 36 = .ok (.bipush 100, 2) := by decide +kernel
theorem dX2_rollBack_38 : decode cX2_rollBack 38 = .ok (.irem, 1) := by decide +kernel
theorem dX2_rollBack_39 : decode cX2_rollBack 39 = .ok (.invokevirtual 39, 3) := by decide +kernel
theorem dX2_rollBack_42 : decode cX2_rollBack 42 = .ok (.iinc 3 (-1), 3) := by decide +kernel
theorem dX2_rollBack_45 : decode cX2_rollBack 45 = .ok (.goto (-35), 3) := by decide +kernel
theorem dX2_rollBack_48 : decode cX2_rollBack 48 = .ok (.aload_n 1, 1) := by decide +kernel
theorem dX2_rollBack_49 : decode cX2_rollBack 49 = .ok (.getfield 72, 3) := by decide +kernel
theorem dX2_rollBack_52 : decode cX2_rollBack 52 = .ok (.iload_n 2, 1) := by decide +kernel
theorem dX2_rollBack_53 : decode cX2_rollBack 53 = .ok (.invokevirtual 181, 3) := by decide +kernel
theorem dX2_rollBack_56 : decode cX2_rollBack 56 = .ok (.return_, 1) := by decide +kernel
theorem dX2_endWell_0 : decode cX2_endWell 0 = .ok (.aload_n 1, 1) := by decide +kernel
theorem dX2_endWell_1 : decode cX2_endWell 1 = .ok (.invokevirtual 187, 3) := by decide +kernel
theorem dX2_endWell_4 : decode cX2_endWell 4 = .ok (.aload_n 1, 1) := by decide +kernel
theorem dX2_endWell_5 : decode cX2_endWell 5 = .ok (.getfield 69, 3) := by decide +kernel
theorem dX2_endWell_8 : decode cX2_endWell 8 = .ok (.ifCond .ne 18, 3) := by decide +kernel
theorem dX2_endWell_11 : decode cX2_endWell 11 = .ok (.aload_n 0, 1) := by decide +kernel
theorem dX2_endWell_12 : decode cX2_endWell 12 = .ok (.aload_n 1, 1) := by decide +kernel
theorem dX2_endWell_13 : decode cX2_endWell 13 = .ok (.invokevirtual 190, 3) := by decide +kernel
theorem dX2_endWell_16 : decode cX2_endWell 16 = .ok (.aload_n 1, 1) := by decide +kernel
theorem dX2_endWell_17 : decode cX2_endWell 17 = .ok (.dup, 1) := by decide +kernel
theorem dX2_endWell_18 : decode cX2_endWell 18 = .ok (.getfield 84, 3) := by decide +kernel
theorem dX2_endWell_21 : decode cX2_endWell 21 = .ok (.iconst 1, 1) := by decide +kernel
theorem dX2_endWell_22 : decode cX2_endWell 22 = .ok (.iadd, 1) := by decide +kernel
theorem dX2_endWell_23 : decode cX2_endWell 23 = .ok (.putfield 84, 3) := by decide +kernel
theorem dX2_endWell_26 : decode cX2_endWell 26 = .ok (.aload_n 1, 1) := by decide +kernel
theorem dX2_endWell_27 : decode cX2_endWell 27 = .ok (.getfield 69, 3) := by decide +kernel
theorem dX2_endWell_30 : decode cX2_endWell 30 = .ok (.ireturn, 1) := by decide +kernel
theorem dX2_endBadly_0 : decode cX2_endBadly 0 = .ok (.aload_n 1, 1) := by decide +kernel
theorem dX2_endBadly_1 : decode cX2_endBadly 1 = .ok (.invokevirtual 162, 3) := by decide +kernel
theorem dX2_endBadly_4 : decode cX2_endBadly 4 = .ok (.astore_n 2, 1) := by decide +kernel
theorem dX2_endBadly_5 : decode cX2_endBadly 5 = .ok (.aload_n 2, 1) := by decide +kernel
theorem dX2_endBadly_6 : decode cX2_endBadly 6 = .ok (.ifnonnull 5, 3) := by decide +kernel
theorem dX2_endBadly_9 : decode cX2_endBadly 9 = .ok (.iconst (-1), 1) := by decide +kernel
theorem dX2_endBadly_10 : decode cX2_endBadly 10 = .ok (.ireturn, 1) := by decide +kernel
theorem dX2_endBadly_11 : decode cX2_endBadly 11 = .ok (.aload_n 0, 1) := by decide +kernel
theorem dX2_endBadly_12 : decode cX2_endBadly 12 = .ok (.aload_n 1, 1) := by decide +kernel
theorem dX2_endBadly_13 : decode cX2_endBadly 13 = .ok (.aload_n 2, 1) := by decide +kernel
theorem dX2_endBadly_14 : decode cX2_endBadly 14 = .ok (.getfield 193, 3) := by decide +kernel
theorem dX2_endBadly_17 : decode cX2_endBadly 17 = .ok (.invokevirtual 174, 3) := by decide +kernel
theorem dX2_endBadly_20 : decode cX2_endBadly 20 = .ok (.aload_n 0, 1) := by decide +kernel
theorem dX2_endBadly_21 : decode cX2_endBadly 21 = .ok (.aload_n 1, 1) := by decide +kernel
theorem dX2_endBadly_22 : decode cX2_endBadly 22 = .ok (.aload_n 2, 1) := by decide +kernel
theorem dX2_endBadly_23 : decode cX2_endBadly 23 = .ok (.getfield 196, 3) := by decide +kernel
theorem dX2_endBadly_26 : decode cX2_endBadly 26 = .ok (.invokevirtual 199, 3) := by decide +kernel
theorem dX2_endBadly_29 : decode cX2_endBadly 29 = .ok (.aload_n 1, 1) := by decide +kernel
theorem dX2_endBadly_30 : decode cX2_endBadly 30 = .ok (.invokevirtual 187, 3) := by decide +kernel
theorem dX2_endBadly_33 : decode cX2_endBadly 33 = .ok (.aload_n 1, 1) := by decide +kernel
theorem dX2_endBadly_34 : decode cX2_endBadly 34 = .ok (.invokevirtual 162, 3) := by decide +kernel
theorem dX2_endBadly_37 : decode cX2_endBadly 37 = .ok (.astore_n 3, 1) := by decide +kernel
theorem dX2_endBadly_38 : decode cX2_endBadly 38 = .ok (.aload_n 3, 1) := by decide +kernel
theorem dX2_endBadly_39 : decode cX2_endBadly 39 = .ok (.ifnonnull 20, 3) := by decide +kernel
theorem dX2_endBadly_42 : decode cX2_endBadly 42 = .ok (.aload_n 0, 1) := by decide +kernel
theorem dX2_endBadly_43 : decode cX2_endBadly 43 = .ok (.aload_n 1, 1) := by decide +kernel
theorem dX2_endBadly_44 : decode cX2_endBadly 44 = .ok (.invokevirtual 190, 3) := by decide +kernel
theorem dX2_endBadly_47 : decode cX2_endBadly 47 = .ok (.aload_n 1, 1) := by decide +kernel
theorem dX2_endBadly_48 : decode cX2_endBadly 48 = .ok (.dup, 1) := by decide +kernel
theorem dX2_endBadly_49 : decode cX2_endBadly 49 = .ok (.getfield 87, 3) := by decide +kernel
theorem dX2_endBadly_52 : decode cX2_endBadly 52 = .ok (.iconst 1, 1) := by decide +kernel
theorem dX2_endBadly_53 : decode cX2_endBadly 53 = .ok (.iadd, 1) := by decide +kernel
theorem dX2_endBadly_54 : decode cX2_endBadly 54 = .ok (.putfield 87, 3) := by decide +kernel
theorem dX2_endBadly_57 : decode cX2_endBadly 57 = .ok (.iconst 0, 1) := by decide +kernel
theorem dX2_endBadly_58 : decode cX2_endBadly 58 = .ok (.ireturn, 1) := by decide +kernel
theorem dX2_endBadly_59 : decode cX2_endBadly 59 = .ok (.aload_n 0, 1) := by decide +kernel
theorem dX2_endBadly_60 : decode cX2_endBadly 60 = .ok (.aload_n 3, 1) := by decide +kernel
theorem dX2_endBadly_61 : decode cX2_endBadly 61 = .ok (.invokevirtual 202, 3) := by decide +kernel
theorem dX2_endBadly_64 : decode cX2_endBadly 64 = .ok (.ireturn, 1) := by decide +kernel
theorem dX2_doRegrets_0 : decode cX2_doRegrets 0 = .ok (.aload_n 1, 1) := by decide +kernel
theorem dX2_doRegrets_1 : decode cX2_doRegrets 1 = .ok (.getfield 159, 3) := by decide +kernel
theorem dX2_doRegrets_4 : decode cX2_doRegrets 4 = .ok (.getfield 75, 3) := by decide +kernel
theorem dX2_doRegrets_7 : decode cX2_doRegrets 7 = .ok (.iconst 1, 1) := by decide +kernel
theorem dX2_doRegrets_8 : decode cX2_doRegrets 8 = .ok (.isub, 1) := by decide +kernel
theorem dX2_doRegrets_9 : decode cX2_doRegrets 9 = .ok (.istore_n 3, 1) := by decide +kernel
theorem dX2_doRegrets_10 : decode cX2_doRegrets 10 = .ok (.iload_n 3, 1) := by decide +kernel
theorem dX2_doRegrets_11 : decode cX2_doRegrets 11 = .ok (.iload_n 2, 1) := by decide +kernel
theorem dX2_doRegrets_12 : decode cX2_doRegrets 12 = .ok (.if_icmp .lt 90, 3) := by decide +kernel
theorem dX2_doRegrets_15 : decode cX2_doRegrets 15 = .ok (.aload_n 1, 1) := by decide +kernel
theorem dX2_doRegrets_16 : decode cX2_doRegrets 16 = .ok (.getfield 159, 3) := by decide +kernel
theorem dX2_doRegrets_19 : decode cX2_doRegrets 19 = .ok (.iload_n 3, 1) := by decide +kernel
theorem dX2_doRegrets_20 : decode cX2_doRegrets 20 = .ok (.invokevirtual 65, 3) := by decide +kernel
theorem dX2_doRegrets_23 : decode cX2_doRegrets 23 = .ok (.istore 4, 2) := by decide +kernel
theorem dX2_doRegrets_25 : decode cX2_doRegrets 25 = .ok (.iload 4, 2) := by decide +kernel
theorem dX2_doRegrets_27 : decode cX2_doRegrets 27 = .ok (.bipush 100, 2) := by decide +kernel
theorem dX2_doRegrets_29 : decode cX2_doRegrets 29 = .ok (.idiv, 1) := by decide +kernel
theorem dX2_doRegrets_30 : decode cX2_doRegrets 30 = .ok (.istore 5, 2) := by decide +kernel
theorem dX2_doRegrets_32 : decode cX2_doRegrets 32 = .ok (.aload_n 0, 1) := by decide +kernel
theorem dX2_doRegrets_33 : decode cX2_doRegrets 33 = .ok (.getfield 14, 3) := by decide +kernel
theorem dX2_doRegrets_36 : decode cX2_doRegrets 36 = .ok (.iload 5, 2) := by decide +kernel
theorem dX2_doRegrets_38 : decode cX2_doRegrets 38 = .ok (.invokevirtual 65, 3) := by decide +kernel
theorem dX2_doRegrets_41 : decode cX2_doRegrets 41 = .ok (.istore 6, 2) := by decide +kernel
theorem dX2_doRegrets_43 : decode cX2_doRegrets 43 = .ok (.aload_n 1, 1) := by decide +kernel
theorem dX2_doRegrets_44 : decode cX2_doRegrets 44 = .ok (.getfield 69, 3) := by decide +kernel
theorem dX2_doRegrets_47 : decode cX2_doRegrets 47 = .ok (.iconst 1, 1) := by decide +kernel
theorem dX2_doRegrets_48 : decode cX2_doRegrets 48 = .ok (.if_icmp .le 18, 3) := by decide +kernel
theorem dX2_doRegrets_51 : decode cX2_doRegrets 51 = .ok (.aload_n 1, 1) := by decide +kernel
theorem dX2_doRegrets_52 : decode cX2_doRegrets 52 = .ok (.getfield 72, 3) := by decide +kernel
theorem dX2_doRegrets_55 : decode cX2_doRegrets 55 = .ok (.bipush 100, 2) := by decide +kernel
theorem dX2_doRegrets_57 : decode cX2_doRegrets 57 = .ok (.iload 5, 2) := by decide +kernel
theorem dX2_doRegrets_59 : decode cX2_doRegrets 59 = .ok (.imul, 1) := by decide +kernel
theorem dX2_doRegrets_60 : decode cX2_doRegrets 60 = .ok (.iload 6, 2) := by decide +kernel
theorem dX2_doRegrets_62 : decode cX2_doRegrets 62 = .ok (.iadd, 1) := by decide +kernel
theorem dX2_doRegrets_63 : decode cX2_doRegrets 63 = .ok (.invokevirtual 33, 3) := by decide +kernel
theorem dX2_doRegrets_66 : decode cX2_doRegrets 66 = .ok (.aload_n 0, 1) := by decide +kernel
theorem dX2_doRegrets_67 : decode cX2_doRegrets 67 = .ok (.getfield 14, 3) := by decide +kernel
theorem dX2_doRegrets_70 : decode cX2_doRegrets 70 = .ok (.iload 5, 2) := by decide +kernel
theorem dX2_doRegrets_72 : decode cX2_doRegrets 72 = .ok (.iload 6, 2) := by decide +kernel
theorem dX2_doRegrets_74 : decode cX2_doRegrets 74 = .ok (.iload 4, 2) := by decide +kernel
theorem dX2_doRegrets_76 : decode cX2_doRegrets 76 = .ok (.bipush 100, 2) := by decide +kernel
theorem dX2_doRegrets_78 : decode cX2_doRegrets 78 = .ok (.irem, 1) := by decide +kernel
theorem dX2_doRegrets_79 : decode cX2_doRegrets 79 = .ok (.iadd, 1) := by decide +kernel
theorem dX2_doRegrets_80 : decode cX2_doRegrets 80 = .ok (.bipush 100, 2) := by decide +kernel
theorem dX2_doRegrets_82 : decode cX2_doRegrets 82 = .ok (.irem, 1) := by decide +kernel
theorem dX2_doRegrets_83 : decode cX2_doRegrets 83 = .ok (.invokevirtual 39, 3) := by decide +kernel
theorem dX2_doRegrets_86 : decode cX2_doRegrets 86 = .ok (.aload_n 0, 1) := by decide +kernel
theorem dX2_doRegrets_87 : decode cX2_doRegrets 87 = .ok (.dup, 1) := by decide +kernel
theorem dX2_doRegrets_88 : decode cX2_doRegrets 88 = .ok (.getfield 55, 3) := by decide +kernel
theorem dX2_doRegrets_91 : decode cX2_doRegrets 91 = .ok (.iconst 1, 1) := by decide +kernel
theorem dX2_doRegrets_92 : decode cX2_doRegrets 92 = .ok (.iadd, 1) := by decide +kernel
theorem dX2_doRegrets_93 : decode cX2_doRegrets 93 = .ok (.putfield 55, 3) := by decide +kernel
theorem dX2_doRegrets_96 : decode cX2_doRegrets 96 = .ok (.iinc 3 (-1), 3) := by decide +kernel
theorem dX2_doRegrets_99 : decode cX2_doRegrets 99 = .ok (.goto (-89), 3) := by decide +kernel
theorem dX2_doRegrets_102 : decode cX2_doRegrets 102 = .ok (.aload_n 1, 1) := by decide +kernel
theorem dX2_doRegrets_103 : decode cX2_doRegrets 103 = .ok (.getfield 159, 3) := by decide +kernel
theorem dX2_doRegrets_106 : decode cX2_doRegrets 106 = .ok (.iload_n 2, 1) := by decide +kernel
theorem dX2_doRegrets_107 : decode cX2_doRegrets 107 = .ok (.invokevirtual 181, 3) := by decide +kernel
theorem dX2_doRegrets_110 : decode cX2_doRegrets 110 = .ok (.return_, 1) := by decide +kernel
theorem dX2_forgiveOrSpoil_0 : decode cX2_forgiveOrSpoil 0 = .ok (.aload_n 1, 1) := by decide +kernel
theorem dX2_forgiveOrSpoil_1 : decode cX2_forgiveOrSpoil 1 = .ok (.getfield 206, 3) := by decide +kernel
theorem dX2_forgiveOrSpoil_4 : decode cX2_forgiveOrSpoil 4 = .ok (.aload_n 0, 1) := by decide +kernel
theorem dX2_forgiveOrSpoil_5 : decode cX2_forgiveOrSpoil 5 = .ok (.getfield 29, 3) := by decide +kernel
theorem dX2_forgiveOrSpoil_8 : decode cX2_forgiveOrSpoil 8 = .ok (.if_icmp .ge 25, 3) := by decide +kernel
theorem dX2_forgiveOrSpoil_11 : decode cX2_forgiveOrSpoil 11 = .ok (.aload_n 1, 1) := by decide +kernel
theorem dX2_forgiveOrSpoil_12 : decode cX2_forgiveOrSpoil 12 = .ok (.dup, 1) := by decide +kernel
theorem dX2_forgiveOrSpoil_13 : decode cX2_forgiveOrSpoil 13 = .ok (.getfield 206, 3) := by decide +kernel
theorem dX2_forgiveOrSpoil_16 : decode cX2_forgiveOrSpoil 16 = .ok (.iconst 1, 1) := by decide +kernel
theorem dX2_forgiveOrSpoil_17 : decode cX2_forgiveOrSpoil 17 = .ok (.iadd, 1) := by decide +kernel
theorem dX2_forgiveOrSpoil_18 : decode cX2_forgiveOrSpoil 18 = .ok (.putfield 206, 3) := by decide +kernel
theorem dX2_forgiveOrSpoil_21 : decode cX2_forgiveOrSpoil 21 = .ok (.aload_n 0, 1) := by decide +kernel
theorem dX2_forgiveOrSpoil_22 : decode cX2_forgiveOrSpoil 22 = .ok (.dup, 1) := by decide +kernel
theorem dX2_forgiveOrSpoil_23 : decode cX2_forgiveOrSpoil 23 = .ok (.getfield 49, 3) := by decide +kernel
theorem dX2_forgiveOrSpoil_26 : decode cX2_forgiveOrSpoil 26 = .ok (.iconst 1, 1) := by decide +kernel
theorem dX2_forgiveOrSpoil_27 : decode cX2_forgiveOrSpoil 27 = .ok (.iadd, 1) := by decide +kernel
theorem dX2_forgiveOrSpoil_28 : decode cX2_forgiveOrSpoil 28 = .ok (.putfield 49, 3) := by decide +kernel
theorem dX2_forgiveOrSpoil_31 : decode cX2_forgiveOrSpoil 31 = .ok (.iconst 1, 1) := by decide +kernel
theorem dX2_forgiveOrSpoil_32 : decode cX2_forgiveOrSpoil 32 = .ok (.ireturn, 1) := by decide +kernel
theorem dX2_forgiveOrSpoil_33 : decode cX2_forgiveOrSpoil 33 = .ok (.aload_n 1, 1) := by decide +kernel
theorem dX2_forgiveOrSpoil_34 : decode cX2_forgiveOrSpoil 34 = .ok (.iconst 1, 1) := by decide +kernel
theorem dX2_forgiveOrSpoil_35 : decode cX2_forgiveOrSpoil 35 = .ok (.putfield 207, 3) := by decide +kernel
theorem dX2_forgiveOrSpoil_38 : decode cX2_forgiveOrSpoil 38 = .ok (.iconst 2, 1) := by decide +kernel
theorem dX2_forgiveOrSpoil_39 : decode cX2_forgiveOrSpoil 39 = .ok (.ireturn, 1) := by decide +kernel
theorem dX2_endAll_0 : decode cX2_endAll 0 = .ok (.aload_n 1, 1) := by decide +kernel
theorem dX2_endAll_1 : decode cX2_endAll 1 = .ok (.getfield 72, 3) := by decide +kernel
theorem dX2_endAll_4 : decode cX2_endAll 4 = .ok (.iconst 0, 1) := by decide +kernel
theorem dX2_endAll_5 : decode cX2_endAll 5 = .ok (.invokevirtual 181, 3) := by decide +kernel
theorem dX2_endAll_8 : decode cX2_endAll 8 = .ok (.aload_n 1, 1) := by decide +kernel
theorem dX2_endAll_9 : decode cX2_endAll 9 = .ok (.getfield 159, 3) := by decide +kernel
theorem dX2_endAll_12 : decode cX2_endAll 12 = .ok (.iconst 0, 1) := by decide +kernel
theorem dX2_endAll_13 : decode cX2_endAll 13 = .ok (.invokevirtual 181, 3) := by decide +kernel
theorem dX2_endAll_16 : decode cX2_endAll 16 = .ok (.iconst 0, 1) := by decide +kernel
theorem dX2_endAll_17 : decode cX2_endAll 17 = .ok (.istore_n 2, 1) := by decide +kernel
theorem dX2_endAll_18 : decode cX2_endAll 18 = .ok (.iload_n 2, 1) := by decide +kernel
theorem dX2_endAll_19 : decode cX2_endAll 19 = .ok (.bipush 16, 2) := by decide +kernel
theorem dX2_endAll_21 : decode cX2_endAll 21 = .ok (.if_icmp .ge 33, 3) := by decide +kernel
theorem dX2_endAll_24 : decode cX2_endAll 24 = .ok (.aload_n 0, 1) := by decide +kernel
theorem dX2_endAll_25 : decode cX2_endAll 25 = .ok (.getfield 20, 3) := by decide +kernel
theorem dX2_endAll_28 : decode cX2_endAll 28 = .ok (.iload_n 2, 1) := by decide +kernel
theorem dX2_endAll_29 : decode cX2_endAll 29 = .ok (.invokevirtual 65, 3) := by decide +kernel
theorem dX2_endAll_32 : decode cX2_endAll 32 = .ok (.aload_n 1, 1) := by decide +kernel
theorem dX2_endAll_33 : decode cX2_endAll 33 = .ok (.getfield 78, 3) := by decide +kernel
theorem dX2_endAll_36 : decode cX2_endAll 36 = .ok (.if_icmp .ne 12, 3) := by decide +kernel
theorem dX2_endAll_39 : decode cX2_endAll 39 = .ok (.aload_n 0, 1) := by decide +kernel
theorem dX2_endAll_40 : decode cX2_endAll 40 = .ok (.getfield 20, 3) := by decide +kernel
theorem dX2_endAll_43 : decode cX2_endAll 43 = .ok (.iload_n 2, 1) := by decide +kernel
theorem dX2_endAll_44 : decode cX2_endAll 44 = .ok (.iconst (-1), 1) := by decide +kernel
theorem dX2_endAll_45 : decode cX2_endAll 45 = .ok (.invokevirtual 39, 3) := by decide +kernel
theorem dX2_endAll_48 : decode cX2_endAll 48 = .ok (.iinc 2 1, 3) := by decide +kernel
theorem dX2_endAll_51 : decode cX2_endAll 51 = .ok (.goto (-33), 3) := by decide +kernel
theorem dX2_endAll_54 : decode cX2_endAll 54 = .ok (.return_, 1) := by decide +kernel
end
section
theorem dX5_init_0 : decode cX5_init 0 = .ok (.aload_n 0, 1) := by decide +kernel
theorem dX5_init_1 : decode cX5_init 1 = .ok (.invokespecial 1, 3) := by decide +kernel
theorem dX5_init_4 : decode cX5_init 4 = .ok (.aload_n 0, 1) := by decide +kernel
theorem dX5_init_5 : decode cX5_init 5 = .ok (.new 7, 3) := by decide +kernel
theorem dX5_init_8 : decode cX5_init 8 = .ok (.dup, 1) := by decide +kernel
theorem dX5_init_9 : decode cX5_init 9 = .ok (.bipush 120, 2) := by decide +kernel
theorem dX5_init_11 : decode cX5_init 11 = .ok (.bipush 120, 2) := by decide +kernel
theorem dX5_init_13 : decode cX5_init 13 = .ok (.invokespecial 11, 3) := by decide +kernel
theorem dX5_init_16 : decode cX5_init 16 = .ok (.putfield 14, 3) := by decide +kernel
theorem dX5_init_19 : decode cX5_init 19 = .ok (.aload_n 0, 1) := by decide +kernel
theorem dX5_init_20 : decode cX5_init 20 = .ok (.new 18, 3) := by decide +kernel
theorem dX5_init_23 : decode cX5_init 23 = .ok (.dup, 1) := by decide +kernel
theorem dX5_init_24 : decode cX5_init 24 = .ok (.invokespecial 20, 3) := by decide +kernel
theorem dX5_init_27 : decode cX5_init 27 = .ok (.putfield 21, 3) := by decide +kernel
theorem dX5_init_30 : decode cX5_init 30 = .ok (.aload_n 0, 1) := by decide +kernel
theorem dX5_init_31 : decode cX5_init 31 = .ok (.new 18, 3) := by decide +kernel
theorem dX5_init_34 : decode cX5_init 34 = .ok (.dup, 1) := by decide +kernel
theorem dX5_init_35 : decode cX5_init 35 = .ok (.invokespecial 20, 3) := by decide +kernel
theorem dX5_init_38 : decode cX5_init 38 = .ok (.putfield 25, 3) := by decide +kernel
theorem dX5_init_41 : decode cX5_init 41 = .ok (.aload_n 0, 1) := by decide +kernel
theorem dX5_init_42 : decode cX5_init 42 = .ok (.new 28, 3) := by decide +kernel
theorem dX5_init_45 : decode cX5_init 45 = .ok (.dup, 1) := by decide +kernel
theorem dX5_init_46 : decode cX5_init 46 = .ok (.invokespecial 30, 3) := by decide +kernel
theorem dX5_init_49 : decode cX5_init 49 = .ok (.putfield 31, 3) := by decide +kernel
theorem dX5_init_52 : decode cX5_init 52 = .ok (.aload_n 0, 1) := by decide +kernel
theorem dX5_init_53 : decode cX5_init 53 = .ok (.iconst 2, 1) := by decide +kernel
theorem dX5_init_54 : decode cX5_init 54 = .ok (.anewarray 18, 3) := by decide +kernel
theorem dX5_init_57 : decode cX5_init 57 = .ok (.putfield 35, 3) := by decide +kernel
theorem dX5_init_60 : decode cX5_init 60 = .ok (.aload_n 0, 1) := by decide +kernel
theorem dX5_init_61 : decode cX5_init 61 = .ok (.iconst 2, 1) := by decide +kernel
theorem dX5_init_62 : decode cX5_init 62 = .ok (.newarray .boolean, 2) := by decide +kernel
theorem dX5_init_64 : decode cX5_init 64 = .ok (.putfield 39, 3) := by decide +kernel
theorem dX5_init_67 : decode cX5_init 67 = .ok (.return_, 1) := by decide +kernel
theorem dX5_append_0 : decode cX5_append 0 = .ok (.iload_n 1, 1) := by decide +kernel
theorem dX5_append_1 : decode cX5_append 1 = .ok (.ifCond .lt 10, 3) := by decide +kernel
theorem dX5_append_4 : decode cX5_append 4 = .ok (.iload_n 1, 1) := by decide +kernel
theorem dX5_append_5 : decode cX5_append 5 = .ok (.sipush 255, 3) := by decide +kernel
theorem dX5_append_8 : decode cX5_append 8 = .ok (.if_icmp .le 13, 3) := by decide +kernel
theorem dX5_append_11 : decode cX5_append 11 = .ok (.new 43, 3) := by decide +kernel
theorem dX5_append_14 : decode cX5_append 14 = .ok (.dup, 1) := by decide +kernel
theorem dX5_append_15 : decode cX5_append 15 = .ok (.ldc 45, 2) := by decide +kernel
theorem dX5_append_17 : decode cX5_append 17 = .ok (.invokespecial 47, 3) := by decide +kernel
theorem dX5_append_20 : decode cX5_append 20 = .ok (.athrow, 1) := by decide +kernel
theorem dX5_append_21 : decode cX5_append 21 = .ok (.aload_n 0, 1) := by decide +kernel
theorem dX5_append_22 : decode cX5_append 22 = .ok (.getfield 14, 3) := by decide +kernel
theorem dX5_append_25 : decode cX5_append 25 = .ok (.getfield 50, 3) := by decide +kernel
theorem dX5_append_28 : decode cX5_append 28 = .ok (.bipush 120, 2) := by decide +kernel
theorem dX5_append_30 : decode cX5_append 30 = .ok (.if_icmp .lt 13, 3) := by decide +kernel
theorem dX5_append_33 : decode cX5_append 33 = .ok (.new 54, 3) := by decide +kernel
theorem dX5_append_36 : decode cX5_append 36 = .ok (.dup, 1) := by decide +kernel
theorem dX5_append_37 : decode cX5_append 37 = .ok (.ldc 56, 2) := by decide +kernel
theorem dX5_append_39 : decode cX5_append 39 = .ok (.invokespecial 58, 3) := by decide +kernel
theorem dX5_append_42 : decode cX5_append 42 = .ok (.athrow, 1) := by decide +kernel
theorem dX5_append_43 : decode cX5_append 43 = .ok (.aload_n 0, 1) := by decide +kernel
theorem dX5_append_44 : decode cX5_append 44 = .ok (.getfield 14, 3) := by decide +kernel
theorem dX5_append_47 : decode cX5_append 47 = .ok (.iload_n 1, 1) := by decide +kernel
theorem dX5_append_48 : decode cX5_append 48 = .ok (.invokevirtual 59, 3) := by decide +kernel
theorem dX5_append_51 : decode cX5_append 51 = .ok (.aload_n 0, 1) := by decide +kernel
theorem dX5_append_52 : decode cX5_append 52 = .ok (.getfield 14, 3) := by decide +kernel
theorem dX5_append_55 : decode cX5_append 55 = .ok (.getfield 50, 3) := by decide +kernel
theorem dX5_append_58 : decode cX5_append 58 = .ok (.ireturn, 1) := by decide +kernel
theorem dX5_clearText_0 : decode cX5_clearText 0 = .ok (.aload_n 0, 1) := by decide +kernel
theorem dX5_clearText_1 : decode cX5_clearText 1 = .ok (.getfield 14, 3) := by decide +kernel
theorem dX5_clearText_4 : decode cX5_clearText 4 = .ok (.getfield 50, 3) := by decide +kernel
theorem dX5_clearText_7 : decode cX5_clearText 7 = .ok (.istore_n 1, 1) := by decide +kernel
theorem dX5_clearText_8 : decode cX5_clearText 8 = .ok (.aload_n 0, 1) := by decide +kernel
theorem dX5_clearText_9 : decode cX5_clearText 9 = .ok (.getfield 14, 3) := by decide +kernel
theorem dX5_clearText_12 : decode cX5_clearText 12 = .ok (.iconst 0, 1) := by decide +kernel
theorem dX5_clearText_13 : decode cX5_clearText 13 = .ok (.invokevirtual 63, 3) := by decide +kernel
theorem dX5_clearText_16 : decode cX5_clearText 16 = .ok (.iload_n 1, 1) := by decide +kernel
theorem dX5_clearText_17 : decode cX5_clearText 17 = .ok (.ireturn, 1) := by decide +kernel
theorem dX5_errorPosition_0 : decode cX5_errorPosition 0 = .ok (.aload_n 0, 1) := by decide +kernel
theorem dX5_errorPosition_1 : decode cX5_errorPosition 1 = .ok (.getfield 14, 3) := by decide +kernel
theorem dX5_errorPosition_4 : decode cX5_errorPosition 4 = .ok (.iconst 0, 1) := by decide +kernel
theorem dX5_errorPosition_5 : decode cX5_errorPosition 5 = .ok (.invokevirtual 66, 3) := by decide +kernel
theorem dX5_errorPosition_8 : decode cX5_errorPosition 8 = .ok (.bipush 87, 2) := by decide +kernel
theorem dX5_errorPosition_10 : decode cX5_errorPosition 10 = .ok (.if_icmp .eq 5, 3) := by decide +kernel
theorem dX5_errorPosition_13 : decode cX5_errorPosition 13 = .ok (.iconst 0, 1) := by decide +kernel
theorem dX5_errorPosition_14 : decode cX5_errorPosition 14 = .ok (.ireturn, 1) := by decide +kernel
theorem dX5_errorPosition_15 : decode cX5_errorPosition 15 = .ok (.iconst 1, 1) := by decide +kernel
theorem dX5_errorPosition_16 : decode cX5_errorPosition 16 = .ok (.istore_n 1, 1) := by decide +kernel
theorem dX5_errorPosition_17 : decode cX5_errorPosition 17 = .ok (.iload_n 1, 1) := by decide +kernel
theorem dX5_errorPosition_18 : decode cX5_errorPosition 18 = .ok (.aload_n 0, 1) := by decide +kernel
theorem dX5_errorPosition_19 : decode cX5_errorPosition 19 = .ok (.getfield 14, 3) := by decide +kernel
theorem dX5_errorPosition_22 : decode cX5_errorPosition 22 = .ok (.getfield 50, 3) := by decide +kernel
theorem dX5_errorPosition_25 : decode cX5_errorPosition 25 = .ok (.if_icmp .ge 51, 3) := by decide +kernel
theorem dX5_errorPosition_28 : decode cX5_errorPosition 28 = .ok (.aload_n 0, 1) := by decide +kernel
theorem dX5_errorPosition_29 : decode cX5_errorPosition 29 = .ok (.getfield 14, 3) := by decide +kernel
theorem dX5_errorPosition_32 : decode cX5_errorPosition 32 = .ok (.iload_n 1, 1) := by decide +kernel
theorem dX5_errorPosition_33 : decode cX5_errorPosition 33 = .ok (.invokevirtual 66, 3) := by decide +kernel
theorem dX5_errorPosition_36 : decode cX5_errorPosition 36 = .ok (.invokestatic 70, 3) := by decide +kernel
theorem dX5_errorPosition_39 : decode cX5_errorPosition 39 = .ok (.astore_n 2, 1) := by decide +kernel
theorem dX5_errorPosition_40 : decode cX5_errorPosition 40 = .ok (.aload_n 2, 1) := by decide +kernel
theorem dX5_errorPosition_41 : decode cX5_errorPosition 41 = .ok (.invokevirtual 74, 3) := by decide +kernel
theorem dX5_errorPosition_44 : decode cX5_errorPosition 44 = .ok (.ifCond .eq 5, 3) := by decide +kernel
theorem dX5_errorPosition_47 : decode cX5_errorPosition 47 = .ok (.iload_n 1, 1) := by decide +kernel
theorem dX5_errorPosition_48 : decode cX5_errorPosition 48 = .ok (.ireturn, 1) := by decide +kernel
theorem dX5_errorPosition_49 : decode cX5_errorPosition 49 = .ok (.iinc 1 1, 3) := by decide +kernel
theorem dX5_errorPosition_52 : decode cX5_errorPosition 52 = .ok (.aload_n 0, 1) := by decide +kernel
theorem dX5_errorPosition_53 : decode cX5_errorPosition 53 = .ok (.iload_n 1, 1) := by decide +kernel
theorem dX5_errorPosition_54 : decode cX5_errorPosition 54 = .ok (.aload_n 2, 1) := by decide +kernel
theorem dX5_errorPosition_55 : decode cX5_errorPosition 55 = .ok (.invokevirtual 80, 3) := by decide +kernel
theorem dX5_errorPosition_58 : decode cX5_errorPosition 58 = .ok (.istore_n 3, 1) := by decide +kernel
theorem dX5_errorPosition_59 : decode cX5_errorPosition 59 = .ok (.iload_n 1, 1) := by decide +kernel
theorem dX5_errorPosition_60 : decode cX5_errorPosition 60 = .ok (.iload_n 3, 1) := by decide +kernel
theorem dX5_errorPosition_61 : decode cX5_errorPosition 61 = .ok (.iadd, 1) := by decide +kernel
theorem dX5_errorPosition_62 : decode cX5_errorPosition 62 = .ok (.istore_n 1, 1) := by decide +kernel
theorem dX5_errorPosition_63 : decode cX5_errorPosition 63 = .ok (.iload_n 3, 1) := by decide +kernel
theorem dX5_errorPosition_64 : decode cX5_errorPosition 64 = .ok (.aload_n 2, 1) := by decide +kernel
theorem dX5_errorPosition_65 : decode cX5_errorPosition 65 = .ok (.invokevirtual 84, 3) := by decide +kernel
theorem dX5_errorPosition_68 : decode cX5_errorPosition 68 = .ok (.if_icmp .ge 5, 3) := by decide +kernel
theorem dX5_errorPosition_71 : decode cX5_errorPosition 71 = .ok (.iload_n 1, 1) := by decide +kernel
theorem dX5_errorPosition_72 : decode cX5_errorPosition 72 = .ok (.ireturn, 1) := by decide +kernel
theorem dX5_errorPosition_73 : decode cX5_errorPosition 73 = .ok (.goto (-56), 3) := by decide +kernel
theorem dX5_errorPosition_76 : decode cX5_errorPosition 76 = .ok (.iconst (-1), 1) := by decide +kernel
theorem dX5_errorPosition_77 : decode cX5_errorPosition 77 = .ok (.ireturn, 1) := by decide +kernel
theorem dX5_load_0 : decode cX5_load 0 = .ok (.aload_n 0, 1) := by decide +kernel
theorem dX5_load_1 : decode cX5_load 1 = .ok (.invokevirtual 88, 3) := by decide +kernel
theorem dX5_load_4 : decode cX5_load 4 = .ok (.iconst (-1), 1) := by decide +kernel
theorem dX5_load_5 : decode cX5_load 5 = .ok (.if_icmp .eq 13, 3) := by decide +kernel
theorem dX5_load_8 : decode cX5_load 8 = .ok (.new 54, 3) := by decide +kernel
theorem dX5_load_11 : decode cX5_load 11 = .ok (.dup, 1) := by decide +kernel
theorem dX5_load_12 : decode cX5_load 12 = .ok (.ldc 91, 2) := by decide +kernel
theorem dX5_load_14 : decode cX5_load 14 = .ok (.invokespecial 58, 3) := by decide +kernel
theorem dX5_load_17 : decode cX5_load 17 = .ok (.athrow, 1) := by decide +kernel
theorem dX5_load_18 : decode cX5_load 18 = .ok (.aload_n 0, 1) := by decide +kernel
theorem dX5_load_19 : decode cX5_load 19 = .ok (.getfield 21, 3) := by decide +kernel
theorem dX5_load_22 : decode cX5_load 22 = .ok (.invokevirtual 93, 3) := by decide +kernel
theorem dX5_load_25 : decode cX5_load 25 = .ok (.aload_n 0, 1) := by decide +kernel
theorem dX5_load_26 : decode cX5_load 26 = .ok (.getfield 31, 3) := by decide +kernel
theorem dX5_load_29 : decode cX5_load 29 = .ok (.invokevirtual 96, 3) := by decide +kernel
theorem dX5_load_32 : decode cX5_load 32 = .ok (.aload_n 0, 1) := by decide +kernel
theorem dX5_load_33 : decode cX5_load 33 = .ok (.invokevirtual 99, 3) := by decide +kernel
theorem dX5_load_36 : decode cX5_load 36 = .ok (.iconst 0, 1) := by decide +kernel
theorem dX5_load_37 : decode cX5_load 37 = .ok (.istore_n 1, 1) := by decide +kernel
theorem dX5_load_38 : decode cX5_load 38 = .ok (.iconst 1, 1) := by decide +kernel
theorem dX5_load_39 : decode cX5_load 39 = .ok (.istore_n 2, 1) := by decide +kernel
theorem dX5_load_40 : decode cX5_load 40 = .ok (.iload_n 2, 1) := by decide +kernel
theorem dX5_load_41 : decode cX5_load 41 = .ok (.aload_n 0, 1) := by decide +kernel
theorem dX5_load_42 : decode cX5_load 42 = .ok (.getfield 14, 3) := by decide +kernel
theorem dX5_load_45 : decode cX5_load 45 = .ok (.getfield 50, 3) := by decide +kernel
theorem dX5_load_48 : decode cX5_load 48 = .ok (.if_icmp .ge 36, 3) := by decide +kernel
theorem dX5_load_51 : decode cX5_load 51 = .ok (.aload_n 0, 1) := by decide +kernel
theorem dX5_load_52 : decode cX5_load 52 = .ok (.iload_n 2, 1) := by decide +kernel
theorem dX5_load_53 : decode cX5_load 53 = .ok (.invokevirtual 102, 3) := by decide +kernel
theorem dX5_load_56 : decode cX5_load 56 = .ok (.ifCond .ne 6, 3) := by decide +kernel
theorem dX5_load_59 : decode cX5_load 59 = .ok (.iinc 1 1, 3) := by decide +kernel
theorem dX5_load_62 : decode cX5_load 62 = .ok (.iload_n 2, 1) := by decide +kernel
theorem dX5_load_63 : decode cX5_load 63 = .ok (.iconst 1, 1) := by decide +kernel
theorem dX5_load_64 : decode cX5_load 64 = .ok (.aload_n 0, 1) := by decide +kernel
theorem dX5_load_65 : decode cX5_load 65 = .ok (.getfield 14, 3) := by decide +kernel
theorem dX5_load_68 : decode cX5_load 68 = .ok (.iload_n 2, 1) := by decide +kernel
theorem dX5_load_69 : decode cX5_load 69 = .ok (.invokevirtual 66, 3) := by decide +kernel
theorem dX5_load_72 : decode cX5_load 72 = .ok (.invokestatic 70, 3) := by decide +kernel
theorem dX5_load_75 : decode cX5_load 75 = .ok (.invokevirtual 84, 3) := by decide +kernel
theorem dX5_load_78 : decode cX5_load 78 = .ok (.iadd, 1) := by decide +kernel
theorem dX5_load_79 : decode cX5_load 79 = .ok (.iadd, 1) := by decide +kernel
theorem dX5_load_80 : decode cX5_load 80 = .ok (.istore_n 2, 1) := by decide +kernel
theorem dX5_load_81 : decode cX5_load 81 = .ok (.goto (-41), 3) := by decide +kernel
theorem dX5_load_84 : decode cX5_load 84 = .ok (.iload_n 1, 1) := by decide +kernel
theorem dX5_load_85 : decode cX5_load 85 = .ok (.ireturn, 1) := by decide +kernel
theorem dX5_about_0 : decode cX5_about 0 = .ok (.iload_n 1, 1) := by decide +kernel
theorem dX5_about_1 : decode cX5_about 1 = .ok (.tableswitch 140 0 9 #[55, 63, 72, 81, 90, 99, 107, 116, 124, 132], 55) := by decide +kernel
theorem dX5_about_56 : decode cX5_about 56 = .ok (.aload_n 0, 1) := by decide +kernel
theorem dX5_about_57 : decode cX5_about 57 = .ok (.getfield 21, 3) := by decide +kernel
theorem dX5_about_60 : decode cX5_about 60 = .ok (.invokevirtual 106, 3) := by decide +kernel
theorem dX5_about_63 : decode cX5_about 63 = .ok (.ireturn, 1) := by decide +kernel
theorem dX5_about_64 : decode cX5_about 64 = .ok (.aload_n 0, 1) := by decide +kernel
theorem dX5_about_65 : decode cX5_about 65 = .ok (.getfield 21, 3) := by decide +kernel
theorem dX5_about_68 : decode cX5_about 68 = .ok (.iconst 2, 1) := by decide +kernel
theorem dX5_about_69 : decode cX5_about 69 = .ok (.invokevirtual 109, 3) := by decide +kernel
theorem dX5_about_72 : decode cX5_about 72 = .ok (.ireturn, 1) := by decide +kernel
theorem dX5_about_73 : decode cX5_about 73 = .ok (.aload_n 0, 1) := by decide +kernel
theorem dX5_about_74 : decode cX5_about 74 = .ok (.getfield 21, 3) := by decide +kernel
theorem dX5_about_77 : decode cX5_about 77 = .ok (.iconst 0, 1) := by decide +kernel
theorem dX5_about_78 : decode cX5_about 78 = .ok (.invokevirtual 109, 3) := by decide +kernel
theorem dX5_about_81 : decode cX5_about 81 = .ok (.ireturn, 1) := by decide +kernel
theorem dX5_about_82 : decode cX5_about 82 = .ok (.aload_n 0, 1) := by decide +kernel
theorem dX5_about_83 : decode cX5_about 83 = .ok (.getfield 21, 3) := by decide +kernel
theorem dX5_about_86 : decode cX5_about 86 = .ok (.iconst 3, 1) := by decide +kernel
theorem dX5_about_87 : decode cX5_about 87 = .ok (.invokevirtual 109, 3) := by decide +kernel
theorem dX5_about_90 : decode cX5_about 90 = .ok (.ireturn, 1) := by decide +kernel
theorem dX5_about_91 : decode cX5_about 91 = .ok (.aload_n 0, 1) := by decide +kernel
theorem dX5_about_92 : decode cX5_about 92 = .ok (.getfield 21, 3) := by decide +kernel
theorem dX5_about_95 : decode cX5_about 95 = .ok (.iconst 4, 1) := by decide +kernel
theorem dX5_about_96 : decode cX5_about 96 = .ok (.invokevirtual 109, 3) := by decide +kernel
theorem dX5_about_99 : decode cX5_about 99 = .ok (.ireturn, 1) := by decide +kernel
theorem dX5_about_100 : decode cX5_about 100 = .ok (.aload_n 0, 1) := by decide +kernel
theorem dX5_about_101 : decode cX5_about 101 = .ok (.getfield 21, 3) := by decide +kernel
theorem dX5_about_104 : decode cX5_about 104 = .ok (.getfield 112, 3) := by decide +kernel
theorem dX5_about_107 : decode cX5_about 107 = .ok (.ireturn, 1) := by decide +kernel
theorem dX5_about_108 : decode cX5_about 108 = .ok (.aload_n 0, 1) := by decide +kernel
theorem dX5_about_109 : decode cX5_about 109 = .ok (.getfield 21, 3) := by decide +kernel
theorem dX5_about_112 : decode cX5_about 112 = .ok (.iconst 5, 1) := by decide +kernel
theorem dX5_about_113 : decode cX5_about 113 = .ok (.invokevirtual 109, 3) := by decide +kernel
theorem dX5_about_116 : decode cX5_about 116 = .ok (.ireturn, 1) := by decide +kernel
theorem dX5_about_117 : decode cX5_about 117 = .ok (.aload_n 0, 1) := by decide +kernel
theorem dX5_about_118 : decode cX5_about 118 = .ok (.getfield 21, 3) := by decide +kernel
theorem dX5_about_121 : decode cX5_about 121 = .ok (.getfield 115, 3) := by decide +kernel
theorem dX5_about_124 : decode cX5_about 124 = .ok (.ireturn, 1) := by decide +kernel
theorem dX5_about_125 : decode cX5_about 125 = .ok (.aload_n 0, 1) := by decide +kernel
theorem dX5_about_126 : decode cX5_about 126 = .ok (.getfield 21, 3) := by decide +kernel
theorem dX5_about_129 : decode cX5_about 129 = .ok (.getfield 118, 3) := by decide +kernel
theorem dX5_about_132 : decode cX5_about 132 = .ok (.ireturn, 1) := by decide +kernel
theorem dX5_about_133 : decode cX5_about 133 = .ok (.aload_n 0, 1) := by decide +kernel
theorem dX5_about_134 : decode cX5_about 134 = .ok (.getfield 21, 3) := by decide +kernel
theorem dX5_about_137 : decode cX5_about 137 = .ok (.getfield 121, 3) := by decide +kernel
theorem dX5_about_140 : decode cX5_about 140 = .ok (.ireturn, 1) := by decide +kernel
theorem dX5_about_141 : decode cX5_about 141 = .ok (.new 43, 3) := by decide +kernel
theorem dX5_about_144 : decode cX5_about 144 = .ok (.dup, 1) := by decide +kernel
theorem dX5_about_145 : decode cX5_about 145 = .ok (.ldc 124, 2) := by decide +kernel
theorem dX5_about_147 : decode cX5_about 147 = .ok (.invokespecial 47, 3) := by decide +kernel
theorem dX5_about_150 : decode cX5_about 150 = .ok (.athrow, 1) := by decide +kernel
theorem dX5_cell_0 : decode cX5_cell 0 = .ok (.iload_n 1, 1) := by decide +kernel
theorem dX5_cell_1 : decode cX5_cell 1 = .ok (.invokestatic 126, 3) := by decide +kernel
theorem dX5_cell_4 : decode cX5_cell 4 = .ok (.iload_n 2, 1) := by decide +kernel
theorem dX5_cell_5 : decode cX5_cell 5 = .ok (.tableswitch 60 0 2 #[27, 39, 51], 27) := by decide +kernel
theorem dX5_cell_32 : decode cX5_cell 32 = .ok (.aload_n 0, 1) := by decide +kernel
theorem dX5_cell_33 : decode cX5_cell 33 = .ok (.getfield 21, 3) := by decide +kernel
theorem dX5_cell_36 : decode cX5_cell 36 = .ok (.getfield 129, 3) := by decide +kernel
theorem dX5_cell_39 : decode cX5_cell 39 = .ok (.iload_n 1, 1) := by decide +kernel
theorem dX5_cell_40 : decode cX5_cell 40 = .ok (.invokevirtual 66, 3) := by decide +kernel
theorem dX5_cell_43 : decode cX5_cell 43 = .ok (.ireturn, 1) := by decide +kernel
theorem dX5_cell_44 : decode cX5_cell 44 = .ok (.aload_n 0, 1) := by decide +kernel
theorem dX5_cell_45 : decode cX5_cell 45 = .ok (.getfield 21, 3) := by decide +kernel
theorem dX5_cell_48 : decode cX5_cell 48 = .ok (.getfield 132, 3) := by decide +kernel
theorem dX5_cell_51 : decode cX5_cell 51 = .ok (.iload_n 1, 1) := by decide +kernel
theorem dX5_cell_52 : decode cX5_cell 52 = .ok (.invokevirtual 66, 3) := by decide +kernel
theorem dX5_cell_55 : decode cX5_cell 55 = .ok (.ireturn, 1) := by decide +kernel
theorem dX5_cell_56 : decode cX5_cell 56 = .ok (.aload_n 0, 1) := by decide +kernel
theorem dX5_cell_57 : decode cX5_cell 57 = .ok (.getfield 21, 3) := by decide +kernel
theorem dX5_cell_60 : decode cX5_cell 60 = .ok (.iload_n 1, 1) := by decide +kernel
theorem dX5_cell_61 : decode cX5_cell 61 = .ok (.invokevirtual 135, 3) := by decide +kernel
theorem dX5_cell_64 : decode cX5_cell 64 = .ok (.ireturn, 1) := by decide +kernel
theorem dX5_cell_65 : decode cX5_cell 65 = .ok (.new 43, 3) := by decide +kernel
theorem dX5_cell_68 : decode cX5_cell 68 = .ok (.dup, 1) := by decide +kernel
theorem dX5_cell_69 : decode cX5_cell 69 = .ok (.ldc 138, 2) := by decide +kernel
theorem dX5_cell_71 : decode cX5_cell 71 = .ok (.invokespecial 47, 3) := by decide +kernel
theorem dX5_cell_74 : decode cX5_cell 74 = .ok (.athrow, 1) := by decide +kernel
theorem dX5_worker_0 : decode cX5_worker 0 = .ok (.aload_n 0, 1) := by decide +kernel
theorem dX5_worker_1 : decode cX5_worker 1 = .ok (.iload_n 1, 1) := by decide +kernel
theorem dX5_worker_2 : decode cX5_worker 2 = .ok (.invokevirtual 140, 3) := by decide +kernel
theorem dX5_worker_5 : decode cX5_worker 5 = .ok (.astore_n 3, 1) := by decide +kernel
theorem dX5_worker_6 : decode cX5_worker 6 = .ok (.iload_n 2, 1) := by decide +kernel
theorem dX5_worker_7 : decode cX5_worker 7 = .ok (.ifCond .lt 8, 3) := by decide +kernel
theorem dX5_worker_10 : decode cX5_worker 10 = .ok (.iload_n 2, 1) := by decide +kernel
theorem dX5_worker_11 : decode cX5_worker 11 = .ok (.iconst 5, 1) := by decide +kernel
theorem dX5_worker_12 : decode cX5_worker 12 = .ok (.if_icmp .le 13, 3) := by decide +kernel
theorem dX5_worker_15 : decode cX5_worker 15 = .ok (.new 43, 3) := by decide +kernel
theorem dX5_worker_18 : decode cX5_worker 18 = .ok (.dup, 1) := by decide +kernel
theorem dX5_worker_19 : decode cX5_worker 19 = .ok (.ldc 144, 2) := by decide +kernel
theorem dX5_worker_21 : decode cX5_worker 21 = .ok (.invokespecial 47, 3) := by decide +kernel
theorem dX5_worker_24 : decode cX5_worker 24 = .ok (.athrow, 1) := by decide +kernel
theorem dX5_worker_25 : decode cX5_worker 25 = .ok (.aload_n 0, 1) := by decide +kernel
theorem dX5_worker_26 : decode cX5_worker 26 = .ok (.getfield 21, 3) := by decide +kernel
theorem dX5_worker_29 : decode cX5_worker 29 = .ok (.aload_n 3, 1) := by decide +kernel
theorem dX5_worker_30 : decode cX5_worker 30 = .ok (.iload_n 2, 1) := by decide +kernel
theorem dX5_worker_31 : decode cX5_worker 31 = .ok (.invokevirtual 146, 3) := by decide +kernel
theorem dX5_worker_34 : decode cX5_worker 34 = .ok (.ireturn, 1) := by decide +kernel
theorem dX5_work_0 : decode cX5_work 0 = .ok (.aload_n 0, 1) := by decide +kernel
theorem dX5_work_1 : decode cX5_work 1 = .ok (.iload_n 1, 1) := by decide +kernel
theorem dX5_work_2 : decode cX5_work 2 = .ok (.invokevirtual 140, 3) := by decide +kernel
theorem dX5_work_5 : decode cX5_work 5 = .ok (.astore 4, 2) := by decide +kernel
theorem dX5_work_7 : decode cX5_work 7 = .ok (.aload 4, 2) := by decide +kernel
theorem dX5_work_9 : decode cX5_work 9 = .ok (.iload_n 2, 1) := by decide +kernel
theorem dX5_work_10 : decode cX5_work 10 = .ok (.invokevirtual 150, 3) := by decide +kernel
theorem dX5_work_13 : decode cX5_work 13 = .ok (.astore 5, 2) := by decide +kernel
theorem dX5_work_15 : decode cX5_work 15 = .ok (.aload 5, 2) := by decide +kernel
theorem dX5_work_17 : decode cX5_work 17 = .ok (.ifnonnull 13, 3) := by decide +kernel
theorem dX5_work_20 : decode cX5_work 20 = .ok (.new 156, 3) := by decide +kernel
theorem dX5_work_23 : decode cX5_work 23 = .ok (.dup, 1) := by decide +kernel
theorem dX5_work_24 : decode cX5_work 24 = .ok (.ldc 158, 2) := by decide +kernel
theorem dX5_work_26 : decode cX5_work 26 = .ok (.invokespecial 160, 3) := by decide +kernel
theorem dX5_work_29 : decode cX5_work 29 = .ok (.athrow, 1) := by decide +kernel
theorem dX5_work_30 : decode cX5_work 30 = .ok (.iload_n 3, 1) := by decide +kernel
theorem dX5_work_31 : decode cX5_work 31 = .ok (.tableswitch 73 0 4 #[33, 39, 46, 53, 59], 33) := by decide +kernel
theorem dX5_work_64 : decode cX5_work 64 = .ok (.aload 5, 2) := by decide +kernel
theorem dX5_work_66 : decode cX5_work 66 = .ok (.getfield 161, 3) := by decide +kernel
theorem dX5_work_69 : decode cX5_work 69 = .ok (.ireturn, 1) := by decide +kernel
theorem dX5_work_70 : decode cX5_work 70 = .ok (.aload 4, 2) := by decide +kernel
theorem dX5_work_72 : decode cX5_work 72 = .ok (.iload_n 2, 1) := by decide +kernel
theorem dX5_work_73 : decode cX5_work 73 = .ok (.invokevirtual 166, 3) := by decide +kernel
theorem dX5_work_76 : decode cX5_work 76 = .ok (.ireturn, 1) := by decide +kernel
theorem dX5_work_77 : decode cX5_work 77 = .ok (.aload 4, 2) := by decide +kernel
theorem dX5_work_79 : decode cX5_work 79 = .ok (.iload_n 2, 1) := by decide +kernel
theorem dX5_work_80 : decode cX5_work 80 = .ok (.invokevirtual 169, 3) := by decide +kernel
theorem dX5_work_83 : decode cX5_work 83 = .ok (.ireturn, 1) := by decide +kernel
theorem dX5_work_84 : decode cX5_work 84 = .ok (.aload 5, 2) := by decide +kernel
theorem dX5_work_86 : decode cX5_work 86 = .ok (.getfield 172, 3) := by decide +kernel
theorem dX5_work_89 : decode cX5_work 89 = .ok (.ireturn, 1) := by decide +kernel
theorem dX5_work_90 : decode cX5_work 90 = .ok (.aload 5, 2) := by decide +kernel
theorem dX5_work_92 : decode cX5_work 92 = .ok (.getfield 173, 3) := by decide +kernel
theorem dX5_work_95 : decode cX5_work 95 = .ok (.ifCond .eq 7, 3) := by decide +kernel
theorem dX5_work_98 : decode cX5_work 98 = .ok (.iconst 1, 1) := by decide +kernel
theorem dX5_work_99 : decode cX5_work 99 = .ok (.goto 4, 3) := by decide +kernel
theorem dX5_work_102 : decode cX5_work 102 = .ok (.iconst 0, 1) := by decide +kernel
theorem dX5_work_103 : decode cX5_work 103 = .ok (.ireturn, 1) := by decide +kernel
theorem dX5_work_104 : decode cX5_work 104 = .ok (.new 43, 3) := by decide +kernel
theorem dX5_work_107 : decode cX5_work 107 = .ok (.dup, 1) := by decide +kernel
theorem dX5_work_108 : decode cX5_work 108 = .ok (.ldc 177, 2) := by decide +kernel
theorem dX5_work_110 : decode cX5_work 110 = .ok (.invokespecial 47, 3) := by decide +kernel
theorem dX5_work_113 : decode cX5_work 113 = .ok (.athrow, 1) := by decide +kernel
theorem dX5_entry_0 : decode cX5_entry 0 = .ok (.aload_n 0, 1) := by decide +kernel
theorem dX5_entry_1 : decode cX5_entry 1 = .ok (.iload_n 1, 1) := by decide +kernel
theorem dX5_entry_2 : decode cX5_entry 2 = .ok (.invokevirtual 140, 3) := by decide +kernel
theorem dX5_entry_5 : decode cX5_entry 5 = .ok (.astore_n 3, 1) := by decide +kernel
theorem dX5_entry_6 : decode cX5_entry 6 = .ok (.iload_n 2, 1) := by decide +kernel
theorem dX5_entry_7 : decode cX5_entry 7 = .ok (.ifCond .ge 13, 3) := by decide +kernel
theorem dX5_entry_10 : decode cX5_entry 10 = .ok (.new 43, 3) := by decide +kernel
theorem dX5_entry_13 : decode cX5_entry 13 = .ok (.dup, 1) := by decide +kernel
theorem dX5_entry_14 : decode cX5_entry 14 = .ok (.ldc 179, 2) := by decide +kernel
theorem dX5_entry_16 : decode cX5_entry 16 = .ok (.invokespecial 47, 3) := by decide +kernel
theorem dX5_entry_19 : decode cX5_entry 19 = .ok (.athrow, 1) := by decide +kernel
theorem dX5_entry_20 : decode cX5_entry 20 = .ok (.iload_n 2, 1) := by decide +kernel
theorem dX5_entry_21 : decode cX5_entry 21 = .ok (.aload_n 3, 1) := by decide +kernel
theorem dX5_entry_22 : decode cX5_entry 22 = .ok (.getfield 181, 3) := by decide +kernel
theorem dX5_entry_25 : decode cX5_entry 25 = .ok (.getfield 50, 3) := by decide +kernel
theorem dX5_entry_28 : decode cX5_entry 28 = .ok (.if_icmp .ge 24, 3) := by decide +kernel
theorem dX5_entry_31 : decode cX5_entry 31 = .ok (.aload_n 3, 1) := by decide +kernel
theorem dX5_entry_32 : decode cX5_entry 32 = .ok (.getfield 181, 3) := by decide +kernel
theorem dX5_entry_35 : decode cX5_entry 35 = .ok (.aload_n 3, 1) := by decide +kernel
theorem dX5_entry_36 : decode cX5_entry 36 = .ok (.getfield 181, 3) := by decide +kernel
theorem dX5_entry_39 : decode cX5_entry 39 = .ok (.getfield 50, 3) := by decide +kernel
theorem dX5_entry_42 : decode cX5_entry 42 = .ok (.iconst 1, 1) := by decide +kernel
theorem dX5_entry_43 : decode cX5_entry 43 = .ok (.isub, 1) := by decide +kernel
theorem dX5_entry_44 : decode cX5_entry 44 = .ok (.iload_n 2, 1) := by decide +kernel
theorem dX5_entry_45 : decode cX5_entry 45 = .ok (.isub, 1) := by decide +kernel
theorem dX5_entry_46 : decode cX5_entry 46 = .ok (.invokevirtual 66, 3) := by decide +kernel
theorem dX5_entry_49 : decode cX5_entry 49 = .ok (.goto 4, 3) := by decide +kernel
theorem dX5_entry_52 : decode cX5_entry 52 = .ok (.iconst (-1), 1) := by decide +kernel
theorem dX5_entry_53 : decode cX5_entry 53 = .ok (.ireturn, 1) := by decide +kernel
theorem dX5_begin_0 : decode cX5_begin 0 = .ok (.aload_n 0, 1) := by decide +kernel
theorem dX5_begin_1 : decode cX5_begin 1 = .ok (.iconst 0, 1) := by decide +kernel
theorem dX5_begin_2 : decode cX5_begin 2 = .ok (.aload_n 0, 1) := by decide +kernel
theorem dX5_begin_3 : decode cX5_begin 3 = .ok (.iload_n 1, 1) := by decide +kernel
theorem dX5_begin_4 : decode cX5_begin 4 = .ok (.invokevirtual 140, 3) := by decide +kernel
theorem dX5_begin_7 : decode cX5_begin 7 = .ok (.iconst 0, 1) := by decide +kernel
theorem dX5_begin_8 : decode cX5_begin 8 = .ok (.iconst 0, 1) := by decide +kernel
theorem dX5_begin_9 : decode cX5_begin 9 = .ok (.invokevirtual 184, 3) := by decide +kernel
theorem dX5_begin_12 : decode cX5_begin 12 = .ok (.ireturn, 1) := by decide +kernel
theorem dX5_write_0 : decode cX5_write 0 = .ok (.aload_n 0, 1) := by decide +kernel
theorem dX5_write_1 : decode cX5_write 1 = .ok (.iload_n 1, 1) := by decide +kernel
theorem dX5_write_2 : decode cX5_write 2 = .ok (.invokevirtual 140, 3) := by decide +kernel
theorem dX5_write_5 : decode cX5_write 5 = .ok (.astore 4, 2) := by decide +kernel
theorem dX5_write_7 : decode cX5_write 7 = .ok (.iload_n 2, 1) := by decide +kernel
theorem dX5_write_8 : decode cX5_write 8 = .ok (.invokestatic 126, 3) := by decide +kernel
theorem dX5_write_11 : decode cX5_write 11 = .ok (.iload_n 3, 1) := by decide +kernel
theorem dX5_write_12 : decode cX5_write 12 = .ok (.invokestatic 188, 3) := by decide +kernel
theorem dX5_write_15 : decode cX5_write 15 = .ok (.ifCond .ne 13, 3) := by decide +kernel
theorem dX5_write_18 : decode cX5_write 18 = .ok (.new 43, 3) := by decide +kernel
theorem dX5_write_21 : decode cX5_write 21 = .ok (.dup, 1) := by decide +kernel
theorem dX5_write_22 : decode cX5_write 22 = .ok (.ldc 191, 2) := by decide +kernel
theorem dX5_write_24 : decode cX5_write 24 = .ok (.invokespecial 47, 3) := by decide +kernel
theorem dX5_write_27 : decode cX5_write 27 = .ok (.athrow, 1) := by decide +kernel
theorem dX5_write_28 : decode cX5_write 28 = .ok (.aload_n 0, 1) := by decide +kernel
theorem dX5_write_29 : decode cX5_write 29 = .ok (.bipush 6, 2) := by decide +kernel
theorem dX5_write_31 : decode cX5_write 31 = .ok (.aload 4, 2) := by decide +kernel
theorem dX5_write_33 : decode cX5_write 33 = .ok (.iload_n 2, 1) := by decide +kernel
theorem dX5_write_34 : decode cX5_write 34 = .ok (.iload_n 3, 1) := by decide +kernel
theorem dX5_write_35 : decode cX5_write 35 = .ok (.invokevirtual 184, 3) := by decide +kernel
theorem dX5_write_38 : decode cX5_write 38 = .ok (.ireturn, 1) := by decide +kernel
theorem dX5_point_0 : decode cX5_point 0 = .ok (.aload_n 0, 1) := by decide +kernel
theorem dX5_point_1 : decode cX5_point 1 = .ok (.iconst 3, 1) := by decide +kernel
theorem dX5_point_2 : decode cX5_point 2 = .ok (.aload_n 0, 1) := by decide +kernel
theorem dX5_point_3 : decode cX5_point 3 = .ok (.iload_n 1, 1) := by decide +kernel
theorem dX5_point_4 : decode cX5_point 4 = .ok (.invokevirtual 140, 3) := by decide +kernel
theorem dX5_point_7 : decode cX5_point 7 = .ok (.iconst 0, 1) := by decide +kernel
theorem dX5_point_8 : decode cX5_point 8 = .ok (.iconst 0, 1) := by decide +kernel
theorem dX5_point_9 : decode cX5_point 9 = .ok (.invokevirtual 184, 3) := by decide +kernel
theorem dX5_point_12 : decode cX5_point 12 = .ok (.ireturn, 1) := by decide +kernel
theorem dX5_back_0 : decode cX5_back 0 = .ok (.aload_n 0, 1) := by decide +kernel
theorem dX5_back_1 : decode cX5_back 1 = .ok (.iload_n 1, 1) := by decide +kernel
theorem dX5_back_2 : decode cX5_back 2 = .ok (.invokevirtual 140, 3) := by decide +kernel
theorem dX5_back_5 : decode cX5_back 5 = .ok (.astore_n 3, 1) := by decide +kernel
theorem dX5_back_6 : decode cX5_back 6 = .ok (.aload_n 3, 1) := by decide +kernel
theorem dX5_back_7 : decode cX5_back 7 = .ok (.iload_n 2, 1) := by decide +kernel
theorem dX5_back_8 : decode cX5_back 8 = .ok (.invokestatic 193, 3) := by decide +kernel
theorem dX5_back_11 : decode cX5_back 11 = .ok (.aload_n 0, 1) := by decide +kernel
theorem dX5_back_12 : decode cX5_back 12 = .ok (.iconst 4, 1) := by decide +kernel
theorem dX5_back_13 : decode cX5_back 13 = .ok (.aload_n 3, 1) := by decide +kernel
theorem dX5_back_14 : decode cX5_back 14 = .ok (.iload_n 2, 1) := by decide +kernel
theorem dX5_back_15 : decode cX5_back 15 = .ok (.iconst 0, 1) := by decide +kernel
theorem dX5_back_16 : decode cX5_back 16 = .ok (.invokevirtual 184, 3) := by decide +kernel
theorem dX5_back_19 : decode cX5_back 19 = .ok (.ireturn, 1) := by decide +kernel
theorem dX5_regret_0 : decode cX5_regret 0 = .ok (.aload_n 0, 1) := by decide +kernel
theorem dX5_regret_1 : decode cX5_regret 1 = .ok (.iload_n 1, 1) := by decide +kernel
theorem dX5_regret_2 : decode cX5_regret 2 = .ok (.invokevirtual 140, 3) := by decide +kernel
theorem dX5_regret_5 : decode cX5_regret 5 = .ok (.astore 4, 2) := by decide +kernel
theorem dX5_regret_7 : decode cX5_regret 7 = .ok (.iload_n 2, 1) := by decide +kernel
theorem dX5_regret_8 : decode cX5_regret 8 = .ok (.invokestatic 126, 3) := by decide +kernel
theorem dX5_regret_11 : decode cX5_regret 11 = .ok (.iload_n 3, 1) := by decide +kernel
theorem dX5_regret_12 : decode cX5_regret 12 = .ok (.invokestatic 197, 3) := by decide +kernel
theorem dX5_regret_15 : decode cX5_regret 15 = .ok (.ifCond .ne 13, 3) := by decide +kernel
theorem dX5_regret_18 : decode cX5_regret 18 = .ok (.new 43, 3) := by decide +kernel
theorem dX5_regret_21 : decode cX5_regret 21 = .ok (.dup, 1) := by decide +kernel
theorem dX5_regret_22 : decode cX5_regret 22 = .ok (.ldc 200, 2) := by decide +kernel
theorem dX5_regret_24 : decode cX5_regret 24 = .ok (.invokespecial 47, 3) := by decide +kernel
theorem dX5_regret_27 : decode cX5_regret 27 = .ok (.athrow, 1) := by decide +kernel
theorem dX5_regret_28 : decode cX5_regret 28 = .ok (.aload_n 0, 1) := by decide +kernel
theorem dX5_regret_29 : decode cX5_regret 29 = .ok (.iconst 5, 1) := by decide +kernel
theorem dX5_regret_30 : decode cX5_regret 30 = .ok (.aload 4, 2) := by decide +kernel
theorem dX5_regret_32 : decode cX5_regret 32 = .ok (.iload_n 2, 1) := by decide +kernel
theorem dX5_regret_33 : decode cX5_regret 33 = .ok (.iload_n 3, 1) := by decide +kernel
theorem dX5_regret_34 : decode cX5_regret 34 = .ok (.invokevirtual 184, 3) := by decide +kernel
theorem dX5_regret_37 : decode cX5_regret 37 = .ok (.ireturn, 1) := by decide +kernel
theorem dX5_done_0 : decode cX5_done 0 = .ok (.aload_n 0, 1) := by decide +kernel
theorem dX5_done_1 : decode cX5_done 1 = .ok (.iconst 1, 1) := by decide +kernel
theorem dX5_done_2 : decode cX5_done 2 = .ok (.aload_n 0, 1) := by decide +kernel
theorem dX5_done_3 : decode cX5_done 3 = .ok (.iload_n 1, 1) := by decide +kernel
theorem dX5_done_4 : decode cX5_done 4 = .ok (.invokevirtual 140, 3) := by decide +kernel
theorem dX5_done_7 : decode cX5_done 7 = .ok (.iconst 0, 1) := by decide +kernel
theorem dX5_done_8 : decode cX5_done 8 = .ok (.iconst 0, 1) := by decide +kernel
theorem dX5_done_9 : decode cX5_done 9 = .ok (.invokevirtual 184, 3) := by decide +kernel
theorem dX5_done_12 : decode cX5_done 12 = .ok (.ireturn, 1) := by decide +kernel
theorem dX5_fail_0 : decode cX5_fail 0 = .ok (.aload_n 0, 1) := by decide +kernel
theorem dX5_fail_1 : decode cX5_fail 1 = .ok (.iconst 2, 1) := by decide +kernel
theorem dX5_fail_2 : decode cX5_fail 2 = .ok (.aload_n 0, 1) := by decide +kernel
theorem dX5_fail_3 : decode cX5_fail 3 = .ok (.iload_n 1, 1) := by decide +kernel
theorem dX5_fail_4 : decode cX5_fail 4 = .ok (.invokevirtual 140, 3) := by decide +kernel
theorem dX5_fail_7 : decode cX5_fail 7 = .ok (.iconst 0, 1) := by decide +kernel
theorem dX5_fail_8 : decode cX5_fail 8 = .ok (.iconst 0, 1) := by decide +kernel
theorem dX5_fail_9 : decode cX5_fail 9 = .ok (.invokevirtual 184, 3) := by decide +kernel
theorem dX5_fail_12 : decode cX5_fail 12 = .ok (.ireturn, 1) := by decide +kernel
theorem dX5_setMercy_0 : decode cX5_setMercy 0 = .ok (.iload_n 1, 1) := by decide +kernel
theorem dX5_setMercy_1 : decode cX5_setMercy 1 = .ok (.ifCond .lt 8, 3) := by decide +kernel
theorem dX5_setMercy_4 : decode cX5_setMercy 4 = .ok (.iload_n 1, 1) := by decide +kernel
theorem dX5_setMercy_5 : decode cX5_setMercy 5 = .ok (.iconst 3, 1) := by decide +kernel
theorem dX5_setMercy_6 : decode cX5_setMercy 6 = .ok (.if_icmp .le 13, 3) := by decide +kernel
theorem dX5_setMercy_9 : decode cX5_setMercy 9 = .ok (.new 43, 3) := by decide +kernel
theorem dX5_setMercy_12 : decode cX5_setMercy 12 = .ok (.dup, 1) := by decide +kernel
theorem dX5_setMercy_13 : decode cX5_setMercy 13 = .ok (.ldc 202, 2) := by decide +kernel
theorem dX5_setMercy_15 : decode cX5_setMercy 15 = .ok (.invokespecial 47, 3) := by decide +kernel
theorem dX5_setMercy_18 : decode cX5_setMercy 18 = .ok (.athrow, 1) := by decide +kernel
theorem dX5_setMercy_19 : decode cX5_setMercy 19 = .ok (.aload_n 0, 1) := by decide +kernel
theorem dX5_setMercy_20 : decode cX5_setMercy 20 = .ok (.getfield 31, 3) := by decide +kernel
theorem dX5_setMercy_23 : decode cX5_setMercy 23 = .ok (.aload_n 0, 1) := by decide +kernel
theorem dX5_setMercy_24 : decode cX5_setMercy 24 = .ok (.getfield 21, 3) := by decide +kernel
theorem dX5_setMercy_27 : decode cX5_setMercy 27 = .ok (.invokevirtual 204, 3) := by decide +kernel
theorem dX5_setMercy_30 : decode cX5_setMercy 30 = .ok (.aload_n 0, 1) := by decide +kernel
theorem dX5_setMercy_31 : decode cX5_setMercy 31 = .ok (.getfield 21, 3) := by decide +kernel
theorem dX5_setMercy_34 : decode cX5_setMercy 34 = .ok (.getfield 115, 3) := by decide +kernel
theorem dX5_setMercy_37 : decode cX5_setMercy 37 = .ok (.istore_n 2, 1) := by decide +kernel
theorem dX5_setMercy_38 : decode cX5_setMercy 38 = .ok (.aload_n 0, 1) := by decide +kernel
theorem dX5_setMercy_39 : decode cX5_setMercy 39 = .ok (.getfield 21, 3) := by decide +kernel
theorem dX5_setMercy_42 : decode cX5_setMercy 42 = .ok (.iload_n 1, 1) := by decide +kernel
theorem dX5_setMercy_43 : decode cX5_setMercy 43 = .ok (.putfield 115, 3) := by decide +kernel
theorem dX5_setMercy_46 : decode cX5_setMercy 46 = .ok (.iload_n 2, 1) := by decide +kernel
theorem dX5_setMercy_47 : decode cX5_setMercy 47 = .ok (.ireturn, 1) := by decide +kernel
theorem dX5_undo_0 : decode cX5_undo 0 = .ok (.aload_n 0, 1) := by decide +kernel
theorem dX5_undo_1 : decode cX5_undo 1 = .ok (.getfield 31, 3) := by decide +kernel
theorem dX5_undo_4 : decode cX5_undo 4 = .ok (.getfield 208, 3) := by decide +kernel
theorem dX5_undo_7 : decode cX5_undo 7 = .ok (.ifCond .ne 13, 3) := by decide +kernel
theorem dX5_undo_10 : decode cX5_undo 10 = .ok (.new 54, 3) := by decide +kernel
theorem dX5_undo_13 : decode cX5_undo 13 = .ok (.dup, 1) := by decide +kernel
theorem dX5_undo_14 : decode cX5_undo 14 = .ok (.ldc 211, 2) := by decide +kernel
theorem dX5_undo_16 : decode cX5_undo 16 = .ok (.invokespecial 58, 3) := by decide +kernel
theorem dX5_undo_19 : decode cX5_undo 19 = .ok (.athrow, 1) := by decide +kernel
theorem dX5_undo_20 : decode cX5_undo 20 = .ok (.aload_n 0, 1) := by decide +kernel
theorem dX5_undo_21 : decode cX5_undo 21 = .ok (.getfield 31, 3) := by decide +kernel
theorem dX5_undo_24 : decode cX5_undo 24 = .ok (.aload_n 0, 1) := by decide +kernel
theorem dX5_undo_25 : decode cX5_undo 25 = .ok (.getfield 21, 3) := by decide +kernel
theorem dX5_undo_28 : decode cX5_undo 28 = .ok (.invokevirtual 213, 3) := by decide +kernel
theorem dX5_undo_31 : decode cX5_undo 31 = .ok (.aload_n 0, 1) := by decide +kernel
theorem dX5_undo_32 : decode cX5_undo 32 = .ok (.getfield 31, 3) := by decide +kernel
theorem dX5_undo_35 : decode cX5_undo 35 = .ok (.getfield 208, 3) := by decide +kernel
theorem dX5_undo_38 : decode cX5_undo 38 = .ok (.ireturn, 1) := by decide +kernel
theorem dX5_whyNot_0 : decode cX5_whyNot 0 = .ok (.aload_n 0, 1) := by decide +kernel
theorem dX5_whyNot_1 : decode cX5_whyNot 1 = .ok (.iload_n 1, 1) := by decide +kernel
theorem dX5_whyNot_2 : decode cX5_whyNot 2 = .ok (.invokevirtual 140, 3) := by decide +kernel
theorem dX5_whyNot_5 : decode cX5_whyNot 5 = .ok (.astore_n 3, 1) := by decide +kernel
theorem dX5_whyNot_6 : decode cX5_whyNot 6 = .ok (.iload_n 2, 1) := by decide +kernel
theorem dX5_whyNot_7 : decode cX5_whyNot 7 = .ok (.invokestatic 126, 3) := by decide +kernel
theorem dX5_whyNot_10 : decode cX5_whyNot 10 = .ok (.aload_n 0, 1) := by decide +kernel
theorem dX5_whyNot_11 : decode cX5_whyNot 11 = .ok (.getfield 21, 3) := by decide +kernel
theorem dX5_whyNot_14 : decode cX5_whyNot 14 = .ok (.aload_n 3, 1) := by decide +kernel
theorem dX5_whyNot_15 : decode cX5_whyNot 15 = .ok (.iload_n 2, 1) := by decide +kernel
theorem dX5_whyNot_16 : decode cX5_whyNot 16 = .ok (.invokevirtual 216, 3) := by decide +kernel
theorem dX5_whyNot_19 : decode cX5_whyNot 19 = .ok (.ireturn, 1) := by decide +kernel
theorem dX5_failed_0 : decode cX5_failed 0 = .ok (.aload_n 0, 1) := by decide +kernel
theorem dX5_failed_1 : decode cX5_failed 1 = .ok (.iload_n 1, 1) := by decide +kernel
theorem dX5_failed_2 : decode cX5_failed 2 = .ok (.invokevirtual 140, 3) := by decide +kernel
theorem dX5_failed_5 : decode cX5_failed 5 = .ok (.pop, 1) := by decide +kernel
theorem dX5_failed_6 : decode cX5_failed 6 = .ok (.iload_n 2, 1) := by decide +kernel
theorem dX5_failed_7 : decode cX5_failed 7 = .ok (.invokestatic 126, 3) := by decide +kernel
theorem dX5_failed_10 : decode cX5_failed 10 = .ok (.iload_n 3, 1) := by decide +kernel
theorem dX5_failed_11 : decode cX5_failed 11 = .ok (.ifCond .lt 8, 3) := by decide +kernel
theorem dX5_failed_14 : decode cX5_failed 14 = .ok (.iload_n 3, 1) := by decide +kernel
theorem dX5_failed_15 : decode cX5_failed 15 = .ok (.iconst 5, 1) := by decide +kernel
theorem dX5_failed_16 : decode cX5_failed 16 = .ok (.if_icmp .le 13, 3) := by decide +kernel
theorem dX5_failed_19 : decode cX5_failed 19 = .ok (.new 43, 3) := by decide +kernel
theorem dX5_failed_22 : decode cX5_failed 22 = .ok (.dup, 1) := by decide +kernel
theorem dX5_failed_23 : decode cX5_failed 23 = .ok (.ldc 219, 2) := by decide +kernel
theorem dX5_failed_25 : decode cX5_failed 25 = .ok (.invokespecial 47, 3) := by decide +kernel
theorem dX5_failed_28 : decode cX5_failed 28 = .ok (.athrow, 1) := by decide +kernel
theorem dX5_failed_29 : decode cX5_failed 29 = .ok (.aload_n 0, 1) := by decide +kernel
theorem dX5_failed_30 : decode cX5_failed 30 = .ok (.getfield 25, 3) := by decide +kernel
theorem dX5_failed_33 : decode cX5_failed 33 = .ok (.aload_n 0, 1) := by decide +kernel
theorem dX5_failed_34 : decode cX5_failed 34 = .ok (.getfield 21, 3) := by decide +kernel
theorem dX5_failed_37 : decode cX5_failed 37 = .ok (.invokevirtual 221, 3) := by decide +kernel
theorem dX5_failed_40 : decode cX5_failed 40 = .ok (.iconst 0, 1) := by decide +kernel
theorem dX5_failed_41 : decode cX5_failed 41 = .ok (.istore 4, 2) := by decide +kernel
theorem dX5_failed_43 : decode cX5_failed 43 = .ok (.iload 4, 2) := by decide +kernel
theorem dX5_failed_45 : decode cX5_failed 45 = .ok (.iload_n 3, 1) := by decide +kernel
theorem dX5_failed_46 : decode cX5_failed 46 = .ok (.if_icmp .ge 21, 3) := by decide +kernel
theorem dX5_failed_49 : decode cX5_failed 49 = .ok (.aload_n 0, 1) := by decide +kernel
theorem dX5_failed_50 : decode cX5_failed 50 = .ok (.getfield 25, 3) := by decide +kernel
theorem dX5_failed_53 : decode cX5_failed 53 = .ok (.iconst 2, 1) := by decide +kernel
theorem dX5_failed_54 : decode cX5_failed 54 = .ok (.iload_n 1, 1) := by decide +kernel
theorem dX5_failed_55 : decode cX5_failed 55 = .ok (.iconst 0, 1) := by decide +kernel
theorem dX5_failed_56 : decode cX5_failed 56 = .ok (.iconst 0, 1) := by decide +kernel
theorem dX5_failed_57 : decode cX5_failed 57 = .ok (.invokevirtual 224, 3) := by decide +kernel
theorem dX5_failed_60 : decode cX5_failed 60 = .ok (.pop, 1) := by decide +kernel
theorem dX5_failed_61 : decode cX5_failed 61 = .ok (.iinc 4 1, 3) := by decide +kernel
theorem dX5_failed_64 : decode cX5_failed 64 = .ok (.goto (-21), 3) := by decide +kernel
theorem dX5_failed_67 : decode cX5_failed 67 = .ok (.aload_n 0, 1) := by decide +kernel
theorem dX5_failed_68 : decode cX5_failed 68 = .ok (.getfield 25, 3) := by decide +kernel
theorem dX5_failed_71 : decode cX5_failed 71 = .ok (.getfield 129, 3) := by decide +kernel
theorem dX5_failed_74 : decode cX5_failed 74 = .ok (.iload_n 2, 1) := by decide +kernel
theorem dX5_failed_75 : decode cX5_failed 75 = .ok (.invokevirtual 66, 3) := by decide +kernel
theorem dX5_failed_78 : decode cX5_failed 78 = .ok (.ireturn, 1) := by decide +kernel
theorem dX5_changes_0 : decode cX5_changes 0 = .ok (.aload_n 0, 1) := by decide +kernel
theorem dX5_changes_1 : decode cX5_changes 1 = .ok (.iload_n 1, 1) := by decide +kernel
theorem dX5_changes_2 : decode cX5_changes 2 = .ok (.invokevirtual 140, 3) := by decide +kernel
theorem dX5_changes_5 : decode cX5_changes 5 = .ok (.pop, 1) := by decide +kernel
theorem dX5_changes_6 : decode cX5_changes 6 = .ok (.aload_n 0, 1) := by decide +kernel
theorem dX5_changes_7 : decode cX5_changes 7 = .ok (.getfield 25, 3) := by decide +kernel
theorem dX5_changes_10 : decode cX5_changes 10 = .ok (.aload_n 0, 1) := by decide +kernel
theorem dX5_changes_11 : decode cX5_changes 11 = .ok (.getfield 21, 3) := by decide +kernel
theorem dX5_changes_14 : decode cX5_changes 14 = .ok (.invokevirtual 221, 3) := by decide +kernel
theorem dX5_changes_17 : decode cX5_changes 17 = .ok (.aload_n 0, 1) := by decide +kernel
theorem dX5_changes_18 : decode cX5_changes 18 = .ok (.getfield 25, 3) := by decide +kernel
theorem dX5_changes_21 : decode cX5_changes 21 = .ok (.iconst 2, 1) := by decide +kernel
theorem dX5_changes_22 : decode cX5_changes 22 = .ok (.iload_n 1, 1) := by decide +kernel
theorem dX5_changes_23 : decode cX5_changes 23 = .ok (.iconst 0, 1) := by decide +kernel
theorem dX5_changes_24 : decode cX5_changes 24 = .ok (.iconst 0, 1) := by decide +kernel
theorem dX5_changes_25 : decode cX5_changes 25 = .ok (.invokevirtual 224, 3) := by decide +kernel
theorem dX5_changes_28 : decode cX5_changes 28 = .ok (.ifCond .eq 17, 3) := by decide +kernel
theorem dX5_changes_31 : decode cX5_changes 31 = .ok (.aload_n 0, 1) := by decide +kernel
theorem dX5_changes_32 : decode cX5_changes 32 = .ok (.getfield 21, 3) := by decide +kernel
theorem dX5_changes_35 : decode cX5_changes 35 = .ok (.aload_n 0, 1) := by decide +kernel
theorem dX5_changes_36 : decode cX5_changes 36 = .ok (.getfield 25, 3) := by decide +kernel
theorem dX5_changes_39 : decode cX5_changes 39 = .ok (.invokevirtual 228, 3) := by decide +kernel
theorem dX5_changes_42 : decode cX5_changes 42 = .ok (.goto 4, 3) := by decide +kernel
theorem dX5_changes_45 : decode cX5_changes 45 = .ok (.iconst (-1), 1) := by decide +kernel
theorem dX5_changes_46 : decode cX5_changes 46 = .ok (.ireturn, 1) := by decide +kernel
theorem dX5_lost_0 : decode cX5_lost 0 = .ok (.aload_n 0, 1) := by decide +kernel
theorem dX5_lost_1 : decode cX5_lost 1 = .ok (.iload_n 1, 1) := by decide +kernel
theorem dX5_lost_2 : decode cX5_lost 2 = .ok (.invokevirtual 140, 3) := by decide +kernel
theorem dX5_lost_5 : decode cX5_lost 5 = .ok (.iload_n 2, 1) := by decide +kernel
theorem dX5_lost_6 : decode cX5_lost 6 = .ok (.invokestatic 193, 3) := by decide +kernel
theorem dX5_lost_9 : decode cX5_lost 9 = .ok (.aload_n 0, 1) := by decide +kernel
theorem dX5_lost_10 : decode cX5_lost 10 = .ok (.getfield 25, 3) := by decide +kernel
theorem dX5_lost_13 : decode cX5_lost 13 = .ok (.aload_n 0, 1) := by decide +kernel
theorem dX5_lost_14 : decode cX5_lost 14 = .ok (.getfield 21, 3) := by decide +kernel
theorem dX5_lost_17 : decode cX5_lost 17 = .ok (.invokevirtual 221, 3) := by decide +kernel
theorem dX5_lost_20 : decode cX5_lost 20 = .ok (.aload_n 0, 1) := by decide +kernel
theorem dX5_lost_21 : decode cX5_lost 21 = .ok (.getfield 25, 3) := by decide +kernel
theorem dX5_lost_24 : decode cX5_lost 24 = .ok (.iload_n 1, 1) := by decide +kernel
theorem dX5_lost_25 : decode cX5_lost 25 = .ok (.invokevirtual 232, 3) := by decide +kernel
theorem dX5_lost_28 : decode cX5_lost 28 = .ok (.astore_n 3, 1) := by decide +kernel
theorem dX5_lost_29 : decode cX5_lost 29 = .ok (.aload_n 3, 1) := by decide +kernel
theorem dX5_lost_30 : decode cX5_lost 30 = .ok (.ifnull 13, 3) := by decide +kernel
theorem dX5_lost_33 : decode cX5_lost 33 = .ok (.aload_n 0, 1) := by decide +kernel
theorem dX5_lost_34 : decode cX5_lost 34 = .ok (.getfield 25, 3) := by decide +kernel
theorem dX5_lost_37 : decode cX5_lost 37 = .ok (.aload_n 3, 1) := by decide +kernel
theorem dX5_lost_38 : decode cX5_lost 38 = .ok (.iload_n 2, 1) := by decide +kernel
theorem dX5_lost_39 : decode cX5_lost 39 = .ok (.invokevirtual 235, 3) := by decide +kernel
theorem dX5_lost_42 : decode cX5_lost 42 = .ok (.pop, 1) := by decide +kernel
theorem dX5_lost_43 : decode cX5_lost 43 = .ok (.aload_n 0, 1) := by decide +kernel
theorem dX5_lost_44 : decode cX5_lost 44 = .ok (.getfield 21, 3) := by decide +kernel
theorem dX5_lost_47 : decode cX5_lost 47 = .ok (.aload_n 0, 1) := by decide +kernel
theorem dX5_lost_48 : decode cX5_lost 48 = .ok (.getfield 25, 3) := by decide +kernel
theorem dX5_lost_51 : decode cX5_lost 51 = .ok (.invokevirtual 228, 3) := by decide +kernel
theorem dX5_lost_54 : decode cX5_lost 54 = .ok (.ireturn, 1) := by decide +kernel
theorem dX5_mercyLeft_0 : decode cX5_mercyLeft 0 = .ok (.aload_n 0, 1) := by decide +kernel
theorem dX5_mercyLeft_1 : decode cX5_mercyLeft 1 = .ok (.iload_n 1, 1) := by decide +kernel
theorem dX5_mercyLeft_2 : decode cX5_mercyLeft 2 = .ok (.invokevirtual 140, 3) := by decide +kernel
theorem dX5_mercyLeft_5 : decode cX5_mercyLeft 5 = .ok (.astore_n 2, 1) := by decide +kernel
theorem dX5_mercyLeft_6 : decode cX5_mercyLeft 6 = .ok (.aload_n 2, 1) := by decide +kernel
theorem dX5_mercyLeft_7 : decode cX5_mercyLeft 7 = .ok (.invokevirtual 238, 3) := by decide +kernel
theorem dX5_mercyLeft_10 : decode cX5_mercyLeft 10 = .ok (.astore_n 3, 1) := by decide +kernel
theorem dX5_mercyLeft_11 : decode cX5_mercyLeft 11 = .ok (.aload_n 3, 1) := by decide +kernel
theorem dX5_mercyLeft_12 : decode cX5_mercyLeft 12 = .ok (.ifnull 18, 3) := by decide +kernel
theorem dX5_mercyLeft_15 : decode cX5_mercyLeft 15 = .ok (.aload_n 3, 1) := by decide +kernel
theorem dX5_mercyLeft_16 : decode cX5_mercyLeft 16 = .ok (.getfield 173, 3) := by decide +kernel
theorem dX5_mercyLeft_19 : decode cX5_mercyLeft 19 = .ok (.ifCond .ne 11, 3) := by decide +kernel
theorem dX5_mercyLeft_22 : decode cX5_mercyLeft 22 = .ok (.aload_n 2, 1) := by decide +kernel
theorem dX5_mercyLeft_23 : decode cX5_mercyLeft 23 = .ok (.getfield 242, 3) := by decide +kernel
theorem dX5_mercyLeft_26 : decode cX5_mercyLeft 26 = .ok (.iconst 5, 1) := by decide +kernel
theorem dX5_mercyLeft_27 : decode cX5_mercyLeft 27 = .ok (.if_icmp .lt 5, 3) := by decide +kernel
theorem dX5_mercyLeft_30 : decode cX5_mercyLeft 30 = .ok (.iconst (-1), 1) := by decide +kernel
theorem dX5_mercyLeft_31 : decode cX5_mercyLeft 31 = .ok (.ireturn, 1) := by decide +kernel
theorem dX5_mercyLeft_32 : decode cX5_mercyLeft 32 = .ok (.iconst 0, 1) := by decide +kernel
theorem dX5_mercyLeft_33 : decode cX5_mercyLeft 33 = .ok (.aload_n 0, 1) := by decide +kernel
theorem dX5_mercyLeft_34 : decode cX5_mercyLeft 34 = .ok (.getfield 21, 3) := by decide +kernel
theorem dX5_mercyLeft_37 : decode cX5_mercyLeft 37 = .ok (.getfield 115, 3) := by decide +kernel
theorem dX5_mercyLeft_40 : decode cX5_mercyLeft 40 = .ok (.aload_n 3, 1) := by decide +kernel
theorem dX5_mercyLeft_41 : decode cX5_mercyLeft 41 = .ok (.getfield 172, 3) := by decide +kernel
theorem dX5_mercyLeft_44 : decode cX5_mercyLeft 44 = .ok (.isub, 1) := by decide +kernel
theorem dX5_mercyLeft_45 : decode cX5_mercyLeft 45 = .ok (.invokestatic 245, 3) := by decide +kernel
theorem dX5_mercyLeft_48 : decode cX5_mercyLeft 48 = .ok (.iconst 1, 1) := by decide +kernel
theorem dX5_mercyLeft_49 : decode cX5_mercyLeft 49 = .ok (.iadd, 1) := by decide +kernel
theorem dX5_mercyLeft_50 : decode cX5_mercyLeft 50 = .ok (.ireturn, 1) := by decide +kernel
theorem dX5_runScript_0 : decode cX5_runScript 0 = .ok (.iload_n 1, 1) := by decide +kernel
theorem dX5_runScript_1 : decode cX5_runScript 1 = .ok (.iconst 1, 1) := by decide +kernel
theorem dX5_runScript_2 : decode cX5_runScript 2 = .ok (.if_icmp .lt 8, 3) := by decide +kernel
theorem dX5_runScript_5 : decode cX5_runScript 5 = .ok (.iload_n 1, 1) := by decide +kernel
theorem dX5_runScript_6 : decode cX5_runScript 6 = .ok (.iconst 3, 1) := by decide +kernel
theorem dX5_runScript_7 : decode cX5_runScript 7 = .ok (.if_icmp .le 13, 3) := by decide +kernel
theorem dX5_runScript_10 : decode cX5_runScript 10 = .ok (.new 43, 3) := by decide +kernel
theorem dX5_runScript_13 : decode cX5_runScript 13 = .ok (.dup, 1) := by decide +kernel
theorem dX5_runScript_14 : decode cX5_runScript 14 = .ok (.ldc 251, 2) := by decide +kernel
theorem dX5_runScript_16 : decode cX5_runScript 16 = .ok (.invokespecial 47, 3) := by decide +kernel
theorem dX5_runScript_19 : decode cX5_runScript 19 = .ok (.athrow, 1) := by decide +kernel
theorem dX5_runScript_20 : decode cX5_runScript 20 = .ok (.lload_n 2, 1) := by decide +kernel
theorem dX5_runScript_21 : decode cX5_runScript 21 = .ok (.lconst 0, 1) := by decide +kernel
theorem dX5_runScript_22 : decode cX5_runScript 22 = .ok (.lcmp, 1) := by decide +kernel
theorem dX5_runScript_23 : decode cX5_runScript 23 = .ok (.ifCond .lt 13, 3) := by decide +kernel
theorem dX5_runScript_26 : decode cX5_runScript 26 = .ok (.lload_n 2, 1) := by decide +kernel
theorem dX5_runScript_27 : decode cX5_runScript 27 = .ok (.iload_n 1, 1) := by decide +kernel
theorem dX5_runScript_28 : decode cX5_runScript 28 = .ok (.invokestatic 253, 3) := by decide +kernel
theorem dX5_runScript_31 : decode cX5_runScript 31 = .ok (.lconst 0, 1) := by decide +kernel
theorem dX5_runScript_32 : decode cX5_runScript 32 = .ok (.lcmp, 1) := by decide +kernel
theorem dX5_runScript_33 : decode cX5_runScript 33 = .ok (.ifCond .eq 14, 3) := by decide +kernel
theorem dX5_runScript_36 : decode cX5_runScript 36 = .ok (.new 43, 3) := by decide +kernel
theorem dX5_runScript_39 : decode cX5_runScript 39 = .ok (.dup, 1) := by decide +kernel
theorem dX5_runScript_40 : decode cX5_runScript 40 = .ok (.ldc_w 257, 3) := by decide +kernel
theorem dX5_runScript_43 : decode cX5_runScript 43 = .ok (.invokespecial 47, 3) := by decide +kernel
theorem dX5_runScript_46 : decode cX5_runScript 46 = .ok (.athrow, 1) := by decide +kernel
theorem dX5_runScript_47 : decode cX5_runScript 47 = .ok (.aload_n 0, 1) := by decide +kernel
theorem dX5_runScript_48 : decode cX5_runScript 48 = .ok (.getfield 25, 3) := by decide +kernel
theorem dX5_runScript_51 : decode cX5_runScript 51 = .ok (.aload_n 0, 1) := by decide +kernel
theorem dX5_runScript_52 : decode cX5_runScript 52 = .ok (.getfield 21, 3) := by decide +kernel
theorem dX5_runScript_55 : decode cX5_runScript 55 = .ok (.invokevirtual 221, 3) := by decide +kernel
theorem dX5_runScript_58 : decode cX5_runScript 58 = .ok (.iconst 0, 1) := by decide +kernel
theorem dX5_runScript_59 : decode cX5_runScript 59 = .ok (.istore 4, 2) := by decide +kernel
theorem dX5_runScript_61 : decode cX5_runScript 61 = .ok (.iload 4, 2) := by decide +kernel
theorem dX5_runScript_63 : decode cX5_runScript 63 = .ok (.iload_n 1, 1) := by decide +kernel
theorem dX5_runScript_64 : decode cX5_runScript 64 = .ok (.if_icmp .ge 38, 3) := by decide +kernel
theorem dX5_runScript_67 : decode cX5_runScript 67 = .ok (.lload_n 2, 1) := by decide +kernel
theorem dX5_runScript_68 : decode cX5_runScript 68 = .ok (.iload_n 1, 1) := by decide +kernel
theorem dX5_runScript_69 : decode cX5_runScript 69 = .ok (.iconst 1, 1) := by decide +kernel
theorem dX5_runScript_70 : decode cX5_runScript 70 = .ok (.isub, 1) := by decide +kernel
theorem dX5_runScript_71 : decode cX5_runScript 71 = .ok (.iload 4, 2) := by decide +kernel
theorem dX5_runScript_73 : decode cX5_runScript 73 = .ok (.isub, 1) := by decide +kernel
theorem dX5_runScript_74 : decode cX5_runScript 74 = .ok (.invokestatic 253, 3) := by decide +kernel
theorem dX5_runScript_77 : decode cX5_runScript 77 = .ok (.ldc2_w 259, 3) := by decide +kernel
theorem dX5_runScript_80 : decode cX5_runScript 80 = .ok (.lrem, 1) := by decide +kernel
theorem dX5_runScript_81 : decode cX5_runScript 81 = .ok (.l2i, 1) := by decide +kernel
theorem dX5_runScript_82 : decode cX5_runScript 82 = .ok (.istore 5, 2) := by decide +kernel
theorem dX5_runScript_84 : decode cX5_runScript 84 = .ok (.aload_n 0, 1) := by decide +kernel
theorem dX5_runScript_85 : decode cX5_runScript 85 = .ok (.iload 5, 2) := by decide +kernel
theorem dX5_runScript_87 : decode cX5_runScript 87 = .ok (.invokevirtual 261, 3) := by decide +kernel
theorem dX5_runScript_90 : decode cX5_runScript 90 = .ok (.ifCond .ne 6, 3) := by decide +kernel
theorem dX5_runScript_93 : decode cX5_runScript 93 = .ok (.iload 4, 2) := by decide +kernel
theorem dX5_runScript_95 : decode cX5_runScript 95 = .ok (.ireturn, 1) := by decide +kernel
theorem dX5_runScript_96 : decode cX5_runScript 96 = .ok (.iinc 4 1, 3) := by decide +kernel
theorem dX5_runScript_99 : decode cX5_runScript 99 = .ok (.goto (-38), 3) := by decide +kernel
theorem dX5_runScript_102 : decode cX5_runScript 102 = .ok (.iconst (-1), 1) := by decide +kernel
theorem dX5_runScript_103 : decode cX5_runScript 103 = .ok (.ireturn, 1) := by decide +kernel
theorem dX5_simulate_0 : decode cX5_simulate 0 = .ok (.iload_n 3, 1) := by decide +kernel
theorem dX5_simulate_1 : decode cX5_simulate 1 = .ok (.iconst 1, 1) := by decide +kernel
theorem dX5_simulate_2 : decode cX5_simulate 2 = .ok (.if_icmp .lt 9, 3) := by decide +kernel
theorem dX5_simulate_5 : decode cX5_simulate 5 = .ok (.iload_n 3, 1) := by decide +kernel
theorem dX5_simulate_6 : decode cX5_simulate 6 = .ok (.bipush 99, 2) := by decide +kernel
theorem dX5_simulate_8 : decode cX5_simulate 8 = .ok (.if_icmp .le 14, 3) := by decide +kernel
theorem dX5_simulate_11 : decode cX5_simulate 11 = .ok (.new 43, 3) := by decide +kernel
theorem dX5_simulate_14 : decode cX5_simulate 14 = .ok (.dup, 1) := by decide +kernel
theorem dX5_simulate_15 : decode cX5_simulate 15 = .ok (.ldc_w 264, 3) := by decide +kernel
theorem dX5_simulate_18 : decode cX5_simulate 18 = .ok (.invokespecial 47, 3) := by decide +kernel
theorem dX5_simulate_21 : decode cX5_simulate 21 = .ok (.athrow, 1) := by decide +kernel
theorem dX5_simulate_22 : decode cX5_simulate 22 = .ok (.aload_n 0, 1) := by decide +kernel
theorem dX5_simulate_23 : decode cX5_simulate 23 = .ok (.getfield 25, 3) := by decide +kernel
theorem dX5_simulate_26 : decode cX5_simulate 26 = .ok (.aload_n 0, 1) := by decide +kernel
theorem dX5_simulate_27 : decode cX5_simulate 27 = .ok (.getfield 21, 3) := by decide +kernel
theorem dX5_simulate_30 : decode cX5_simulate 30 = .ok (.invokevirtual 221, 3) := by decide +kernel
theorem dX5_simulate_33 : decode cX5_simulate 33 = .ok (.lload_n 1, 1) := by decide +kernel
theorem dX5_simulate_34 : decode cX5_simulate 34 = .ok (.lstore 4, 2) := by decide +kernel
theorem dX5_simulate_36 : decode cX5_simulate 36 = .ok (.iconst 0, 1) := by decide +kernel
theorem dX5_simulate_37 : decode cX5_simulate 37 = .ok (.istore 6, 2) := by decide +kernel
theorem dX5_simulate_39 : decode cX5_simulate 39 = .ok (.iload 6, 2) := by decide +kernel
theorem dX5_simulate_41 : decode cX5_simulate 41 = .ok (.iload_n 3, 1) := by decide +kernel
theorem dX5_simulate_42 : decode cX5_simulate 42 = .ok (.if_icmp .ge 31, 3) := by decide +kernel
theorem dX5_simulate_45 : decode cX5_simulate 45 = .ok (.lload 4, 2) := by decide +kernel
theorem dX5_simulate_47 : decode cX5_simulate 47 = .ok (.ldc2_w 266, 3) := by decide +kernel
theorem dX5_simulate_50 : decode cX5_simulate 50 = .ok (.lmul, 1) := by decide +kernel
theorem dX5_simulate_51 : decode cX5_simulate 51 = .ok (.ldc2_w 268, 3) := by decide +kernel
theorem dX5_simulate_54 : decode cX5_simulate 54 = .ok (.ladd, 1) := by decide +kernel
theorem dX5_simulate_55 : decode cX5_simulate 55 = .ok (.lstore 4, 2) := by decide +kernel
theorem dX5_simulate_57 : decode cX5_simulate 57 = .ok (.aload_n 0, 1) := by decide +kernel
theorem dX5_simulate_58 : decode cX5_simulate 58 = .ok (.lload 4, 2) := by decide +kernel
theorem dX5_simulate_60 : decode cX5_simulate 60 = .ok (.bipush 33, 2) := by decide +kernel
theorem dX5_simulate_62 : decode cX5_simulate 62 = .ok (.lushr, 1) := by decide +kernel
theorem dX5_simulate_63 : decode cX5_simulate 63 = .ok (.l2i, 1) := by decide +kernel
theorem dX5_simulate_64 : decode cX5_simulate 64 = .ok (.invokevirtual 270, 3) := by decide +kernel
theorem dX5_simulate_67 : decode cX5_simulate 67 = .ok (.iinc 6 1, 3) := by decide +kernel
theorem dX5_simulate_70 : decode cX5_simulate 70 = .ok (.goto (-31), 3) := by decide +kernel
theorem dX5_simulate_73 : decode cX5_simulate 73 = .ok (.sipush 1000, 3) := by decide +kernel
theorem dX5_simulate_76 : decode cX5_simulate 76 = .ok (.aload_n 0, 1) := by decide +kernel
theorem dX5_simulate_77 : decode cX5_simulate 77 = .ok (.getfield 25, 3) := by decide +kernel
theorem dX5_simulate_80 : decode cX5_simulate 80 = .ok (.getfield 112, 3) := by decide +kernel
theorem dX5_simulate_83 : decode cX5_simulate 83 = .ok (.aload_n 0, 1) := by decide +kernel
theorem dX5_simulate_84 : decode cX5_simulate 84 = .ok (.getfield 21, 3) := by decide +kernel
theorem dX5_simulate_87 : decode cX5_simulate 87 = .ok (.getfield 112, 3) := by decide +kernel
theorem dX5_simulate_90 : decode cX5_simulate 90 = .ok (.isub, 1) := by decide +kernel
theorem dX5_simulate_91 : decode cX5_simulate 91 = .ok (.imul, 1) := by decide +kernel
theorem dX5_simulate_92 : decode cX5_simulate 92 = .ok (.aload_n 0, 1) := by decide +kernel
theorem dX5_simulate_93 : decode cX5_simulate 93 = .ok (.getfield 25, 3) := by decide +kernel
theorem dX5_simulate_96 : decode cX5_simulate 96 = .ok (.getfield 118, 3) := by decide +kernel
theorem dX5_simulate_99 : decode cX5_simulate 99 = .ok (.aload_n 0, 1) := by decide +kernel
theorem dX5_simulate_100 : decode cX5_simulate 100 = .ok (.getfield 21, 3) := by decide +kernel
theorem dX5_simulate_103 : decode cX5_simulate 103 = .ok (.getfield 118, 3) := by decide +kernel
theorem dX5_simulate_106 : decode cX5_simulate 106 = .ok (.isub, 1) := by decide +kernel
theorem dX5_simulate_107 : decode cX5_simulate 107 = .ok (.iadd, 1) := by decide +kernel
theorem dX5_simulate_108 : decode cX5_simulate 108 = .ok (.ireturn, 1) := by decide +kernel
theorem dX5_save_0 : decode cX5_save 0 = .ok (.iload_n 1, 1) := by decide +kernel
theorem dX5_save_1 : decode cX5_save 1 = .ok (.invokestatic 273, 3) := by decide +kernel
theorem dX5_save_4 : decode cX5_save 4 = .ok (.aload_n 0, 1) := by decide +kernel
theorem dX5_save_5 : decode cX5_save 5 = .ok (.getfield 35, 3) := by decide +kernel
theorem dX5_save_8 : decode cX5_save 8 = .ok (.iload_n 1, 1) := by decide +kernel
theorem dX5_save_9 : decode cX5_save 9 = .ok (.aaload, 1) := by decide +kernel
theorem dX5_save_10 : decode cX5_save 10 = .ok (.astore_n 2, 1) := by decide +kernel
theorem dX5_save_11 : decode cX5_save 11 = .ok (.aload_n 2, 1) := by decide +kernel
theorem dX5_save_12 : decode cX5_save 12 = .ok (.ifnonnull 18, 3) := by decide +kernel
theorem dX5_save_15 : decode cX5_save 15 = .ok (.new 18, 3) := by decide +kernel
theorem dX5_save_18 : decode cX5_save 18 = .ok (.dup, 1) := by decide +kernel
theorem dX5_save_19 : decode cX5_save 19 = .ok (.invokespecial 20, 3) := by decide +kernel
theorem dX5_save_22 : decode cX5_save 22 = .ok (.astore_n 2, 1) := by decide +kernel
theorem dX5_save_23 : decode cX5_save 23 = .ok (.aload_n 0, 1) := by decide +kernel
theorem dX5_save_24 : decode cX5_save 24 = .ok (.getfield 35, 3) := by decide +kernel
theorem dX5_save_27 : decode cX5_save 27 = .ok (.iload_n 1, 1) := by decide +kernel
theorem dX5_save_28 : decode cX5_save 28 = .ok (.aload_n 2, 1) := by decide +kernel
theorem dX5_save_29 : decode cX5_save 29 = .ok (.aastore, 1) := by decide +kernel
theorem dX5_save_30 : decode cX5_save 30 = .ok (.aload_n 2, 1) := by decide +kernel
theorem dX5_save_31 : decode cX5_save 31 = .ok (.aload_n 0, 1) := by decide +kernel
theorem dX5_save_32 : decode cX5_save 32 = .ok (.getfield 21, 3) := by decide +kernel
theorem dX5_save_35 : decode cX5_save 35 = .ok (.invokevirtual 221, 3) := by decide +kernel
theorem dX5_save_38 : decode cX5_save 38 = .ok (.aload_n 0, 1) := by decide +kernel
theorem dX5_save_39 : decode cX5_save 39 = .ok (.getfield 39, 3) := by decide +kernel
theorem dX5_save_42 : decode cX5_save 42 = .ok (.iload_n 1, 1) := by decide +kernel
theorem dX5_save_43 : decode cX5_save 43 = .ok (.iconst 1, 1) := by decide +kernel
theorem dX5_save_44 : decode cX5_save 44 = .ok (.bastore, 1) := by decide +kernel
theorem dX5_save_45 : decode cX5_save 45 = .ok (.aload_n 0, 1) := by decide +kernel
theorem dX5_save_46 : decode cX5_save 46 = .ok (.getfield 21, 3) := by decide +kernel
theorem dX5_save_49 : decode cX5_save 49 = .ok (.invokevirtual 106, 3) := by decide +kernel
theorem dX5_save_52 : decode cX5_save 52 = .ok (.ireturn, 1) := by decide +kernel
theorem dX5_restore_0 : decode cX5_restore 0 = .ok (.iload_n 1, 1) := by decide +kernel
theorem dX5_restore_1 : decode cX5_restore 1 = .ok (.invokestatic 273, 3) := by decide +kernel
theorem dX5_restore_4 : decode cX5_restore 4 = .ok (.aload_n 0, 1) := by decide +kernel
theorem dX5_restore_5 : decode cX5_restore 5 = .ok (.getfield 35, 3) := by decide +kernel
theorem dX5_restore_8 : decode cX5_restore 8 = .ok (.iload_n 1, 1) := by decide +kernel
theorem dX5_restore_9 : decode cX5_restore 9 = .ok (.aaload, 1) := by decide +kernel
theorem dX5_restore_10 : decode cX5_restore 10 = .ok (.astore_n 2, 1) := by decide +kernel
theorem dX5_restore_11 : decode cX5_restore 11 = .ok (.aload_n 2, 1) := by decide +kernel
theorem dX5_restore_12 : decode cX5_restore 12 = .ok (.ifnull 12, 3) := by decide +kernel
theorem dX5_restore_15 : decode cX5_restore 15 = .ok (.aload_n 0, 1) := by decide +kernel
theorem dX5_restore_16 : decode cX5_restore 16 = .ok (.getfield 39, 3) := by decide +kernel
theorem dX5_restore_19 : decode cX5_restore 19 = .ok (.iload_n 1, 1) := by decide +kernel
theorem dX5_restore_20 : decode cX5_restore 20 = .ok (.baload, 1) := by decide +kernel
theorem dX5_restore_21 : decode cX5_restore 21 = .ok (.ifCond .ne 14, 3) := by decide +kernel
theorem dX5_restore_24 : decode cX5_restore 24 = .ok (.new 54, 3) := by decide +kernel
theorem dX5_restore_27 : decode cX5_restore 27 = .ok (.dup, 1) := by decide +kernel
theorem dX5_restore_28 : decode cX5_restore 28 = .ok (.ldc_w 276, 3) := by decide +kernel
theorem dX5_restore_31 : decode cX5_restore 31 = .ok (.invokespecial 58, 3) := by decide +kernel
theorem dX5_restore_34 : decode cX5_restore 34 = .ok (.athrow, 1) := by decide +kernel
theorem dX5_restore_35 : decode cX5_restore 35 = .ok (.aload_n 0, 1) := by decide +kernel
theorem dX5_restore_36 : decode cX5_restore 36 = .ok (.getfield 21, 3) := by decide +kernel
theorem dX5_restore_39 : decode cX5_restore 39 = .ok (.aload_n 2, 1) := by decide +kernel
theorem dX5_restore_40 : decode cX5_restore 40 = .ok (.invokevirtual 221, 3) := by decide +kernel
theorem dX5_restore_43 : decode cX5_restore 43 = .ok (.aload_n 0, 1) := by decide +kernel
theorem dX5_restore_44 : decode cX5_restore 44 = .ok (.getfield 31, 3) := by decide +kernel
theorem dX5_restore_47 : decode cX5_restore 47 = .ok (.invokevirtual 96, 3) := by decide +kernel
theorem dX5_restore_50 : decode cX5_restore 50 = .ok (.aload_n 0, 1) := by decide +kernel
theorem dX5_restore_51 : decode cX5_restore 51 = .ok (.getfield 21, 3) := by decide +kernel
theorem dX5_restore_54 : decode cX5_restore 54 = .ok (.invokevirtual 106, 3) := by decide +kernel
theorem dX5_restore_57 : decode cX5_restore 57 = .ok (.ireturn, 1) := by decide +kernel
theorem dX5_isCell_0 : decode cX5_isCell 0 = .ok (.iload_n 0, 1) := by decide +kernel
theorem dX5_isCell_1 : decode cX5_isCell 1 = .ok (.ifCond .lt 13, 3) := by decide +kernel
theorem dX5_isCell_4 : decode cX5_isCell 4 = .ok (.iload_n 0, 1) := by decide +kernel
theorem dX5_isCell_5 : decode cX5_isCell 5 = .ok (.bipush 16, 2) := by decide +kernel
theorem dX5_isCell_7 : decode cX5_isCell 7 = .ok (.if_icmp .ge 7, 3) := by decide +kernel
theorem dX5_isCell_10 : decode cX5_isCell 10 = .ok (.iconst 1, 1) := by decide +kernel
theorem dX5_isCell_11 : decode cX5_isCell 11 = .ok (.goto 4, 3) := by decide +kernel
theorem dX5_isCell_14 : decode cX5_isCell 14 = .ok (.iconst 0, 1) := by decide +kernel
theorem dX5_isCell_15 : decode cX5_isCell 15 = .ok (.ireturn, 1) := by decide +kernel
theorem dX5_isValue_0 : decode cX5_isValue 0 = .ok (.iload_n 0, 1) := by decide +kernel
theorem dX5_isValue_1 : decode cX5_isValue 1 = .ok (.ifCond .lt 13, 3) := by decide +kernel
theorem dX5_isValue_4 : decode cX5_isValue 4 = .ok (.iload_n 0, 1) := by decide +kernel
theorem dX5_isValue_5 : decode cX5_isValue 5 = .ok (.bipush 100, 2) := by decide +kernel
theorem dX5_isValue_7 : decode cX5_isValue 7 = .ok (.if_icmp .ge 7, 3) := by decide +kernel
theorem dX5_isValue_10 : decode cX5_isValue 10 = .ok (.iconst 1, 1) := by decide +kernel
theorem dX5_isValue_11 : decode cX5_isValue 11 = .ok (.goto 4, 3) := by decide +kernel
theorem dX5_isValue_14 : decode cX5_isValue 14 = .ok (.iconst 0, 1) := by decide +kernel
theorem dX5_isValue_15 : decode cX5_isValue 15 = .ok (.ireturn, 1) := by decide +kernel
theorem dX5_isRegretNumber_0 : decode cX5_isRegretNumber 0 = .ok (.iload_n 0, 1) := by decide +kernel
theorem dX5_isRegretNumber_1 : decode cX5_isRegretNumber 1 = .ok (.iconst 1, 1) := by decide +kernel
theorem dX5_isRegretNumber_2 : decode cX5_isRegretNumber 2 = .ok (.if_icmp .lt 13, 3) := by decide +kernel
theorem dX5_isRegretNumber_5 : decode cX5_isRegretNumber 5 = .ok (.iload_n 0, 1) := by decide +kernel
theorem dX5_isRegretNumber_6 : decode cX5_isRegretNumber 6 = .ok (.bipush 100, 2) := by decide +kernel
theorem dX5_isRegretNumber_8 : decode cX5_isRegretNumber 8 = .ok (.if_icmp .ge 7, 3) := by decide +kernel
theorem dX5_isRegretNumber_11 : decode cX5_isRegretNumber 11 = .ok (.iconst 1, 1) := by decide +kernel
theorem dX5_isRegretNumber_12 : decode cX5_isRegretNumber 12 = .ok (.goto 4, 3) := by decide +kernel
theorem dX5_isRegretNumber_15 : decode cX5_isRegretNumber 15 = .ok (.iconst 0, 1) := by decide +kernel
theorem dX5_isRegretNumber_16 : decode cX5_isRegretNumber 16 = .ok (.ireturn, 1) := by decide +kernel
theorem dX5_existingWorker_0 : decode cX5_existingWorker 0 = .ok (.aload_n 0, 1) := by decide +kernel
theorem dX5_existingWorker_1 : decode cX5_existingWorker 1 = .ok (.getfield 21, 3) := by decide +kernel
theorem dX5_existingWorker_4 : decode cX5_existingWorker 4 = .ok (.iload_n 1, 1) := by decide +kernel
theorem dX5_existingWorker_5 : decode cX5_existingWorker 5 = .ok (.invokevirtual 232, 3) := by decide +kernel
theorem dX5_existingWorker_8 : decode cX5_existingWorker 8 = .ok (.astore_n 2, 1) := by decide +kernel
theorem dX5_existingWorker_9 : decode cX5_existingWorker 9 = .ok (.aload_n 2, 1) := by decide +kernel
theorem dX5_existingWorker_10 : decode cX5_existingWorker 10 = .ok (.ifnonnull 14, 3) := by decide +kernel
theorem dX5_existingWorker_13 : decode cX5_existingWorker 13 = .ok (.new 156, 3) := by decide +kernel
theorem dX5_existingWorker_16 : decode cX5_existingWorker 16 = .ok (.dup, 1) := by decide +kernel
theorem dX5_existingWorker_17 : decode cX5_existingWorker 17 = .ok (.ldc_w 278, 3) := by decide +kernel
theorem dX5_existingWorker_20 : decode cX5_existingWorker 20 = .ok (.invokespecial 160, 3) := by decide +kernel
theorem dX5_existingWorker_23 : decode cX5_existingWorker 23 = .ok (.athrow, 1) := by decide +kernel
theorem dX5_existingWorker_24 : decode cX5_existingWorker 24 = .ok (.aload_n 2, 1) := by decide +kernel
theorem dX5_existingWorker_25 : decode cX5_existingWorker 25 = .ok (.areturn, 1) := by decide +kernel
theorem dX5_requireCell_0 : decode cX5_requireCell 0 = .ok (.iload_n 0, 1) := by decide +kernel
theorem dX5_requireCell_1 : decode cX5_requireCell 1 = .ok (.invokestatic 280, 3) := by decide +kernel
theorem dX5_requireCell_4 : decode cX5_requireCell 4 = .ok (.ifCond .ne 14, 3) := by decide +kernel
theorem dX5_requireCell_7 : decode cX5_requireCell 7 = .ok (.new 156, 3) := by decide +kernel
theorem dX5_requireCell_10 : decode cX5_requireCell 10 = .ok (.dup, 1) := by decide +kernel
theorem dX5_requireCell_11 : decode cX5_requireCell 11 = .ok (.ldc_w 283, 3) := by decide +kernel
theorem dX5_requireCell_14 : decode cX5_requireCell 14 = .ok (.invokespecial 160, 3) := by decide +kernel
theorem dX5_requireCell_17 : decode cX5_requireCell 17 = .ok (.athrow, 1) := by decide +kernel
theorem dX5_requireCell_18 : decode cX5_requireCell 18 = .ok (.return_, 1) := by decide +kernel
theorem dX5_requirePoint_0 : decode cX5_requirePoint 0 = .ok (.aload_n 0, 1) := by decide +kernel
theorem dX5_requirePoint_1 : decode cX5_requirePoint 1 = .ok (.iload_n 1, 1) := by decide +kernel
theorem dX5_requirePoint_2 : decode cX5_requirePoint 2 = .ok (.invokevirtual 285, 3) := by decide +kernel
theorem dX5_requirePoint_5 : decode cX5_requirePoint 5 = .ok (.ifCond .ne 14, 3) := by decide +kernel
theorem dX5_requirePoint_8 : decode cX5_requirePoint 8 = .ok (.new 156, 3) := by decide +kernel
theorem dX5_requirePoint_11 : decode cX5_requirePoint 11 = .ok (.dup, 1) := by decide +kernel
theorem dX5_requirePoint_12 : decode cX5_requirePoint 12 = .ok (.ldc_w 288, 3) := by decide +kernel
theorem dX5_requirePoint_15 : decode cX5_requirePoint 15 = .ok (.invokespecial 160, 3) := by decide +kernel
theorem dX5_requirePoint_18 : decode cX5_requirePoint 18 = .ok (.athrow, 1) := by decide +kernel
theorem dX5_requirePoint_19 : decode cX5_requirePoint 19 = .ok (.return_, 1) := by decide +kernel
theorem dX5_requireSlot_0 : decode cX5_requireSlot 0 = .ok (.iload_n 0, 1) := by decide +kernel
theorem dX5_requireSlot_1 : decode cX5_requireSlot 1 = .ok (.ifCond .lt 8, 3) := by decide +kernel
theorem dX5_requireSlot_4 : decode cX5_requireSlot 4 = .ok (.iload_n 0, 1) := by decide +kernel
theorem dX5_requireSlot_5 : decode cX5_requireSlot 5 = .ok (.iconst 2, 1) := by decide +kernel
theorem dX5_requireSlot_6 : decode cX5_requireSlot 6 = .ok (.if_icmp .lt 14, 3) := by decide +kernel
theorem dX5_requireSlot_9 : decode cX5_requireSlot 9 = .ok (.new 156, 3) := by decide +kernel
theorem dX5_requireSlot_12 : decode cX5_requireSlot 12 = .ok (.dup, 1) := by decide +kernel
theorem dX5_requireSlot_13 : decode cX5_requireSlot 13 = .ok (.ldc_w 290, 3) := by decide +kernel
theorem dX5_requireSlot_16 : decode cX5_requireSlot 16 = .ok (.invokespecial 160, 3) := by decide +kernel
theorem dX5_requireSlot_19 : decode cX5_requireSlot 19 = .ok (.athrow, 1) := by decide +kernel
theorem dX5_requireSlot_20 : decode cX5_requireSlot 20 = .ok (.return_, 1) := by decide +kernel
theorem dX5_act_0 : decode cX5_act 0 = .ok (.aload_n 0, 1) := by decide +kernel
theorem dX5_act_1 : decode cX5_act 1 = .ok (.getfield 21, 3) := by decide +kernel
theorem dX5_act_4 : decode cX5_act 4 = .ok (.iload_n 1, 1) := by decide +kernel
theorem dX5_act_5 : decode cX5_act 5 = .ok (.aload_n 2, 1) := by decide +kernel
theorem dX5_act_6 : decode cX5_act 6 = .ok (.iload_n 3, 1) := by decide +kernel
theorem dX5_act_7 : decode cX5_act 7 = .ok (.iload 4, 2) := by decide +kernel
theorem dX5_act_9 : decode cX5_act 9 = .ok (.invokevirtual 292, 3) := by decide +kernel
theorem dX5_act_12 : decode cX5_act 12 = .ok (.ifCond .ne 14, 3) := by decide +kernel
theorem dX5_act_15 : decode cX5_act 15 = .ok (.new 54, 3) := by decide +kernel
theorem dX5_act_18 : decode cX5_act 18 = .ok (.dup, 1) := by decide +kernel
theorem dX5_act_19 : decode cX5_act 19 = .ok (.ldc_w 296, 3) := by decide +kernel
theorem dX5_act_22 : decode cX5_act 22 = .ok (.invokespecial 58, 3) := by decide +kernel
theorem dX5_act_25 : decode cX5_act 25 = .ok (.athrow, 1) := by decide +kernel
theorem dX5_act_26 : decode cX5_act 26 = .ok (.aload_n 0, 1) := by decide +kernel
theorem dX5_act_27 : decode cX5_act 27 = .ok (.getfield 31, 3) := by decide +kernel
theorem dX5_act_30 : decode cX5_act 30 = .ok (.aload_n 0, 1) := by decide +kernel
theorem dX5_act_31 : decode cX5_act 31 = .ok (.getfield 21, 3) := by decide +kernel
theorem dX5_act_34 : decode cX5_act 34 = .ok (.invokevirtual 204, 3) := by decide +kernel
theorem dX5_act_37 : decode cX5_act 37 = .ok (.aload_n 0, 1) := by decide +kernel
theorem dX5_act_38 : decode cX5_act 38 = .ok (.getfield 21, 3) := by decide +kernel
theorem dX5_act_41 : decode cX5_act 41 = .ok (.iload_n 1, 1) := by decide +kernel
theorem dX5_act_42 : decode cX5_act 42 = .ok (.aload_n 2, 1) := by decide +kernel
theorem dX5_act_43 : decode cX5_act 43 = .ok (.iload_n 3, 1) := by decide +kernel
theorem dX5_act_44 : decode cX5_act 44 = .ok (.iload 4, 2) := by decide +kernel
theorem dX5_act_46 : decode cX5_act 46 = .ok (.invokevirtual 298, 3) := by decide +kernel
theorem dX5_act_49 : decode cX5_act 49 = .ok (.ireturn, 1) := by decide +kernel
theorem dX5_emptySlots_0 : decode cX5_emptySlots 0 = .ok (.iconst 0, 1) := by decide +kernel
theorem dX5_emptySlots_1 : decode cX5_emptySlots 1 = .ok (.istore_n 1, 1) := by decide +kernel
theorem dX5_emptySlots_2 : decode cX5_emptySlots 2 = .ok (.iload_n 1, 1) := by decide +kernel
theorem dX5_emptySlots_3 : decode cX5_emptySlots 3 = .ok (.aload_n 0, 1) := by decide +kernel
theorem dX5_emptySlots_4 : decode cX5_emptySlots 4 = .ok (.getfield 39, 3) := by decide +kernel
theorem dX5_emptySlots_7 : decode cX5_emptySlots 7 = .ok (.arraylength, 1) := by decide +kernel
theorem dX5_emptySlots_8 : decode cX5_emptySlots 8 = .ok (.if_icmp .ge 16, 3) := by decide +kernel
theorem dX5_emptySlots_11 : decode cX5_emptySlots 11 = .ok (.aload_n 0, 1) := by decide +kernel
theorem dX5_emptySlots_12 : decode cX5_emptySlots 12 = .ok (.getfield 39, 3) := by decide +kernel
theorem dX5_emptySlots_15 : decode cX5_emptySlots 15 = .ok (.iload_n 1, 1) := by decide +kernel
theorem dX5_emptySlots_16 : decode cX5_emptySlots 16 = .ok (.iconst 0, 1) := by decide +kernel
theorem dX5_emptySlots_17 : decode cX5_emptySlots 17 = .ok (.bastore, 1) := by decide +kernel
theorem dX5_emptySlots_18 : decode cX5_emptySlots 18 = .ok (.iinc 1 1, 3) := by decide +kernel
theorem dX5_emptySlots_21 : decode cX5_emptySlots 21 = .ok (.goto (-19), 3) := by decide +kernel
theorem dX5_emptySlots_24 : decode cX5_emptySlots 24 = .ok (.return_, 1) := by decide +kernel
theorem dX5_shapeOf_0 : decode cX5_shapeOf 0 = .ok (.iload_n 0, 1) := by decide +kernel
theorem dX5_shapeOf_1 : decode cX5_shapeOf 1 = .ok (.tableswitch 107 98 115 #[87, 107, 87, 107, 87, 95, 107, 107, 107, 107, 107, 103, 107, 107, 87, 107, 99, 91], 87) := by decide +kernel
theorem dX5_shapeOf_88 : decode cX5_shapeOf 88 = .ok (.ldc_w 301, 3) := by decide +kernel
theorem dX5_shapeOf_91 : decode cX5_shapeOf 91 = .ok (.areturn, 1) := by decide +kernel
theorem dX5_shapeOf_92 : decode cX5_shapeOf 92 = .ok (.ldc_w 303, 3) := by decide +kernel
theorem dX5_shapeOf_95 : decode cX5_shapeOf 95 = .ok (.areturn, 1) := by decide +kernel
theorem dX5_shapeOf_96 : decode cX5_shapeOf 96 = .ok (.ldc_w 305, 3) := by decide +kernel
theorem dX5_shapeOf_99 : decode cX5_shapeOf 99 = .ok (.areturn, 1) := by decide +kernel
theorem dX5_shapeOf_100 : decode cX5_shapeOf 100 = .ok (.ldc_w 307, 3) := by decide +kernel
theorem dX5_shapeOf_103 : decode cX5_shapeOf 103 = .ok (.areturn, 1) := by decide +kernel
theorem dX5_shapeOf_104 : decode cX5_shapeOf 104 = .ok (.ldc_w 309, 3) := by decide +kernel
theorem dX5_shapeOf_107 : decode cX5_shapeOf 107 = .ok (.areturn, 1) := by decide +kernel
theorem dX5_shapeOf_108 : decode cX5_shapeOf 108 = .ok (.ldc_w 311, 3) := by decide +kernel
theorem dX5_shapeOf_111 : decode cX5_shapeOf 111 = .ok (.areturn, 1) := by decide +kernel
theorem dX5_countFitting_0 : decode cX5_countFitting 0 = .ok (.iconst 0, 1) := by decide +kernel
theorem dX5_countFitting_1 : decode cX5_countFitting 1 = .ok (.istore_n 3, 1) := by decide +kernel
theorem dX5_countFitting_2 : decode cX5_countFitting 2 = .ok (.iload_n 3, 1) := by decide +kernel
theorem dX5_countFitting_3 : decode cX5_countFitting 3 = .ok (.aload_n 2, 1) := by decide +kernel
theorem dX5_countFitting_4 : decode cX5_countFitting 4 = .ok (.invokevirtual 84, 3) := by decide +kernel
theorem dX5_countFitting_7 : decode cX5_countFitting 7 = .ok (.if_icmp .ge 42, 3) := by decide +kernel
theorem dX5_countFitting_10 : decode cX5_countFitting 10 = .ok (.iload_n 1, 1) := by decide +kernel
theorem dX5_countFitting_11 : decode cX5_countFitting 11 = .ok (.iload_n 3, 1) := by decide +kernel
theorem dX5_countFitting_12 : decode cX5_countFitting 12 = .ok (.iadd, 1) := by decide +kernel
theorem dX5_countFitting_13 : decode cX5_countFitting 13 = .ok (.istore 4, 2) := by decide +kernel
theorem dX5_countFitting_15 : decode cX5_countFitting 15 = .ok (.iload 4, 2) := by decide +kernel
theorem dX5_countFitting_17 : decode cX5_countFitting 17 = .ok (.aload_n 0, 1) := by decide +kernel
theorem dX5_countFitting_18 : decode cX5_countFitting 18 = .ok (.getfield 14, 3) := by decide +kernel
theorem dX5_countFitting_21 : decode cX5_countFitting 21 = .ok (.getfield 50, 3) := by decide +kernel
theorem dX5_countFitting_24 : decode cX5_countFitting 24 = .ok (.if_icmp .ge 17, 3) := by decide +kernel
theorem dX5_countFitting_27 : decode cX5_countFitting 27 = .ok (.aload_n 0, 1) := by decide +kernel
theorem dX5_countFitting_28 : decode cX5_countFitting 28 = .ok (.aload_n 2, 1) := by decide +kernel
theorem dX5_countFitting_29 : decode cX5_countFitting 29 = .ok (.iload_n 3, 1) := by decide +kernel
theorem dX5_countFitting_30 : decode cX5_countFitting 30 = .ok (.invokevirtual 313, 3) := by decide +kernel
theorem dX5_countFitting_33 : decode cX5_countFitting 33 = .ok (.iload 4, 2) := by decide +kernel
theorem dX5_countFitting_35 : decode cX5_countFitting 35 = .ok (.invokevirtual 317, 3) := by decide +kernel
theorem dX5_countFitting_38 : decode cX5_countFitting 38 = .ok (.ifCond .ne 5, 3) := by decide +kernel
theorem dX5_countFitting_41 : decode cX5_countFitting 41 = .ok (.iload_n 3, 1) := by decide +kernel
theorem dX5_countFitting_42 : decode cX5_countFitting 42 = .ok (.ireturn, 1) := by decide +kernel
theorem dX5_countFitting_43 : decode cX5_countFitting 43 = .ok (.iinc 3 1, 3) := by decide +kernel
theorem dX5_countFitting_46 : decode cX5_countFitting 46 = .ok (.goto (-44), 3) := by decide +kernel
theorem dX5_countFitting_49 : decode cX5_countFitting 49 = .ok (.aload_n 2, 1) := by decide +kernel
theorem dX5_countFitting_50 : decode cX5_countFitting 50 = .ok (.invokevirtual 84, 3) := by decide +kernel
theorem dX5_countFitting_53 : decode cX5_countFitting 53 = .ok (.ireturn, 1) := by decide +kernel
theorem dX5_fits_0 : decode cX5_fits 0 = .ok (.aload_n 0, 1) := by decide +kernel
theorem dX5_fits_1 : decode cX5_fits 1 = .ok (.iload_n 2, 1) := by decide +kernel
theorem dX5_fits_2 : decode cX5_fits 2 = .ok (.invokevirtual 321, 3) := by decide +kernel
theorem dX5_fits_5 : decode cX5_fits 5 = .ok (.istore_n 3, 1) := by decide +kernel
theorem dX5_fits_6 : decode cX5_fits 6 = .ok (.iload_n 3, 1) := by decide +kernel
theorem dX5_fits_7 : decode cX5_fits 7 = .ok (.ifCond .lt 9, 3) := by decide +kernel
theorem dX5_fits_10 : decode cX5_fits 10 = .ok (.iload_n 3, 1) := by decide +kernel
theorem dX5_fits_11 : decode cX5_fits 11 = .ok (.bipush 9, 2) := by decide +kernel
theorem dX5_fits_13 : decode cX5_fits 13 = .ok (.if_icmp .le 5, 3) := by decide +kernel
theorem dX5_fits_16 : decode cX5_fits 16 = .ok (.iconst 0, 1) := by decide +kernel
theorem dX5_fits_17 : decode cX5_fits 17 = .ok (.ireturn, 1) := by decide +kernel
theorem dX5_fits_18 : decode cX5_fits 18 = .ok (.iload_n 1, 1) := by decide +kernel
theorem dX5_fits_19 : decode cX5_fits 19 = .ok (.lookupswitch 120 #[(67, 90), (99, 98), (105, 68), (109, 79), (110, 109), (119, 57)], 57) := by decide +kernel
theorem dX5_fits_76 : decode cX5_fits 76 = .ok (.iload_n 3, 1) := by decide +kernel
theorem dX5_fits_77 : decode cX5_fits 77 = .ok (.iconst 3, 1) := by decide +kernel
theorem dX5_fits_78 : decode cX5_fits 78 = .ok (.if_icmp .ge 7, 3) := by decide +kernel
theorem dX5_fits_81 : decode cX5_fits 81 = .ok (.iconst 1, 1) := by decide +kernel
theorem dX5_fits_82 : decode cX5_fits 82 = .ok (.goto 4, 3) := by decide +kernel
theorem dX5_fits_85 : decode cX5_fits 85 = .ok (.iconst 0, 1) := by decide +kernel
theorem dX5_fits_86 : decode cX5_fits 86 = .ok (.ireturn, 1) := by decide +kernel
theorem dX5_fits_87 : decode cX5_fits 87 = .ok (.iload_n 3, 1) := by decide +kernel
theorem dX5_fits_88 : decode cX5_fits 88 = .ok (.iconst 4, 1) := by decide +kernel
theorem dX5_fits_89 : decode cX5_fits 89 = .ok (.if_icmp .ge 7, 3) := by decide +kernel
theorem dX5_fits_92 : decode cX5_fits 92 = .ok (.iconst 1, 1) := by decide +kernel
theorem dX5_fits_93 : decode cX5_fits 93 = .ok (.goto 4, 3) := by decide +kernel
theorem dX5_fits_96 : decode cX5_fits 96 = .ok (.iconst 0, 1) := by decide +kernel
theorem dX5_fits_97 : decode cX5_fits 97 = .ok (.ireturn, 1) := by decide +kernel
theorem dX5_fits_98 : decode cX5_fits 98 = .ok (.iload_n 3, 1) := by decide +kernel
theorem dX5_fits_99 : decode cX5_fits 99 = .ok (.iconst 3, 1) := by decide +kernel
theorem dX5_fits_100 : decode cX5_fits 100 = .ok (.if_icmp .gt 7, 3) := by decide +kernel
theorem dX5_fits_103 : decode cX5_fits 103 = .ok (.iconst 1, 1) := by decide +kernel
theorem dX5_fits_104 : decode cX5_fits 104 = .ok (.goto 4, 3) := by decide +kernel
theorem dX5_fits_107 : decode cX5_fits 107 = .ok (.iconst 0, 1) := by decide +kernel
theorem dX5_fits_108 : decode cX5_fits 108 = .ok (.ireturn, 1) := by decide +kernel
theorem dX5_fits_109 : decode cX5_fits 109 = .ok (.bipush 10, 2) := by decide +kernel
theorem dX5_fits_111 : decode cX5_fits 111 = .ok (.iload_n 3, 1) := by decide +kernel
theorem dX5_fits_112 : decode cX5_fits 112 = .ok (.imul, 1) := by decide +kernel
theorem dX5_fits_113 : decode cX5_fits 113 = .ok (.invokestatic 280, 3) := by decide +kernel
theorem dX5_fits_116 : decode cX5_fits 116 = .ok (.ireturn, 1) := by decide +kernel
theorem dX5_fits_117 : decode cX5_fits 117 = .ok (.aload_n 0, 1) := by decide +kernel
theorem dX5_fits_118 : decode cX5_fits 118 = .ok (.iload_n 2, 1) := by decide +kernel
theorem dX5_fits_119 : decode cX5_fits 119 = .ok (.iconst 1, 1) := by decide +kernel
theorem dX5_fits_120 : decode cX5_fits 120 = .ok (.isub, 1) := by decide +kernel
theorem dX5_fits_121 : decode cX5_fits 121 = .ok (.invokevirtual 324, 3) := by decide +kernel
theorem dX5_fits_124 : decode cX5_fits 124 = .ok (.invokestatic 280, 3) := by decide +kernel
theorem dX5_fits_127 : decode cX5_fits 127 = .ok (.ireturn, 1) := by decide +kernel
theorem dX5_fits_128 : decode cX5_fits 128 = .ok (.aload_n 0, 1) := by decide +kernel
theorem dX5_fits_129 : decode cX5_fits 129 = .ok (.iload_n 2, 1) := by decide +kernel
theorem dX5_fits_130 : decode cX5_fits 130 = .ok (.iconst 1, 1) := by decide +kernel
theorem dX5_fits_131 : decode cX5_fits 131 = .ok (.isub, 1) := by decide +kernel
theorem dX5_fits_132 : decode cX5_fits 132 = .ok (.invokevirtual 324, 3) := by decide +kernel
theorem dX5_fits_135 : decode cX5_fits 135 = .ok (.invokestatic 197, 3) := by decide +kernel
theorem dX5_fits_138 : decode cX5_fits 138 = .ok (.ireturn, 1) := by decide +kernel
theorem dX5_fits_139 : decode cX5_fits 139 = .ok (.iconst 1, 1) := by decide +kernel
theorem dX5_fits_140 : decode cX5_fits 140 = .ok (.ireturn, 1) := by decide +kernel
theorem dX5_digitAt_0 : decode cX5_digitAt 0 = .ok (.aload_n 0, 1) := by decide +kernel
theorem dX5_digitAt_1 : decode cX5_digitAt 1 = .ok (.getfield 14, 3) := by decide +kernel
theorem dX5_digitAt_4 : decode cX5_digitAt 4 = .ok (.iload_n 1, 1) := by decide +kernel
theorem dX5_digitAt_5 : decode cX5_digitAt 5 = .ok (.invokevirtual 66, 3) := by decide +kernel
theorem dX5_digitAt_8 : decode cX5_digitAt 8 = .ok (.bipush 48, 2) := by decide +kernel
theorem dX5_digitAt_10 : decode cX5_digitAt 10 = .ok (.isub, 1) := by decide +kernel
theorem dX5_digitAt_11 : decode cX5_digitAt 11 = .ok (.ireturn, 1) := by decide +kernel
theorem dX5_numberAt_0 : decode cX5_numberAt 0 = .ok (.bipush 10, 2) := by decide +kernel
theorem dX5_numberAt_2 : decode cX5_numberAt 2 = .ok (.aload_n 0, 1) := by decide +kernel
theorem dX5_numberAt_3 : decode cX5_numberAt 3 = .ok (.iload_n 1, 1) := by decide +kernel
theorem dX5_numberAt_4 : decode cX5_numberAt 4 = .ok (.invokevirtual 321, 3) := by decide +kernel
theorem dX5_numberAt_7 : decode cX5_numberAt 7 = .ok (.imul, 1) := by decide +kernel
theorem dX5_numberAt_8 : decode cX5_numberAt 8 = .ok (.aload_n 0, 1) := by decide +kernel
theorem dX5_numberAt_9 : decode cX5_numberAt 9 = .ok (.iload_n 1, 1) := by decide +kernel
theorem dX5_numberAt_10 : decode cX5_numberAt 10 = .ok (.iconst 1, 1) := by decide +kernel
theorem dX5_numberAt_11 : decode cX5_numberAt 11 = .ok (.iadd, 1) := by decide +kernel
theorem dX5_numberAt_12 : decode cX5_numberAt 12 = .ok (.invokevirtual 321, 3) := by decide +kernel
theorem dX5_numberAt_15 : decode cX5_numberAt 15 = .ok (.iadd, 1) := by decide +kernel
theorem dX5_numberAt_16 : decode cX5_numberAt 16 = .ok (.ireturn, 1) := by decide +kernel
theorem dX5_obeyText_0 : decode cX5_obeyText 0 = .ok (.aload_n 0, 1) := by decide +kernel
theorem dX5_obeyText_1 : decode cX5_obeyText 1 = .ok (.iload_n 1, 1) := by decide +kernel
theorem dX5_obeyText_2 : decode cX5_obeyText 2 = .ok (.iconst 1, 1) := by decide +kernel
theorem dX5_obeyText_3 : decode cX5_obeyText 3 = .ok (.iadd, 1) := by decide +kernel
theorem dX5_obeyText_4 : decode cX5_obeyText 4 = .ok (.invokevirtual 321, 3) := by decide +kernel
theorem dX5_obeyText_7 : decode cX5_obeyText 7 = .ok (.istore_n 2, 1) := by decide +kernel
theorem dX5_obeyText_8 : decode cX5_obeyText 8 = .ok (.iload_n 1, 1) := by decide +kernel
theorem dX5_obeyText_9 : decode cX5_obeyText 9 = .ok (.iconst 2, 1) := by decide +kernel
theorem dX5_obeyText_10 : decode cX5_obeyText 10 = .ok (.iadd, 1) := by decide +kernel
theorem dX5_obeyText_11 : decode cX5_obeyText 11 = .ok (.istore_n 3, 1) := by decide +kernel
theorem dX5_obeyText_12 : decode cX5_obeyText 12 = .ok (.aload_n 0, 1) := by decide +kernel
theorem dX5_obeyText_13 : decode cX5_obeyText 13 = .ok (.getfield 14, 3) := by decide +kernel
theorem dX5_obeyText_16 : decode cX5_obeyText 16 = .ok (.iload_n 1, 1) := by decide +kernel
theorem dX5_obeyText_17 : decode cX5_obeyText 17 = .ok (.invokevirtual 66, 3) := by decide +kernel
theorem dX5_obeyText_20 : decode cX5_obeyText 20 = .ok (.tableswitch 197 98 115 #[88, 197, 173, 197, 185, 151, 197, 197, 197, 197, 197, 197, 197, 197, 123, 197, 135, 100], 88) := by decide +kernel
theorem dX5_obeyText_108 : decode cX5_obeyText 108 = .ok (.aload_n 0, 1) := by decide +kernel
theorem dX5_obeyText_109 : decode cX5_obeyText 109 = .ok (.getfield 21, 3) := by decide +kernel
theorem dX5_obeyText_112 : decode cX5_obeyText 112 = .ok (.iconst 0, 1) := by decide +kernel
theorem dX5_obeyText_113 : decode cX5_obeyText 113 = .ok (.iload_n 2, 1) := by decide +kernel
theorem dX5_obeyText_114 : decode cX5_obeyText 114 = .ok (.iconst 0, 1) := by decide +kernel
theorem dX5_obeyText_115 : decode cX5_obeyText 115 = .ok (.iconst 0, 1) := by decide +kernel
theorem dX5_obeyText_116 : decode cX5_obeyText 116 = .ok (.invokevirtual 224, 3) := by decide +kernel
theorem dX5_obeyText_119 : decode cX5_obeyText 119 = .ok (.ireturn, 1) := by decide +kernel
theorem dX5_obeyText_120 : decode cX5_obeyText 120 = .ok (.aload_n 0, 1) := by decide +kernel
theorem dX5_obeyText_121 : decode cX5_obeyText 121 = .ok (.getfield 21, 3) := by decide +kernel
theorem dX5_obeyText_124 : decode cX5_obeyText 124 = .ok (.bipush 6, 2) := by decide +kernel
theorem dX5_obeyText_126 : decode cX5_obeyText 126 = .ok (.iload_n 2, 1) := by decide +kernel
theorem dX5_obeyText_127 : decode cX5_obeyText 127 = .ok (.aload_n 0, 1) := by decide +kernel
theorem dX5_obeyText_128 : decode cX5_obeyText 128 = .ok (.iload_n 3, 1) := by decide +kernel
theorem dX5_obeyText_129 : decode cX5_obeyText 129 = .ok (.invokevirtual 324, 3) := by decide +kernel
theorem dX5_obeyText_132 : decode cX5_obeyText 132 = .ok (.aload_n 0, 1) := by decide +kernel
theorem dX5_obeyText_133 : decode cX5_obeyText 133 = .ok (.iload_n 3, 1) := by decide +kernel
theorem dX5_obeyText_134 : decode cX5_obeyText 134 = .ok (.iconst 2, 1) := by decide +kernel
theorem dX5_obeyText_135 : decode cX5_obeyText 135 = .ok (.iadd, 1) := by decide +kernel
theorem dX5_obeyText_136 : decode cX5_obeyText 136 = .ok (.invokevirtual 324, 3) := by decide +kernel
theorem dX5_obeyText_139 : decode cX5_obeyText 139 = .ok (.invokevirtual 224, 3) := by decide +kernel
theorem dX5_obeyText_142 : decode cX5_obeyText 142 = .ok (.ireturn, 1) := by decide +kernel
theorem dX5_obeyText_143 : decode cX5_obeyText 143 = .ok (.aload_n 0, 1) := by decide +kernel
theorem dX5_obeyText_144 : decode cX5_obeyText 144 = .ok (.getfield 21, 3) := by decide +kernel
theorem dX5_obeyText_147 : decode cX5_obeyText 147 = .ok (.iconst 3, 1) := by decide +kernel
theorem dX5_obeyText_148 : decode cX5_obeyText 148 = .ok (.iload_n 2, 1) := by decide +kernel
theorem dX5_obeyText_149 : decode cX5_obeyText 149 = .ok (.iconst 0, 1) := by decide +kernel
theorem dX5_obeyText_150 : decode cX5_obeyText 150 = .ok (.iconst 0, 1) := by decide +kernel
theorem dX5_obeyText_151 : decode cX5_obeyText 151 = .ok (.invokevirtual 224, 3) := by decide +kernel
theorem dX5_obeyText_154 : decode cX5_obeyText 154 = .ok (.ireturn, 1) := by decide +kernel
theorem dX5_obeyText_155 : decode cX5_obeyText 155 = .ok (.aload_n 0, 1) := by decide +kernel
theorem dX5_obeyText_156 : decode cX5_obeyText 156 = .ok (.getfield 21, 3) := by decide +kernel
theorem dX5_obeyText_159 : decode cX5_obeyText 159 = .ok (.iconst 4, 1) := by decide +kernel
theorem dX5_obeyText_160 : decode cX5_obeyText 160 = .ok (.iload_n 2, 1) := by decide +kernel
theorem dX5_obeyText_161 : decode cX5_obeyText 161 = .ok (.aload_n 0, 1) := by decide +kernel
theorem dX5_obeyText_162 : decode cX5_obeyText 162 = .ok (.iload_n 3, 1) := by decide +kernel
theorem dX5_obeyText_163 : decode cX5_obeyText 163 = .ok (.invokevirtual 321, 3) := by decide +kernel
theorem dX5_obeyText_166 : decode cX5_obeyText 166 = .ok (.iconst 0, 1) := by decide +kernel
theorem dX5_obeyText_167 : decode cX5_obeyText 167 = .ok (.invokevirtual 224, 3) := by decide +kernel
theorem dX5_obeyText_170 : decode cX5_obeyText 170 = .ok (.ireturn, 1) := by decide +kernel
theorem dX5_obeyText_171 : decode cX5_obeyText 171 = .ok (.aload_n 0, 1) := by decide +kernel
theorem dX5_obeyText_172 : decode cX5_obeyText 172 = .ok (.getfield 21, 3) := by decide +kernel
theorem dX5_obeyText_175 : decode cX5_obeyText 175 = .ok (.iconst 5, 1) := by decide +kernel
theorem dX5_obeyText_176 : decode cX5_obeyText 176 = .ok (.iload_n 2, 1) := by decide +kernel
theorem dX5_obeyText_177 : decode cX5_obeyText 177 = .ok (.aload_n 0, 1) := by decide +kernel
theorem dX5_obeyText_178 : decode cX5_obeyText 178 = .ok (.iload_n 3, 1) := by decide +kernel
theorem dX5_obeyText_179 : decode cX5_obeyText 179 = .ok (.invokevirtual 324, 3) := by decide +kernel
theorem dX5_obeyText_182 : decode cX5_obeyText 182 = .ok (.aload_n 0, 1) := by decide +kernel
theorem dX5_obeyText_183 : decode cX5_obeyText 183 = .ok (.iload_n 3, 1) := by decide +kernel
theorem dX5_obeyText_184 : decode cX5_obeyText 184 = .ok (.iconst 2, 1) := by decide +kernel
theorem dX5_obeyText_185 : decode cX5_obeyText 185 = .ok (.iadd, 1) := by decide +kernel
theorem dX5_obeyText_186 : decode cX5_obeyText 186 = .ok (.invokevirtual 324, 3) := by decide +kernel
theorem dX5_obeyText_189 : decode cX5_obeyText 189 = .ok (.invokevirtual 224, 3) := by decide +kernel
theorem dX5_obeyText_192 : decode cX5_obeyText 192 = .ok (.ireturn, 1) := by decide +kernel
theorem dX5_obeyText_193 : decode cX5_obeyText 193 = .ok (.aload_n 0, 1) := by decide +kernel
theorem dX5_obeyText_194 : decode cX5_obeyText 194 = .ok (.getfield 21, 3) := by decide +kernel
theorem dX5_obeyText_197 : decode cX5_obeyText 197 = .ok (.iconst 1, 1) := by decide +kernel
theorem dX5_obeyText_198 : decode cX5_obeyText 198 = .ok (.iload_n 2, 1) := by decide +kernel
theorem dX5_obeyText_199 : decode cX5_obeyText 199 = .ok (.iconst 0, 1) := by decide +kernel
theorem dX5_obeyText_200 : decode cX5_obeyText 200 = .ok (.iconst 0, 1) := by decide +kernel
theorem dX5_obeyText_201 : decode cX5_obeyText 201 = .ok (.invokevirtual 224, 3) := by decide +kernel
theorem dX5_obeyText_204 : decode cX5_obeyText 204 = .ok (.ireturn, 1) := by decide +kernel
theorem dX5_obeyText_205 : decode cX5_obeyText 205 = .ok (.aload_n 0, 1) := by decide +kernel
theorem dX5_obeyText_206 : decode cX5_obeyText 206 = .ok (.getfield 21, 3) := by decide +kernel
theorem dX5_obeyText_209 : decode cX5_obeyText 209 = .ok (.iconst 2, 1) := by decide +kernel
theorem dX5_obeyText_210 : decode cX5_obeyText 210 = .ok (.iload_n 2, 1) := by decide +kernel
theorem dX5_obeyText_211 : decode cX5_obeyText 211 = .ok (.iconst 0, 1) := by decide +kernel
theorem dX5_obeyText_212 : decode cX5_obeyText 212 = .ok (.iconst 0, 1) := by decide +kernel
theorem dX5_obeyText_213 : decode cX5_obeyText 213 = .ok (.invokevirtual 224, 3) := by decide +kernel
theorem dX5_obeyText_216 : decode cX5_obeyText 216 = .ok (.ireturn, 1) := by decide +kernel
theorem dX5_obeyText_217 : decode cX5_obeyText 217 = .ok (.aload_n 0, 1) := by decide +kernel
theorem dX5_obeyText_218 : decode cX5_obeyText 218 = .ok (.getfield 21, 3) := by decide +kernel
theorem dX5_obeyText_221 : decode cX5_obeyText 221 = .ok (.iload_n 2, 1) := by decide +kernel
theorem dX5_obeyText_222 : decode cX5_obeyText 222 = .ok (.putfield 115, 3) := by decide +kernel
theorem dX5_obeyText_225 : decode cX5_obeyText 225 = .ok (.iconst 1, 1) := by decide +kernel
theorem dX5_obeyText_226 : decode cX5_obeyText 226 = .ok (.ireturn, 1) := by decide +kernel
theorem dX5_dropGroups_0 : decode cX5_dropGroups 0 = .ok (.lload_n 0, 1) := by decide +kernel
theorem dX5_dropGroups_1 : decode cX5_dropGroups 1 = .ok (.lstore_n 3, 1) := by decide +kernel
theorem dX5_dropGroups_2 : decode cX5_dropGroups 2 = .ok (.iconst 0, 1) := by decide +kernel
theorem dX5_dropGroups_3 : decode cX5_dropGroups 3 = .ok (.istore 5, 2) := by decide +kernel
theorem dX5_dropGroups_5 : decode cX5_dropGroups 5 = .ok (.iload 5, 2) := by decide +kernel
theorem dX5_dropGroups_7 : decode cX5_dropGroups 7 = .ok (.iload_n 2, 1) := by decide +kernel
theorem dX5_dropGroups_8 : decode cX5_dropGroups 8 = .ok (.if_icmp .ge 15, 3) := by decide +kernel
theorem dX5_dropGroups_11 : decode cX5_dropGroups 11 = .ok (.lload_n 3, 1) := by decide +kernel
theorem dX5_dropGroups_12 : decode cX5_dropGroups 12 = .ok (.ldc2_w 259, 3) := by decide +kernel
theorem dX5_dropGroups_15 : decode cX5_dropGroups 15 = .ok (.ldiv, 1) := by decide +kernel
theorem dX5_dropGroups_16 : decode cX5_dropGroups 16 = .ok (.lstore_n 3, 1) := by decide +kernel
theorem dX5_dropGroups_17 : decode cX5_dropGroups 17 = .ok (.iinc 5 1, 3) := by decide +kernel
theorem dX5_dropGroups_20 : decode cX5_dropGroups 20 = .ok (.goto (-15), 3) := by decide +kernel
theorem dX5_dropGroups_23 : decode cX5_dropGroups 23 = .ok (.lload_n 3, 1) := by decide +kernel
theorem dX5_dropGroups_24 : decode cX5_dropGroups 24 = .ok (.lreturn, 1) := by decide +kernel
theorem dX5_obeyGroup_0 : decode cX5_obeyGroup 0 = .ok (.iload_n 1, 1) := by decide +kernel
theorem dX5_obeyGroup_1 : decode cX5_obeyGroup 1 = .ok (.sipush 1000, 3) := by decide +kernel
theorem dX5_obeyGroup_4 : decode cX5_obeyGroup 4 = .ok (.idiv, 1) := by decide +kernel
theorem dX5_obeyGroup_5 : decode cX5_obeyGroup 5 = .ok (.bipush 10, 2) := by decide +kernel
theorem dX5_obeyGroup_7 : decode cX5_obeyGroup 7 = .ok (.irem, 1) := by decide +kernel
theorem dX5_obeyGroup_8 : decode cX5_obeyGroup 8 = .ok (.istore_n 2, 1) := by decide +kernel
theorem dX5_obeyGroup_9 : decode cX5_obeyGroup 9 = .ok (.iload_n 1, 1) := by decide +kernel
theorem dX5_obeyGroup_10 : decode cX5_obeyGroup 10 = .ok (.bipush 10, 2) := by decide +kernel
theorem dX5_obeyGroup_12 : decode cX5_obeyGroup 12 = .ok (.idiv, 1) := by decide +kernel
theorem dX5_obeyGroup_13 : decode cX5_obeyGroup 13 = .ok (.bipush 100, 2) := by decide +kernel
theorem dX5_obeyGroup_15 : decode cX5_obeyGroup 15 = .ok (.irem, 1) := by decide +kernel
theorem dX5_obeyGroup_16 : decode cX5_obeyGroup 16 = .ok (.istore_n 3, 1) := by decide +kernel
theorem dX5_obeyGroup_17 : decode cX5_obeyGroup 17 = .ok (.iload_n 1, 1) := by decide +kernel
theorem dX5_obeyGroup_18 : decode cX5_obeyGroup 18 = .ok (.bipush 10, 2) := by decide +kernel
theorem dX5_obeyGroup_20 : decode cX5_obeyGroup 20 = .ok (.irem, 1) := by decide +kernel
theorem dX5_obeyGroup_21 : decode cX5_obeyGroup 21 = .ok (.istore 4, 2) := by decide +kernel
theorem dX5_obeyGroup_23 : decode cX5_obeyGroup 23 = .ok (.iload_n 1, 1) := by decide +kernel
theorem dX5_obeyGroup_24 : decode cX5_obeyGroup 24 = .ok (.sipush 10000, 3) := by decide +kernel
theorem dX5_obeyGroup_27 : decode cX5_obeyGroup 27 = .ok (.idiv, 1) := by decide +kernel
theorem dX5_obeyGroup_28 : decode cX5_obeyGroup 28 = .ok (.tableswitch 152 1 5 #[36, 67, 81, 106, 119], 36) := by decide +kernel
theorem dX5_obeyGroup_64 : decode cX5_obeyGroup 64 = .ok (.iload_n 3, 1) := by decide +kernel
theorem dX5_obeyGroup_65 : decode cX5_obeyGroup 65 = .ok (.ifCond .ne 28, 3) := by decide +kernel
theorem dX5_obeyGroup_68 : decode cX5_obeyGroup 68 = .ok (.iload 4, 2) := by decide +kernel
theorem dX5_obeyGroup_70 : decode cX5_obeyGroup 70 = .ok (.iconst 3, 1) := by decide +kernel
theorem dX5_obeyGroup_71 : decode cX5_obeyGroup 71 = .ok (.if_icmp .gt 22, 3) := by decide +kernel
theorem dX5_obeyGroup_74 : decode cX5_obeyGroup 74 = .ok (.aload_n 0, 1) := by decide +kernel
theorem dX5_obeyGroup_75 : decode cX5_obeyGroup 75 = .ok (.getfield 25, 3) := by decide +kernel
theorem dX5_obeyGroup_78 : decode cX5_obeyGroup 78 = .ok (.iload 4, 2) := by decide +kernel
theorem dX5_obeyGroup_80 : decode cX5_obeyGroup 80 = .ok (.iload_n 2, 1) := by decide +kernel
theorem dX5_obeyGroup_81 : decode cX5_obeyGroup 81 = .ok (.iconst 0, 1) := by decide +kernel
theorem dX5_obeyGroup_82 : decode cX5_obeyGroup 82 = .ok (.iconst 0, 1) := by decide +kernel
theorem dX5_obeyGroup_83 : decode cX5_obeyGroup 83 = .ok (.invokevirtual 224, 3) := by decide +kernel
theorem dX5_obeyGroup_86 : decode cX5_obeyGroup 86 = .ok (.ifCond .eq 7, 3) := by decide +kernel
theorem dX5_obeyGroup_89 : decode cX5_obeyGroup 89 = .ok (.iconst 1, 1) := by decide +kernel
theorem dX5_obeyGroup_90 : decode cX5_obeyGroup 90 = .ok (.goto 4, 3) := by decide +kernel
theorem dX5_obeyGroup_93 : decode cX5_obeyGroup 93 = .ok (.iconst 0, 1) := by decide +kernel
theorem dX5_obeyGroup_94 : decode cX5_obeyGroup 94 = .ok (.ireturn, 1) := by decide +kernel
theorem dX5_obeyGroup_95 : decode cX5_obeyGroup 95 = .ok (.aload_n 0, 1) := by decide +kernel
theorem dX5_obeyGroup_96 : decode cX5_obeyGroup 96 = .ok (.getfield 25, 3) := by decide +kernel
theorem dX5_obeyGroup_99 : decode cX5_obeyGroup 99 = .ok (.bipush 6, 2) := by decide +kernel
theorem dX5_obeyGroup_101 : decode cX5_obeyGroup 101 = .ok (.iload_n 2, 1) := by decide +kernel
theorem dX5_obeyGroup_102 : decode cX5_obeyGroup 102 = .ok (.iload_n 3, 1) := by decide +kernel
theorem dX5_obeyGroup_103 : decode cX5_obeyGroup 103 = .ok (.iload 4, 2) := by decide +kernel
theorem dX5_obeyGroup_105 : decode cX5_obeyGroup 105 = .ok (.invokevirtual 224, 3) := by decide +kernel
theorem dX5_obeyGroup_108 : decode cX5_obeyGroup 108 = .ok (.ireturn, 1) := by decide +kernel
theorem dX5_obeyGroup_109 : decode cX5_obeyGroup 109 = .ok (.iload_n 3, 1) := by decide +kernel
theorem dX5_obeyGroup_110 : decode cX5_obeyGroup 110 = .ok (.ifCond .ne 22, 3) := by decide +kernel
theorem dX5_obeyGroup_113 : decode cX5_obeyGroup 113 = .ok (.aload_n 0, 1) := by decide +kernel
theorem dX5_obeyGroup_114 : decode cX5_obeyGroup 114 = .ok (.getfield 25, 3) := by decide +kernel
theorem dX5_obeyGroup_117 : decode cX5_obeyGroup 117 = .ok (.iconst 4, 1) := by decide +kernel
theorem dX5_obeyGroup_118 : decode cX5_obeyGroup 118 = .ok (.iload_n 2, 1) := by decide +kernel
theorem dX5_obeyGroup_119 : decode cX5_obeyGroup 119 = .ok (.iload 4, 2) := by decide +kernel
theorem dX5_obeyGroup_121 : decode cX5_obeyGroup 121 = .ok (.iconst 0, 1) := by decide +kernel
theorem dX5_obeyGroup_122 : decode cX5_obeyGroup 122 = .ok (.invokevirtual 224, 3) := by decide +kernel
theorem dX5_obeyGroup_125 : decode cX5_obeyGroup 125 = .ok (.ifCond .eq 7, 3) := by decide +kernel
theorem dX5_obeyGroup_128 : decode cX5_obeyGroup 128 = .ok (.iconst 1, 1) := by decide +kernel
theorem dX5_obeyGroup_129 : decode cX5_obeyGroup 129 = .ok (.goto 4, 3) := by decide +kernel
theorem dX5_obeyGroup_132 : decode cX5_obeyGroup 132 = .ok (.iconst 0, 1) := by decide +kernel
theorem dX5_obeyGroup_133 : decode cX5_obeyGroup 133 = .ok (.ireturn, 1) := by decide +kernel
theorem dX5_obeyGroup_134 : decode cX5_obeyGroup 134 = .ok (.aload_n 0, 1) := by decide +kernel
theorem dX5_obeyGroup_135 : decode cX5_obeyGroup 135 = .ok (.getfield 25, 3) := by decide +kernel
theorem dX5_obeyGroup_138 : decode cX5_obeyGroup 138 = .ok (.iconst 5, 1) := by decide +kernel
theorem dX5_obeyGroup_139 : decode cX5_obeyGroup 139 = .ok (.iload_n 2, 1) := by decide +kernel
theorem dX5_obeyGroup_140 : decode cX5_obeyGroup 140 = .ok (.iload_n 3, 1) := by decide +kernel
theorem dX5_obeyGroup_141 : decode cX5_obeyGroup 141 = .ok (.iload 4, 2) := by decide +kernel
theorem dX5_obeyGroup_143 : decode cX5_obeyGroup 143 = .ok (.invokevirtual 224, 3) := by decide +kernel
theorem dX5_obeyGroup_146 : decode cX5_obeyGroup 146 = .ok (.ireturn, 1) := by decide +kernel
theorem dX5_obeyGroup_147 : decode cX5_obeyGroup 147 = .ok (.iload_n 2, 1) := by decide +kernel
theorem dX5_obeyGroup_148 : decode cX5_obeyGroup 148 = .ok (.ifCond .ne 30, 3) := by decide +kernel
theorem dX5_obeyGroup_151 : decode cX5_obeyGroup 151 = .ok (.iload_n 3, 1) := by decide +kernel
theorem dX5_obeyGroup_152 : decode cX5_obeyGroup 152 = .ok (.invokestatic 280, 3) := by decide +kernel
theorem dX5_obeyGroup_155 : decode cX5_obeyGroup 155 = .ok (.ifCond .eq 23, 3) := by decide +kernel
theorem dX5_obeyGroup_158 : decode cX5_obeyGroup 158 = .ok (.aload_n 0, 1) := by decide +kernel
theorem dX5_obeyGroup_159 : decode cX5_obeyGroup 159 = .ok (.getfield 25, 3) := by decide +kernel
theorem dX5_obeyGroup_162 : decode cX5_obeyGroup 162 = .ok (.getfield 129, 3) := by decide +kernel
theorem dX5_obeyGroup_165 : decode cX5_obeyGroup 165 = .ok (.iload_n 3, 1) := by decide +kernel
theorem dX5_obeyGroup_166 : decode cX5_obeyGroup 166 = .ok (.invokevirtual 66, 3) := by decide +kernel
theorem dX5_obeyGroup_169 : decode cX5_obeyGroup 169 = .ok (.iload 4, 2) := by decide +kernel
theorem dX5_obeyGroup_171 : decode cX5_obeyGroup 171 = .ok (.if_icmp .ne 7, 3) := by decide +kernel
theorem dX5_obeyGroup_174 : decode cX5_obeyGroup 174 = .ok (.iconst 1, 1) := by decide +kernel
theorem dX5_obeyGroup_175 : decode cX5_obeyGroup 175 = .ok (.goto 4, 3) := by decide +kernel
theorem dX5_obeyGroup_178 : decode cX5_obeyGroup 178 = .ok (.iconst 0, 1) := by decide +kernel
theorem dX5_obeyGroup_179 : decode cX5_obeyGroup 179 = .ok (.ireturn, 1) := by decide +kernel
theorem dX5_obeyGroup_180 : decode cX5_obeyGroup 180 = .ok (.aload_n 0, 1) := by decide +kernel
theorem dX5_obeyGroup_181 : decode cX5_obeyGroup 181 = .ok (.iload_n 1, 1) := by decide +kernel
theorem dX5_obeyGroup_182 : decode cX5_obeyGroup 182 = .ok (.sipush 10000, 3) := by decide +kernel
theorem dX5_obeyGroup_185 : decode cX5_obeyGroup 185 = .ok (.idiv, 1) := by decide +kernel
theorem dX5_obeyGroup_186 : decode cX5_obeyGroup 186 = .ok (.iload_n 2, 1) := by decide +kernel
theorem dX5_obeyGroup_187 : decode cX5_obeyGroup 187 = .ok (.iload_n 3, 1) := by decide +kernel
theorem dX5_obeyGroup_188 : decode cX5_obeyGroup 188 = .ok (.iload 4, 2) := by decide +kernel
theorem dX5_obeyGroup_190 : decode cX5_obeyGroup 190 = .ok (.invokevirtual 327, 3) := by decide +kernel
theorem dX5_obeyGroup_193 : decode cX5_obeyGroup 193 = .ok (.ireturn, 1) := by decide +kernel
theorem dX5_isTrueOfWorker_0 : decode cX5_isTrueOfWorker 0 = .ok (.aload_n 0, 1) := by decide +kernel
theorem dX5_isTrueOfWorker_1 : decode cX5_isTrueOfWorker 1 = .ok (.getfield 25, 3) := by decide +kernel
theorem dX5_isTrueOfWorker_4 : decode cX5_isTrueOfWorker 4 = .ok (.iload_n 2, 1) := by decide +kernel
theorem dX5_isTrueOfWorker_5 : decode cX5_isTrueOfWorker 5 = .ok (.invokevirtual 232, 3) := by decide +kernel
theorem dX5_isTrueOfWorker_8 : decode cX5_isTrueOfWorker 8 = .ok (.astore 5, 2) := by decide +kernel
theorem dX5_isTrueOfWorker_10 : decode cX5_isTrueOfWorker 10 = .ok (.aload 5, 2) := by decide +kernel
theorem dX5_isTrueOfWorker_12 : decode cX5_isTrueOfWorker 12 = .ok (.ifnonnull 5, 3) := by decide +kernel
theorem dX5_isTrueOfWorker_15 : decode cX5_isTrueOfWorker 15 = .ok (.iconst 0, 1) := by decide +kernel
theorem dX5_isTrueOfWorker_16 : decode cX5_isTrueOfWorker 16 = .ok (.ireturn, 1) := by decide +kernel
theorem dX5_isTrueOfWorker_17 : decode cX5_isTrueOfWorker 17 = .ok (.iload_n 1, 1) := by decide +kernel
theorem dX5_isTrueOfWorker_18 : decode cX5_isTrueOfWorker 18 = .ok (.tableswitch 136 6 9 #[30, 63, 83, 106], 30) := by decide +kernel
theorem dX5_isTrueOfWorker_48 : decode cX5_isTrueOfWorker 48 = .ok (.iload 4, 2) := by decide +kernel
theorem dX5_isTrueOfWorker_50 : decode cX5_isTrueOfWorker 50 = .ok (.ifCond .ne 29, 3) := by decide +kernel
theorem dX5_isTrueOfWorker_53 : decode cX5_isTrueOfWorker 53 = .ok (.iload_n 3, 1) := by decide +kernel
theorem dX5_isTrueOfWorker_54 : decode cX5_isTrueOfWorker 54 = .ok (.invokestatic 280, 3) := by decide +kernel
theorem dX5_isTrueOfWorker_57 : decode cX5_isTrueOfWorker 57 = .ok (.ifCond .eq 22, 3) := by decide +kernel
theorem dX5_isTrueOfWorker_60 : decode cX5_isTrueOfWorker 60 = .ok (.aload_n 0, 1) := by decide +kernel
theorem dX5_isTrueOfWorker_61 : decode cX5_isTrueOfWorker 61 = .ok (.getfield 25, 3) := by decide +kernel
theorem dX5_isTrueOfWorker_64 : decode cX5_isTrueOfWorker 64 = .ok (.getfield 132, 3) := by decide +kernel
theorem dX5_isTrueOfWorker_67 : decode cX5_isTrueOfWorker 67 = .ok (.iload_n 3, 1) := by decide +kernel
theorem dX5_isTrueOfWorker_68 : decode cX5_isTrueOfWorker 68 = .ok (.invokevirtual 66, 3) := by decide +kernel
theorem dX5_isTrueOfWorker_71 : decode cX5_isTrueOfWorker 71 = .ok (.iload_n 2, 1) := by decide +kernel
theorem dX5_isTrueOfWorker_72 : decode cX5_isTrueOfWorker 72 = .ok (.if_icmp .ne 7, 3) := by decide +kernel
theorem dX5_isTrueOfWorker_75 : decode cX5_isTrueOfWorker 75 = .ok (.iconst 1, 1) := by decide +kernel
theorem dX5_isTrueOfWorker_76 : decode cX5_isTrueOfWorker 76 = .ok (.goto 4, 3) := by decide +kernel
theorem dX5_isTrueOfWorker_79 : decode cX5_isTrueOfWorker 79 = .ok (.iconst 0, 1) := by decide +kernel
theorem dX5_isTrueOfWorker_80 : decode cX5_isTrueOfWorker 80 = .ok (.ireturn, 1) := by decide +kernel
theorem dX5_isTrueOfWorker_81 : decode cX5_isTrueOfWorker 81 = .ok (.iload_n 3, 1) := by decide +kernel
theorem dX5_isTrueOfWorker_82 : decode cX5_isTrueOfWorker 82 = .ok (.ifCond .ne 17, 3) := by decide +kernel
theorem dX5_isTrueOfWorker_85 : decode cX5_isTrueOfWorker 85 = .ok (.aload 5, 2) := by decide +kernel
theorem dX5_isTrueOfWorker_87 : decode cX5_isTrueOfWorker 87 = .ok (.getfield 242, 3) := by decide +kernel
theorem dX5_isTrueOfWorker_90 : decode cX5_isTrueOfWorker 90 = .ok (.iload 4, 2) := by decide +kernel
theorem dX5_isTrueOfWorker_92 : decode cX5_isTrueOfWorker 92 = .ok (.if_icmp .ne 7, 3) := by decide +kernel
theorem dX5_isTrueOfWorker_95 : decode cX5_isTrueOfWorker 95 = .ok (.iconst 1, 1) := by decide +kernel
theorem dX5_isTrueOfWorker_96 : decode cX5_isTrueOfWorker 96 = .ok (.goto 4, 3) := by decide +kernel
theorem dX5_isTrueOfWorker_99 : decode cX5_isTrueOfWorker 99 = .ok (.iconst 0, 1) := by decide +kernel
theorem dX5_isTrueOfWorker_100 : decode cX5_isTrueOfWorker 100 = .ok (.ireturn, 1) := by decide +kernel
theorem dX5_isTrueOfWorker_101 : decode cX5_isTrueOfWorker 101 = .ok (.iload_n 3, 1) := by decide +kernel
theorem dX5_isTrueOfWorker_102 : decode cX5_isTrueOfWorker 102 = .ok (.ifCond .ne 20, 3) := by decide +kernel
theorem dX5_isTrueOfWorker_105 : decode cX5_isTrueOfWorker 105 = .ok (.iload 4, 2) := by decide +kernel
theorem dX5_isTrueOfWorker_107 : decode cX5_isTrueOfWorker 107 = .ok (.ifCond .ne 15, 3) := by decide +kernel
theorem dX5_isTrueOfWorker_110 : decode cX5_isTrueOfWorker 110 = .ok (.aload 5, 2) := by decide +kernel
theorem dX5_isTrueOfWorker_112 : decode cX5_isTrueOfWorker 112 = .ok (.invokevirtual 330, 3) := by decide +kernel
theorem dX5_isTrueOfWorker_115 : decode cX5_isTrueOfWorker 115 = .ok (.ifCond .eq 7, 3) := by decide +kernel
theorem dX5_isTrueOfWorker_118 : decode cX5_isTrueOfWorker 118 = .ok (.iconst 1, 1) := by decide +kernel
theorem dX5_isTrueOfWorker_119 : decode cX5_isTrueOfWorker 119 = .ok (.goto 4, 3) := by decide +kernel
theorem dX5_isTrueOfWorker_122 : decode cX5_isTrueOfWorker 122 = .ok (.iconst 0, 1) := by decide +kernel
theorem dX5_isTrueOfWorker_123 : decode cX5_isTrueOfWorker 123 = .ok (.ireturn, 1) := by decide +kernel
theorem dX5_isTrueOfWorker_124 : decode cX5_isTrueOfWorker 124 = .ok (.iload_n 3, 1) := by decide +kernel
theorem dX5_isTrueOfWorker_125 : decode cX5_isTrueOfWorker 125 = .ok (.bipush 10, 2) := by decide +kernel
theorem dX5_isTrueOfWorker_127 : decode cX5_isTrueOfWorker 127 = .ok (.if_icmp .ge 25, 3) := by decide +kernel
theorem dX5_isTrueOfWorker_130 : decode cX5_isTrueOfWorker 130 = .ok (.aload 5, 2) := by decide +kernel
theorem dX5_isTrueOfWorker_132 : decode cX5_isTrueOfWorker 132 = .ok (.getfield 181, 3) := by decide +kernel
theorem dX5_isTrueOfWorker_135 : decode cX5_isTrueOfWorker 135 = .ok (.getfield 50, 3) := by decide +kernel
theorem dX5_isTrueOfWorker_138 : decode cX5_isTrueOfWorker 138 = .ok (.bipush 10, 2) := by decide +kernel
theorem dX5_isTrueOfWorker_140 : decode cX5_isTrueOfWorker 140 = .ok (.iload_n 3, 1) := by decide +kernel
theorem dX5_isTrueOfWorker_141 : decode cX5_isTrueOfWorker 141 = .ok (.imul, 1) := by decide +kernel
theorem dX5_isTrueOfWorker_142 : decode cX5_isTrueOfWorker 142 = .ok (.iload 4, 2) := by decide +kernel
theorem dX5_isTrueOfWorker_144 : decode cX5_isTrueOfWorker 144 = .ok (.iadd, 1) := by decide +kernel
theorem dX5_isTrueOfWorker_145 : decode cX5_isTrueOfWorker 145 = .ok (.if_icmp .gt 7, 3) := by decide +kernel
theorem dX5_isTrueOfWorker_148 : decode cX5_isTrueOfWorker 148 = .ok (.iconst 1, 1) := by decide +kernel
theorem dX5_isTrueOfWorker_149 : decode cX5_isTrueOfWorker 149 = .ok (.goto 4, 3) := by decide +kernel
theorem dX5_isTrueOfWorker_152 : decode cX5_isTrueOfWorker 152 = .ok (.iconst 0, 1) := by decide +kernel
theorem dX5_isTrueOfWorker_153 : decode cX5_isTrueOfWorker 153 = .ok (.ireturn, 1) := by decide +kernel
theorem dX5_isTrueOfWorker_154 : decode cX5_isTrueOfWorker 154 = .ok (.iconst 0, 1) := by decide +kernel
theorem dX5_isTrueOfWorker_155 : decode cX5_isTrueOfWorker 155 = .ok (.ireturn, 1) := by decide +kernel
theorem dX5_simulateStep_0 : decode cX5_simulateStep 0 = .ok (.iload_n 1, 1) := by decide +kernel
theorem dX5_simulateStep_1 : decode cX5_simulateStep 1 = .ok (.bipush 16, 2) := by decide +kernel
theorem dX5_simulateStep_3 : decode cX5_simulateStep 3 = .ok (.idiv, 1) := by decide +kernel
theorem dX5_simulateStep_4 : decode cX5_simulateStep 4 = .ok (.iconst 3, 1) := by decide +kernel
theorem dX5_simulateStep_5 : decode cX5_simulateStep 5 = .ok (.irem, 1) := by decide +kernel
theorem dX5_simulateStep_6 : decode cX5_simulateStep 6 = .ok (.istore_n 2, 1) := by decide +kernel
theorem dX5_simulateStep_7 : decode cX5_simulateStep 7 = .ok (.iload_n 1, 1) := by decide +kernel
theorem dX5_simulateStep_8 : decode cX5_simulateStep 8 = .ok (.bipush 64, 2) := by decide +kernel
theorem dX5_simulateStep_10 : decode cX5_simulateStep 10 = .ok (.idiv, 1) := by decide +kernel
theorem dX5_simulateStep_11 : decode cX5_simulateStep 11 = .ok (.bipush 16, 2) := by decide +kernel
theorem dX5_simulateStep_13 : decode cX5_simulateStep 13 = .ok (.irem, 1) := by decide +kernel
theorem dX5_simulateStep_14 : decode cX5_simulateStep 14 = .ok (.istore_n 3, 1) := by decide +kernel
theorem dX5_simulateStep_15 : decode cX5_simulateStep 15 = .ok (.iload_n 1, 1) := by decide +kernel
theorem dX5_simulateStep_16 : decode cX5_simulateStep 16 = .ok (.bipush 16, 2) := by decide +kernel
theorem dX5_simulateStep_18 : decode cX5_simulateStep 18 = .ok (.irem, 1) := by decide +kernel
theorem dX5_simulateStep_19 : decode cX5_simulateStep 19 = .ok (.tableswitch 157 0 9 #[53, 53, 53, 68, 68, 83, 83, 98, 113, 133], 53) := by decide +kernel
theorem dX5_simulateStep_72 : decode cX5_simulateStep 72 = .ok (.aload_n 0, 1) := by decide +kernel
theorem dX5_simulateStep_73 : decode cX5_simulateStep 73 = .ok (.getfield 25, 3) := by decide +kernel
theorem dX5_simulateStep_76 : decode cX5_simulateStep 76 = .ok (.iconst 0, 1) := by decide +kernel
theorem dX5_simulateStep_77 : decode cX5_simulateStep 77 = .ok (.iload_n 2, 1) := by decide +kernel
theorem dX5_simulateStep_78 : decode cX5_simulateStep 78 = .ok (.iconst 0, 1) := by decide +kernel
theorem dX5_simulateStep_79 : decode cX5_simulateStep 79 = .ok (.iconst 0, 1) := by decide +kernel
theorem dX5_simulateStep_80 : decode cX5_simulateStep 80 = .ok (.invokevirtual 224, 3) := by decide +kernel
theorem dX5_simulateStep_83 : decode cX5_simulateStep 83 = .ok (.pop, 1) := by decide +kernel
theorem dX5_simulateStep_84 : decode cX5_simulateStep 84 = .ok (.goto 112, 3) := by decide +kernel
theorem dX5_simulateStep_87 : decode cX5_simulateStep 87 = .ok (.aload_n 0, 1) := by decide +kernel
theorem dX5_simulateStep_88 : decode cX5_simulateStep 88 = .ok (.getfield 25, 3) := by decide +kernel
theorem dX5_simulateStep_91 : decode cX5_simulateStep 91 = .ok (.iconst 1, 1) := by decide +kernel
theorem dX5_simulateStep_92 : decode cX5_simulateStep 92 = .ok (.iload_n 2, 1) := by decide +kernel
theorem dX5_simulateStep_93 : decode cX5_simulateStep 93 = .ok (.iconst 0, 1) := by decide +kernel
theorem dX5_simulateStep_94 : decode cX5_simulateStep 94 = .ok (.iconst 0, 1) := by decide +kernel
theorem dX5_simulateStep_95 : decode cX5_simulateStep 95 = .ok (.invokevirtual 224, 3) := by decide +kernel
theorem dX5_simulateStep_98 : decode cX5_simulateStep 98 = .ok (.pop, 1) := by decide +kernel
theorem dX5_simulateStep_99 : decode cX5_simulateStep 99 = .ok (.goto 97, 3) := by decide +kernel
theorem dX5_simulateStep_102 : decode cX5_simulateStep 102 = .ok (.aload_n 0, 1) := by decide +kernel
theorem dX5_simulateStep_103 : decode cX5_simulateStep 103 = .ok (.getfield 25, 3) := by decide +kernel
theorem dX5_simulateStep_106 : decode cX5_simulateStep 106 = .ok (.iconst 2, 1) := by decide +kernel
theorem dX5_simulateStep_107 : decode cX5_simulateStep 107 = .ok (.iload_n 2, 1) := by decide +kernel
theorem dX5_simulateStep_108 : decode cX5_simulateStep 108 = .ok (.iconst 0, 1) := by decide +kernel
theorem dX5_simulateStep_109 : decode cX5_simulateStep 109 = .ok (.iconst 0, 1) := by decide +kernel
theorem dX5_simulateStep_110 : decode cX5_simulateStep 110 = .ok (.invokevirtual 224, 3) := by decide +kernel
theorem dX5_simulateStep_113 : decode cX5_simulateStep 113 = .ok (.pop, 1) := by decide +kernel
theorem dX5_simulateStep_114 : decode cX5_simulateStep 114 = .ok (.goto 82, 3) := by decide +kernel
theorem dX5_simulateStep_117 : decode cX5_simulateStep 117 = .ok (.aload_n 0, 1) := by decide +kernel
theorem dX5_simulateStep_118 : decode cX5_simulateStep 118 = .ok (.getfield 25, 3) := by decide +kernel
theorem dX5_simulateStep_121 : decode cX5_simulateStep 121 = .ok (.iconst 3, 1) := by decide +kernel
theorem dX5_simulateStep_122 : decode cX5_simulateStep 122 = .ok (.iload_n 2, 1) := by decide +kernel
theorem dX5_simulateStep_123 : decode cX5_simulateStep 123 = .ok (.iconst 0, 1) := by decide +kernel
theorem dX5_simulateStep_124 : decode cX5_simulateStep 124 = .ok (.iconst 0, 1) := by decide +kernel
theorem dX5_simulateStep_125 : decode cX5_simulateStep 125 = .ok (.invokevirtual 224, 3) := by decide +kernel
theorem dX5_simulateStep_128 : decode cX5_simulateStep 128 = .ok (.pop, 1) := by decide +kernel
theorem dX5_simulateStep_129 : decode cX5_simulateStep 129 = .ok (.goto 67, 3) := by decide +kernel
theorem dX5_simulateStep_132 : decode cX5_simulateStep 132 = .ok (.aload_n 0, 1) := by decide +kernel
theorem dX5_simulateStep_133 : decode cX5_simulateStep 133 = .ok (.getfield 25, 3) := by decide +kernel
theorem dX5_simulateStep_136 : decode cX5_simulateStep 136 = .ok (.iconst 4, 1) := by decide +kernel
theorem dX5_simulateStep_137 : decode cX5_simulateStep 137 = .ok (.iload_n 2, 1) := by decide +kernel
theorem dX5_simulateStep_138 : decode cX5_simulateStep 138 = .ok (.iload_n 1, 1) := by decide +kernel
theorem dX5_simulateStep_139 : decode cX5_simulateStep 139 = .ok (.bipush 64, 2) := by decide +kernel
theorem dX5_simulateStep_141 : decode cX5_simulateStep 141 = .ok (.idiv, 1) := by decide +kernel
theorem dX5_simulateStep_142 : decode cX5_simulateStep 142 = .ok (.iconst 4, 1) := by decide +kernel
theorem dX5_simulateStep_143 : decode cX5_simulateStep 143 = .ok (.irem, 1) := by decide +kernel
theorem dX5_simulateStep_144 : decode cX5_simulateStep 144 = .ok (.iconst 0, 1) := by decide +kernel
theorem dX5_simulateStep_145 : decode cX5_simulateStep 145 = .ok (.invokevirtual 224, 3) := by decide +kernel
theorem dX5_simulateStep_148 : decode cX5_simulateStep 148 = .ok (.pop, 1) := by decide +kernel
theorem dX5_simulateStep_149 : decode cX5_simulateStep 149 = .ok (.goto 47, 3) := by decide +kernel
theorem dX5_simulateStep_152 : decode cX5_simulateStep 152 = .ok (.aload_n 0, 1) := by decide +kernel
theorem dX5_simulateStep_153 : decode cX5_simulateStep 153 = .ok (.getfield 25, 3) := by decide +kernel
theorem dX5_simulateStep_156 : decode cX5_simulateStep 156 = .ok (.iconst 5, 1) := by decide +kernel
theorem dX5_simulateStep_157 : decode cX5_simulateStep 157 = .ok (.iload_n 2, 1) := by decide +kernel
theorem dX5_simulateStep_158 : decode cX5_simulateStep 158 = .ok (.iload_n 3, 1) := by decide +kernel
theorem dX5_simulateStep_159 : decode cX5_simulateStep 159 = .ok (.iconst 1, 1) := by decide +kernel
theorem dX5_simulateStep_160 : decode cX5_simulateStep 160 = .ok (.iload_n 1, 1) := by decide +kernel
theorem dX5_simulateStep_161 : decode cX5_simulateStep 161 = .ok (.sipush 1024, 3) := by decide +kernel
theorem dX5_simulateStep_164 : decode cX5_simulateStep 164 = .ok (.idiv, 1) := by decide +kernel
theorem dX5_simulateStep_165 : decode cX5_simulateStep 165 = .ok (.bipush 99, 2) := by decide +kernel
theorem dX5_simulateStep_167 : decode cX5_simulateStep 167 = .ok (.irem, 1) := by decide +kernel
theorem dX5_simulateStep_168 : decode cX5_simulateStep 168 = .ok (.iadd, 1) := by decide +kernel
theorem dX5_simulateStep_169 : decode cX5_simulateStep 169 = .ok (.invokevirtual 224, 3) := by decide +kernel
theorem dX5_simulateStep_172 : decode cX5_simulateStep 172 = .ok (.pop, 1) := by decide +kernel
theorem dX5_simulateStep_173 : decode cX5_simulateStep 173 = .ok (.goto 23, 3) := by decide +kernel
theorem dX5_simulateStep_176 : decode cX5_simulateStep 176 = .ok (.aload_n 0, 1) := by decide +kernel
theorem dX5_simulateStep_177 : decode cX5_simulateStep 177 = .ok (.getfield 25, 3) := by decide +kernel
theorem dX5_simulateStep_180 : decode cX5_simulateStep 180 = .ok (.bipush 6, 2) := by decide +kernel
theorem dX5_simulateStep_182 : decode cX5_simulateStep 182 = .ok (.iload_n 2, 1) := by decide +kernel
theorem dX5_simulateStep_183 : decode cX5_simulateStep 183 = .ok (.iload_n 3, 1) := by decide +kernel
theorem dX5_simulateStep_184 : decode cX5_simulateStep 184 = .ok (.iload_n 1, 1) := by decide +kernel
theorem dX5_simulateStep_185 : decode cX5_simulateStep 185 = .ok (.sipush 1024, 3) := by decide +kernel
theorem dX5_simulateStep_188 : decode cX5_simulateStep 188 = .ok (.idiv, 1) := by decide +kernel
theorem dX5_simulateStep_189 : decode cX5_simulateStep 189 = .ok (.bipush 100, 2) := by decide +kernel
theorem dX5_simulateStep_191 : decode cX5_simulateStep 191 = .ok (.irem, 1) := by decide +kernel
theorem dX5_simulateStep_192 : decode cX5_simulateStep 192 = .ok (.invokevirtual 224, 3) := by decide +kernel
theorem dX5_simulateStep_195 : decode cX5_simulateStep 195 = .ok (.pop, 1) := by decide +kernel
theorem dX5_simulateStep_196 : decode cX5_simulateStep 196 = .ok (.return_, 1) := by decide +kernel
end
section
theorem dX6_init_0 : decode cX6_init 0 = .ok (.aload_n 0, 1) := by decide +kernel
theorem dX6_init_1 : decode cX6_init 1 = .ok (.invokespecial 1, 3) := by decide +kernel
theorem dX6_init_4 : decode cX6_init 4 = .ok (.aload_n 0, 1) := by decide +kernel
theorem dX6_init_5 : decode cX6_init 5 = .ok (.bipush 120, 2) := by decide +kernel
theorem dX6_init_7 : decode cX6_init 7 = .ok (.newarray .int, 2) := by decide +kernel
theorem dX6_init_9 : decode cX6_init 9 = .ok (.putfield 7, 3) := by decide +kernel
theorem dX6_init_12 : decode cX6_init 12 = .ok (.aload_n 0, 1) := by decide +kernel
theorem dX6_init_13 : decode cX6_init 13 = .ok (.sipush 4086, 3) := by decide +kernel
theorem dX6_init_16 : decode cX6_init 16 = .ok (.newarray .int, 2) := by decide +kernel
theorem dX6_init_18 : decode cX6_init 18 = .ok (.putfield 13, 3) := by decide +kernel
theorem dX6_init_21 : decode cX6_init 21 = .ok (.aload_n 0, 1) := by decide +kernel
theorem dX6_init_22 : decode cX6_init 22 = .ok (.sipush 4086, 3) := by decide +kernel
theorem dX6_init_25 : decode cX6_init 25 = .ok (.newarray .int, 2) := by decide +kernel
theorem dX6_init_27 : decode cX6_init 27 = .ok (.putfield 16, 3) := by decide +kernel
theorem dX6_init_30 : decode cX6_init 30 = .ok (.aload_n 0, 1) := by decide +kernel
theorem dX6_init_31 : decode cX6_init 31 = .ok (.sipush 4086, 3) := by decide +kernel
theorem dX6_init_34 : decode cX6_init 34 = .ok (.newarray .int, 2) := by decide +kernel
theorem dX6_init_36 : decode cX6_init 36 = .ok (.putfield 19, 3) := by decide +kernel
theorem dX6_init_39 : decode cX6_init 39 = .ok (.aload_n 0, 1) := by decide +kernel
theorem dX6_init_40 : decode cX6_init 40 = .ok (.sipush 16344, 3) := by decide +kernel
theorem dX6_init_43 : decode cX6_init 43 = .ok (.newarray .int, 2) := by decide +kernel
theorem dX6_init_45 : decode cX6_init 45 = .ok (.putfield 22, 3) := by decide +kernel
theorem dX6_init_48 : decode cX6_init 48 = .ok (.aload_n 0, 1) := by decide +kernel
theorem dX6_init_49 : decode cX6_init 49 = .ok (.sipush 16344, 3) := by decide +kernel
theorem dX6_init_52 : decode cX6_init 52 = .ok (.newarray .int, 2) := by decide +kernel
theorem dX6_init_54 : decode cX6_init 54 = .ok (.putfield 25, 3) := by decide +kernel
theorem dX6_init_57 : decode cX6_init 57 = .ok (.aload_n 0, 1) := by decide +kernel
theorem dX6_init_58 : decode cX6_init 58 = .ok (.sipush 16344, 3) := by decide +kernel
theorem dX6_init_61 : decode cX6_init 61 = .ok (.newarray .int, 2) := by decide +kernel
theorem dX6_init_63 : decode cX6_init 63 = .ok (.putfield 28, 3) := by decide +kernel
theorem dX6_init_66 : decode cX6_init 66 = .ok (.aload_n 0, 1) := by decide +kernel
theorem dX6_init_67 : decode cX6_init 67 = .ok (.sipush 16344, 3) := by decide +kernel
theorem dX6_init_70 : decode cX6_init 70 = .ok (.newarray .int, 2) := by decide +kernel
theorem dX6_init_72 : decode cX6_init 72 = .ok (.putfield 31, 3) := by decide +kernel
theorem dX6_init_75 : decode cX6_init 75 = .ok (.aload_n 0, 1) := by decide +kernel
theorem dX6_init_76 : decode cX6_init 76 = .ok (.sipush 8172, 3) := by decide +kernel
theorem dX6_init_79 : decode cX6_init 79 = .ok (.newarray .int, 2) := by decide +kernel
theorem dX6_init_81 : decode cX6_init 81 = .ok (.putfield 34, 3) := by decide +kernel
theorem dX6_init_84 : decode cX6_init 84 = .ok (.aload_n 0, 1) := by decide +kernel
theorem dX6_init_85 : decode cX6_init 85 = .ok (.iconst 2, 1) := by decide +kernel
theorem dX6_init_86 : decode cX6_init 86 = .ok (.newarray .boolean, 2) := by decide +kernel
theorem dX6_init_88 : decode cX6_init 88 = .ok (.putfield 37, 3) := by decide +kernel
theorem dX6_init_91 : decode cX6_init 91 = .ok (.aload_n 0, 1) := by decide +kernel
theorem dX6_init_92 : decode cX6_init 92 = .ok (.getfield 16, 3) := by decide +kernel
theorem dX6_init_95 : decode cX6_init 95 = .ok (.invokestatic 41, 3) := by decide +kernel
theorem dX6_init_98 : decode cX6_init 98 = .ok (.return_, 1) := by decide +kernel
theorem dX6_thrown_0 : decode cX6_thrown 0 = .ok (.aload_n 0, 1) := by decide +kernel
theorem dX6_thrown_1 : decode cX6_thrown 1 = .ok (.getfield 45, 3) := by decide +kernel
theorem dX6_thrown_4 : decode cX6_thrown 4 = .ok (.ireturn, 1) := by decide +kernel
theorem dX6_refused_0 : decode cX6_refused 0 = .ok (.aload_n 0, 1) := by decide +kernel
theorem dX6_refused_1 : decode cX6_refused 1 = .ok (.iload_n 1, 1) := by decide +kernel
theorem dX6_refused_2 : decode cX6_refused 2 = .ok (.putfield 45, 3) := by decide +kernel
theorem dX6_refused_5 : decode cX6_refused 5 = .ok (.iload_n 1, 1) := by decide +kernel
theorem dX6_refused_6 : decode cX6_refused 6 = .ok (.ifCond .le 7, 3) := by decide +kernel
theorem dX6_refused_9 : decode cX6_refused 9 = .ok (.iconst 1, 1) := by decide +kernel
theorem dX6_refused_10 : decode cX6_refused 10 = .ok (.goto 4, 3) := by decide +kernel
theorem dX6_refused_13 : decode cX6_refused 13 = .ok (.iconst 0, 1) := by decide +kernel
theorem dX6_refused_14 : decode cX6_refused 14 = .ok (.ireturn, 1) := by decide +kernel
theorem dX6_in_0 : decode cX6_in 0 = .ok (.lload_n 0, 1) := by decide +kernel
theorem dX6_in_1 : decode cX6_in 1 = .ok (.lload_n 2, 1) := by decide +kernel
theorem dX6_in_2 : decode cX6_in 2 = .ok (.lcmp, 1) := by decide +kernel
theorem dX6_in_3 : decode cX6_in 3 = .ok (.ifCond .lt 14, 3) := by decide +kernel
theorem dX6_in_6 : decode cX6_in 6 = .ok (.lload_n 0, 1) := by decide +kernel
theorem dX6_in_7 : decode cX6_in 7 = .ok (.lload 4, 2) := by decide +kernel
theorem dX6_in_9 : decode cX6_in 9 = .ok (.lcmp, 1) := by decide +kernel
theorem dX6_in_10 : decode cX6_in 10 = .ok (.ifCond .gt 7, 3) := by decide +kernel
theorem dX6_in_13 : decode cX6_in 13 = .ok (.iconst 1, 1) := by decide +kernel
theorem dX6_in_14 : decode cX6_in 14 = .ok (.goto 4, 3) := by decide +kernel
theorem dX6_in_17 : decode cX6_in 17 = .ok (.iconst 0, 1) := by decide +kernel
theorem dX6_in_18 : decode cX6_in 18 = .ok (.ireturn, 1) := by decide +kernel
theorem dX6_copy_0 : decode cX6_copy 0 = .ok (.iconst 0, 1) := by decide +kernel
theorem dX6_copy_1 : decode cX6_copy 1 = .ok (.istore 5, 2) := by decide +kernel
theorem dX6_copy_3 : decode cX6_copy 3 = .ok (.iload 5, 2) := by decide +kernel
theorem dX6_copy_5 : decode cX6_copy 5 = .ok (.iload 4, 2) := by decide +kernel
theorem dX6_copy_7 : decode cX6_copy 7 = .ok (.if_icmp .ge 21, 3) := by decide +kernel
theorem dX6_copy_10 : decode cX6_copy 10 = .ok (.aload_n 2, 1) := by decide +kernel
theorem dX6_copy_11 : decode cX6_copy 11 = .ok (.iload_n 3, 1) := by decide +kernel
theorem dX6_copy_12 : decode cX6_copy 12 = .ok (.iload 5, 2) := by decide +kernel
theorem dX6_copy_14 : decode cX6_copy 14 = .ok (.iadd, 1) := by decide +kernel
theorem dX6_copy_15 : decode cX6_copy 15 = .ok (.aload_n 0, 1) := by decide +kernel
theorem dX6_copy_16 : decode cX6_copy 16 = .ok (.iload_n 1, 1) := by decide +kernel
theorem dX6_copy_17 : decode cX6_copy 17 = .ok (.iload 5, 2) := by decide +kernel
theorem dX6_copy_19 : decode cX6_copy 19 = .ok (.iadd, 1) := by decide +kernel
theorem dX6_copy_20 : decode cX6_copy 20 = .ok (.iaload, 1) := by decide +kernel
theorem dX6_copy_21 : decode cX6_copy 21 = .ok (.iastore, 1) := by decide +kernel
theorem dX6_copy_22 : decode cX6_copy 22 = .ok (.iinc 5 1, 3) := by decide +kernel
theorem dX6_copy_25 : decode cX6_copy 25 = .ok (.goto (-22), 3) := by decide +kernel
theorem dX6_copy_28 : decode cX6_copy 28 = .ok (.return_, 1) := by decide +kernel
theorem dX6_tenTo_0 : decode cX6_tenTo 0 = .ok (.lconst 1, 1) := by decide +kernel
theorem dX6_tenTo_1 : decode cX6_tenTo 1 = .ok (.lstore_n 1, 1) := by decide +kernel
theorem dX6_tenTo_2 : decode cX6_tenTo 2 = .ok (.iconst 0, 1) := by decide +kernel
theorem dX6_tenTo_3 : decode cX6_tenTo 3 = .ok (.istore_n 3, 1) := by decide +kernel
theorem dX6_tenTo_4 : decode cX6_tenTo 4 = .ok (.iload_n 3, 1) := by decide +kernel
theorem dX6_tenTo_5 : decode cX6_tenTo 5 = .ok (.iload_n 0, 1) := by decide +kernel
theorem dX6_tenTo_6 : decode cX6_tenTo 6 = .ok (.if_icmp .ge 15, 3) := by decide +kernel
theorem dX6_tenTo_9 : decode cX6_tenTo 9 = .ok (.lload_n 1, 1) := by decide +kernel
theorem dX6_tenTo_10 : decode cX6_tenTo 10 = .ok (.ldc2_w 49, 3) := by decide +kernel
theorem dX6_tenTo_13 : decode cX6_tenTo 13 = .ok (.lmul, 1) := by decide +kernel
theorem dX6_tenTo_14 : decode cX6_tenTo 14 = .ok (.lstore_n 1, 1) := by decide +kernel
theorem dX6_tenTo_15 : decode cX6_tenTo 15 = .ok (.iinc 3 1, 3) := by decide +kernel
theorem dX6_tenTo_18 : decode cX6_tenTo 18 = .ok (.goto (-14), 3) := by decide +kernel
theorem dX6_tenTo_21 : decode cX6_tenTo 21 = .ok (.lload_n 1, 1) := by decide +kernel
theorem dX6_tenTo_22 : decode cX6_tenTo 22 = .ok (.lreturn, 1) := by decide +kernel
theorem dX6_clean_0 : decode cX6_clean 0 = .ok (.iconst 0, 1) := by decide +kernel
theorem dX6_clean_1 : decode cX6_clean 1 = .ok (.istore_n 1, 1) := by decide +kernel
theorem dX6_clean_2 : decode cX6_clean 2 = .ok (.iload_n 1, 1) := by decide +kernel
theorem dX6_clean_3 : decode cX6_clean 3 = .ok (.sipush 4086, 3) := by decide +kernel
theorem dX6_clean_6 : decode cX6_clean 6 = .ok (.if_icmp .ge 13, 3) := by decide +kernel
theorem dX6_clean_9 : decode cX6_clean 9 = .ok (.aload_n 0, 1) := by decide +kernel
theorem dX6_clean_10 : decode cX6_clean 10 = .ok (.iload_n 1, 1) := by decide +kernel
theorem dX6_clean_11 : decode cX6_clean 11 = .ok (.iconst 0, 1) := by decide +kernel
theorem dX6_clean_12 : decode cX6_clean 12 = .ok (.iastore, 1) := by decide +kernel
theorem dX6_clean_13 : decode cX6_clean 13 = .ok (.iinc 1 1, 3) := by decide +kernel
theorem dX6_clean_16 : decode cX6_clean 16 = .ok (.goto (-14), 3) := by decide +kernel
theorem dX6_clean_19 : decode cX6_clean 19 = .ok (.aload_n 0, 1) := by decide +kernel
theorem dX6_clean_20 : decode cX6_clean 20 = .ok (.bipush 32, 2) := by decide +kernel
theorem dX6_clean_22 : decode cX6_clean 22 = .ok (.iconst 1, 1) := by decide +kernel
theorem dX6_clean_23 : decode cX6_clean 23 = .ok (.iastore, 1) := by decide +kernel
theorem dX6_clean_24 : decode cX6_clean 24 = .ok (.return_, 1) := by decide +kernel
theorem dX6_layDown_0 : decode cX6_layDown 0 = .ok (.aload_n 0, 1) := by decide +kernel
theorem dX6_layDown_1 : decode cX6_layDown 1 = .ok (.getfield 51, 3) := by decide +kernel
theorem dX6_layDown_4 : decode cX6_layDown 4 = .ok (.iload_n 1, 1) := by decide +kernel
theorem dX6_layDown_5 : decode cX6_layDown 5 = .ok (.iadd, 1) := by decide +kernel
theorem dX6_layDown_6 : decode cX6_layDown 6 = .ok (.bipush 16, 2) := by decide +kernel
theorem dX6_layDown_8 : decode cX6_layDown 8 = .ok (.irem, 1) := by decide +kernel
theorem dX6_layDown_9 : decode cX6_layDown 9 = .ok (.iconst 4, 1) := by decide +kernel
theorem dX6_layDown_10 : decode cX6_layDown 10 = .ok (.idiv, 1) := by decide +kernel
theorem dX6_layDown_11 : decode cX6_layDown 11 = .ok (.istore_n 2, 1) := by decide +kernel
theorem dX6_layDown_12 : decode cX6_layDown 12 = .ok (.sipush 4086, 3) := by decide +kernel
theorem dX6_layDown_15 : decode cX6_layDown 15 = .ok (.aload_n 0, 1) := by decide +kernel
theorem dX6_layDown_16 : decode cX6_layDown 16 = .ok (.getfield 51, 3) := by decide +kernel
theorem dX6_layDown_19 : decode cX6_layDown 19 = .ok (.iload_n 1, 1) := by decide +kernel
theorem dX6_layDown_20 : decode cX6_layDown 20 = .ok (.iadd, 1) := by decide +kernel
theorem dX6_layDown_21 : decode cX6_layDown 21 = .ok (.bipush 16, 2) := by decide +kernel
theorem dX6_layDown_23 : decode cX6_layDown 23 = .ok (.irem, 1) := by decide +kernel
theorem dX6_layDown_24 : decode cX6_layDown 24 = .ok (.iconst 4, 1) := by decide +kernel
theorem dX6_layDown_25 : decode cX6_layDown 25 = .ok (.irem, 1) := by decide +kernel
theorem dX6_layDown_26 : decode cX6_layDown 26 = .ok (.imul, 1) := by decide +kernel
theorem dX6_layDown_27 : decode cX6_layDown 27 = .ok (.istore_n 3, 1) := by decide +kernel
theorem dX6_layDown_28 : decode cX6_layDown 28 = .ok (.iload_n 2, 1) := by decide +kernel
theorem dX6_layDown_29 : decode cX6_layDown 29 = .ok (.ifCond .ne 22, 3) := by decide +kernel
theorem dX6_layDown_32 : decode cX6_layDown 32 = .ok (.aload_n 0, 1) := by decide +kernel
theorem dX6_layDown_33 : decode cX6_layDown 33 = .ok (.getfield 16, 3) := by decide +kernel
theorem dX6_layDown_36 : decode cX6_layDown 36 = .ok (.iconst 0, 1) := by decide +kernel
theorem dX6_layDown_37 : decode cX6_layDown 37 = .ok (.aload_n 0, 1) := by decide +kernel
theorem dX6_layDown_38 : decode cX6_layDown 38 = .ok (.getfield 22, 3) := by decide +kernel
theorem dX6_layDown_41 : decode cX6_layDown 41 = .ok (.iload_n 3, 1) := by decide +kernel
theorem dX6_layDown_42 : decode cX6_layDown 42 = .ok (.sipush 4086, 3) := by decide +kernel
theorem dX6_layDown_45 : decode cX6_layDown 45 = .ok (.invokestatic 54, 3) := by decide +kernel
theorem dX6_layDown_48 : decode cX6_layDown 48 = .ok (.goto 67, 3) := by decide +kernel
theorem dX6_layDown_51 : decode cX6_layDown 51 = .ok (.iload_n 2, 1) := by decide +kernel
theorem dX6_layDown_52 : decode cX6_layDown 52 = .ok (.iconst 1, 1) := by decide +kernel
theorem dX6_layDown_53 : decode cX6_layDown 53 = .ok (.if_icmp .ne 22, 3) := by decide +kernel
theorem dX6_layDown_56 : decode cX6_layDown 56 = .ok (.aload_n 0, 1) := by decide +kernel
theorem dX6_layDown_57 : decode cX6_layDown 57 = .ok (.getfield 16, 3) := by decide +kernel
theorem dX6_layDown_60 : decode cX6_layDown 60 = .ok (.iconst 0, 1) := by decide +kernel
theorem dX6_layDown_61 : decode cX6_layDown 61 = .ok (.aload_n 0, 1) := by decide +kernel
theorem dX6_layDown_62 : decode cX6_layDown 62 = .ok (.getfield 25, 3) := by decide +kernel
theorem dX6_layDown_65 : decode cX6_layDown 65 = .ok (.iload_n 3, 1) := by decide +kernel
theorem dX6_layDown_66 : decode cX6_layDown 66 = .ok (.sipush 4086, 3) := by decide +kernel
theorem dX6_layDown_69 : decode cX6_layDown 69 = .ok (.invokestatic 54, 3) := by decide +kernel
theorem dX6_layDown_72 : decode cX6_layDown 72 = .ok (.goto 43, 3) := by decide +kernel
theorem dX6_layDown_75 : decode cX6_layDown 75 = .ok (.iload_n 2, 1) := by decide +kernel
theorem dX6_layDown_76 : decode cX6_layDown 76 = .ok (.iconst 2, 1) := by decide +kernel
theorem dX6_layDown_77 : decode cX6_layDown 77 = .ok (.if_icmp .ne 22, 3) := by decide +kernel
theorem dX6_layDown_80 : decode cX6_layDown 80 = .ok (.aload_n 0, 1) := by decide +kernel
theorem dX6_layDown_81 : decode cX6_layDown 81 = .ok (.getfield 16, 3) := by decide +kernel
theorem dX6_layDown_84 : decode cX6_layDown 84 = .ok (.iconst 0, 1) := by decide +kernel
theorem dX6_layDown_85 : decode cX6_layDown 85 = .ok (.aload_n 0, 1) := by decide +kernel
theorem dX6_layDown_86 : decode cX6_layDown 86 = .ok (.getfield 28, 3) := by decide +kernel
theorem dX6_layDown_89 : decode cX6_layDown 89 = .ok (.iload_n 3, 1) := by decide +kernel
theorem dX6_layDown_90 : decode cX6_layDown 90 = .ok (.sipush 4086, 3) := by decide +kernel
theorem dX6_layDown_93 : decode cX6_layDown 93 = .ok (.invokestatic 54, 3) := by decide +kernel
theorem dX6_layDown_96 : decode cX6_layDown 96 = .ok (.goto 19, 3) := by decide +kernel
theorem dX6_layDown_99 : decode cX6_layDown 99 = .ok (.aload_n 0, 1) := by decide +kernel
theorem dX6_layDown_100 : decode cX6_layDown 100 = .ok (.getfield 16, 3) := by decide +kernel
theorem dX6_layDown_103 : decode cX6_layDown 103 = .ok (.iconst 0, 1) := by decide +kernel
theorem dX6_layDown_104 : decode cX6_layDown 104 = .ok (.aload_n 0, 1) := by decide +kernel
theorem dX6_layDown_105 : decode cX6_layDown 105 = .ok (.getfield 31, 3) := by decide +kernel
theorem dX6_layDown_108 : decode cX6_layDown 108 = .ok (.iload_n 3, 1) := by decide +kernel
theorem dX6_layDown_109 : decode cX6_layDown 109 = .ok (.sipush 4086, 3) := by decide +kernel
theorem dX6_layDown_112 : decode cX6_layDown 112 = .ok (.invokestatic 54, 3) := by decide +kernel
theorem dX6_layDown_115 : decode cX6_layDown 115 = .ok (.return_, 1) := by decide +kernel
theorem dX6_takeUp_0 : decode cX6_takeUp 0 = .ok (.aload_n 0, 1) := by decide +kernel
theorem dX6_takeUp_1 : decode cX6_takeUp 1 = .ok (.getfield 51, 3) := by decide +kernel
theorem dX6_takeUp_4 : decode cX6_takeUp 4 = .ok (.iload_n 1, 1) := by decide +kernel
theorem dX6_takeUp_5 : decode cX6_takeUp 5 = .ok (.iadd, 1) := by decide +kernel
theorem dX6_takeUp_6 : decode cX6_takeUp 6 = .ok (.bipush 16, 2) := by decide +kernel
theorem dX6_takeUp_8 : decode cX6_takeUp 8 = .ok (.irem, 1) := by decide +kernel
theorem dX6_takeUp_9 : decode cX6_takeUp 9 = .ok (.iconst 4, 1) := by decide +kernel
theorem dX6_takeUp_10 : decode cX6_takeUp 10 = .ok (.idiv, 1) := by decide +kernel
theorem dX6_takeUp_11 : decode cX6_takeUp 11 = .ok (.istore_n 2, 1) := by decide +kernel
theorem dX6_takeUp_12 : decode cX6_takeUp 12 = .ok (.sipush 4086, 3) := by decide +kernel
theorem dX6_takeUp_15 : decode cX6_takeUp 15 = .ok (.aload_n 0, 1) := by decide +kernel
theorem dX6_takeUp_16 : decode cX6_takeUp 16 = .ok (.getfield 51, 3) := by decide +kernel
theorem dX6_takeUp_19 : decode cX6_takeUp 19 = .ok (.iload_n 1, 1) := by decide +kernel
theorem dX6_takeUp_20 : decode cX6_takeUp 20 = .ok (.iadd, 1) := by decide +kernel
theorem dX6_takeUp_21 : decode cX6_takeUp 21 = .ok (.bipush 16, 2) := by decide +kernel
theorem dX6_takeUp_23 : decode cX6_takeUp 23 = .ok (.irem, 1) := by decide +kernel
theorem dX6_takeUp_24 : decode cX6_takeUp 24 = .ok (.iconst 4, 1) := by decide +kernel
theorem dX6_takeUp_25 : decode cX6_takeUp 25 = .ok (.irem, 1) := by decide +kernel
theorem dX6_takeUp_26 : decode cX6_takeUp 26 = .ok (.imul, 1) := by decide +kernel
theorem dX6_takeUp_27 : decode cX6_takeUp 27 = .ok (.istore_n 3, 1) := by decide +kernel
theorem dX6_takeUp_28 : decode cX6_takeUp 28 = .ok (.iload_n 2, 1) := by decide +kernel
theorem dX6_takeUp_29 : decode cX6_takeUp 29 = .ok (.ifCond .ne 22, 3) := by decide +kernel
theorem dX6_takeUp_32 : decode cX6_takeUp 32 = .ok (.aload_n 0, 1) := by decide +kernel
theorem dX6_takeUp_33 : decode cX6_takeUp 33 = .ok (.getfield 22, 3) := by decide +kernel
theorem dX6_takeUp_36 : decode cX6_takeUp 36 = .ok (.iload_n 3, 1) := by decide +kernel
theorem dX6_takeUp_37 : decode cX6_takeUp 37 = .ok (.aload_n 0, 1) := by decide +kernel
theorem dX6_takeUp_38 : decode cX6_takeUp 38 = .ok (.getfield 16, 3) := by decide +kernel
theorem dX6_takeUp_41 : decode cX6_takeUp 41 = .ok (.iconst 0, 1) := by decide +kernel
theorem dX6_takeUp_42 : decode cX6_takeUp 42 = .ok (.sipush 4086, 3) := by decide +kernel
theorem dX6_takeUp_45 : decode cX6_takeUp 45 = .ok (.invokestatic 54, 3) := by decide +kernel
theorem dX6_takeUp_48 : decode cX6_takeUp 48 = .ok (.goto 67, 3) := by decide +kernel
theorem dX6_takeUp_51 : decode cX6_takeUp 51 = .ok (.iload_n 2, 1) := by decide +kernel
theorem dX6_takeUp_52 : decode cX6_takeUp 52 = .ok (.iconst 1, 1) := by decide +kernel
theorem dX6_takeUp_53 : decode cX6_takeUp 53 = .ok (.if_icmp .ne 22, 3) := by decide +kernel
theorem dX6_takeUp_56 : decode cX6_takeUp 56 = .ok (.aload_n 0, 1) := by decide +kernel
theorem dX6_takeUp_57 : decode cX6_takeUp 57 = .ok (.getfield 25, 3) := by decide +kernel
theorem dX6_takeUp_60 : decode cX6_takeUp 60 = .ok (.iload_n 3, 1) := by decide +kernel
theorem dX6_takeUp_61 : decode cX6_takeUp 61 = .ok (.aload_n 0, 1) := by decide +kernel
theorem dX6_takeUp_62 : decode cX6_takeUp 62 = .ok (.getfield 16, 3) := by decide +kernel
theorem dX6_takeUp_65 : decode cX6_takeUp 65 = .ok (.iconst 0, 1) := by decide +kernel
theorem dX6_takeUp_66 : decode cX6_takeUp 66 = .ok (.sipush 4086, 3) := by decide +kernel
theorem dX6_takeUp_69 : decode cX6_takeUp 69 = .ok (.invokestatic 54, 3) := by decide +kernel
theorem dX6_takeUp_72 : decode cX6_takeUp 72 = .ok (.goto 43, 3) := by decide +kernel
theorem dX6_takeUp_75 : decode cX6_takeUp 75 = .ok (.iload_n 2, 1) := by decide +kernel
theorem dX6_takeUp_76 : decode cX6_takeUp 76 = .ok (.iconst 2, 1) := by decide +kernel
theorem dX6_takeUp_77 : decode cX6_takeUp 77 = .ok (.if_icmp .ne 22, 3) := by decide +kernel
theorem dX6_takeUp_80 : decode cX6_takeUp 80 = .ok (.aload_n 0, 1) := by decide +kernel
theorem dX6_takeUp_81 : decode cX6_takeUp 81 = .ok (.getfield 28, 3) := by decide +kernel
theorem dX6_takeUp_84 : decode cX6_takeUp 84 = .ok (.iload_n 3, 1) := by decide +kernel
theorem dX6_takeUp_85 : decode cX6_takeUp 85 = .ok (.aload_n 0, 1) := by decide +kernel
theorem dX6_takeUp_86 : decode cX6_takeUp 86 = .ok (.getfield 16, 3) := by decide +kernel
theorem dX6_takeUp_89 : decode cX6_takeUp 89 = .ok (.iconst 0, 1) := by decide +kernel
theorem dX6_takeUp_90 : decode cX6_takeUp 90 = .ok (.sipush 4086, 3) := by decide +kernel
theorem dX6_takeUp_93 : decode cX6_takeUp 93 = .ok (.invokestatic 54, 3) := by decide +kernel
theorem dX6_takeUp_96 : decode cX6_takeUp 96 = .ok (.goto 19, 3) := by decide +kernel
theorem dX6_takeUp_99 : decode cX6_takeUp 99 = .ok (.aload_n 0, 1) := by decide +kernel
theorem dX6_takeUp_100 : decode cX6_takeUp 100 = .ok (.getfield 31, 3) := by decide +kernel
theorem dX6_takeUp_103 : decode cX6_takeUp 103 = .ok (.iload_n 3, 1) := by decide +kernel
theorem dX6_takeUp_104 : decode cX6_takeUp 104 = .ok (.aload_n 0, 1) := by decide +kernel
theorem dX6_takeUp_105 : decode cX6_takeUp 105 = .ok (.getfield 16, 3) := by decide +kernel
theorem dX6_takeUp_108 : decode cX6_takeUp 108 = .ok (.iconst 0, 1) := by decide +kernel
theorem dX6_takeUp_109 : decode cX6_takeUp 109 = .ok (.sipush 4086, 3) := by decide +kernel
theorem dX6_takeUp_112 : decode cX6_takeUp 112 = .ok (.invokestatic 54, 3) := by decide +kernel
theorem dX6_takeUp_115 : decode cX6_takeUp 115 = .ok (.return_, 1) := by decide +kernel
theorem dX6_remember_0 : decode cX6_remember 0 = .ok (.aload_n 0, 1) := by decide +kernel
theorem dX6_remember_1 : decode cX6_remember 1 = .ok (.getfield 58, 3) := by decide +kernel
theorem dX6_remember_4 : decode cX6_remember 4 = .ok (.bipush 14, 2) := by decide +kernel
theorem dX6_remember_6 : decode cX6_remember 6 = .ok (.if_icmp .ne 26, 3) := by decide +kernel
theorem dX6_remember_9 : decode cX6_remember 9 = .ok (.aload_n 0, 1) := by decide +kernel
theorem dX6_remember_10 : decode cX6_remember 10 = .ok (.aload_n 0, 1) := by decide +kernel
theorem dX6_remember_11 : decode cX6_remember 11 = .ok (.getfield 51, 3) := by decide +kernel
theorem dX6_remember_14 : decode cX6_remember 14 = .ok (.iconst 1, 1) := by decide +kernel
theorem dX6_remember_15 : decode cX6_remember 15 = .ok (.iadd, 1) := by decide +kernel
theorem dX6_remember_16 : decode cX6_remember 16 = .ok (.bipush 16, 2) := by decide +kernel
theorem dX6_remember_18 : decode cX6_remember 18 = .ok (.irem, 1) := by decide +kernel
theorem dX6_remember_19 : decode cX6_remember 19 = .ok (.putfield 51, 3) := by decide +kernel
theorem dX6_remember_22 : decode cX6_remember 22 = .ok (.aload_n 0, 1) := by decide +kernel
theorem dX6_remember_23 : decode cX6_remember 23 = .ok (.dup, 1) := by decide +kernel
theorem dX6_remember_24 : decode cX6_remember 24 = .ok (.getfield 58, 3) := by decide +kernel
theorem dX6_remember_27 : decode cX6_remember 27 = .ok (.iconst 1, 1) := by decide +kernel
theorem dX6_remember_28 : decode cX6_remember 28 = .ok (.isub, 1) := by decide +kernel
theorem dX6_remember_29 : decode cX6_remember 29 = .ok (.putfield 58, 3) := by decide +kernel
theorem dX6_remember_32 : decode cX6_remember 32 = .ok (.aload_n 0, 1) := by decide +kernel
theorem dX6_remember_33 : decode cX6_remember 33 = .ok (.aload_n 0, 1) := by decide +kernel
theorem dX6_remember_34 : decode cX6_remember 34 = .ok (.getfield 58, 3) := by decide +kernel
theorem dX6_remember_37 : decode cX6_remember 37 = .ok (.invokevirtual 61, 3) := by decide +kernel
theorem dX6_remember_40 : decode cX6_remember 40 = .ok (.aload_n 0, 1) := by decide +kernel
theorem dX6_remember_41 : decode cX6_remember 41 = .ok (.dup, 1) := by decide +kernel
theorem dX6_remember_42 : decode cX6_remember 42 = .ok (.getfield 58, 3) := by decide +kernel
theorem dX6_remember_45 : decode cX6_remember 45 = .ok (.iconst 1, 1) := by decide +kernel
theorem dX6_remember_46 : decode cX6_remember 46 = .ok (.iadd, 1) := by decide +kernel
theorem dX6_remember_47 : decode cX6_remember 47 = .ok (.putfield 58, 3) := by decide +kernel
theorem dX6_remember_50 : decode cX6_remember 50 = .ok (.return_, 1) := by decide +kernel
theorem dX6_tryIt_0 : decode cX6_tryIt 0 = .ok (.aload_n 0, 1) := by decide +kernel
theorem dX6_tryIt_1 : decode cX6_tryIt 1 = .ok (.getfield 16, 3) := by decide +kernel
theorem dX6_tryIt_4 : decode cX6_tryIt 4 = .ok (.iconst 0, 1) := by decide +kernel
theorem dX6_tryIt_5 : decode cX6_tryIt 5 = .ok (.aload_n 0, 1) := by decide +kernel
theorem dX6_tryIt_6 : decode cX6_tryIt 6 = .ok (.getfield 19, 3) := by decide +kernel
theorem dX6_tryIt_9 : decode cX6_tryIt 9 = .ok (.iconst 0, 1) := by decide +kernel
theorem dX6_tryIt_10 : decode cX6_tryIt 10 = .ok (.sipush 4086, 3) := by decide +kernel
theorem dX6_tryIt_13 : decode cX6_tryIt 13 = .ok (.invokestatic 54, 3) := by decide +kernel
theorem dX6_tryIt_16 : decode cX6_tryIt 16 = .ok (.return_, 1) := by decide +kernel
theorem dX6_at_0 : decode cX6_at 0 = .ok (.bipush 36, 2) := by decide +kernel
theorem dX6_at_2 : decode cX6_at 2 = .ok (.sipush 1350, 3) := by decide +kernel
theorem dX6_at_5 : decode cX6_at 5 = .ok (.iload_n 0, 1) := by decide +kernel
theorem dX6_at_6 : decode cX6_at 6 = .ok (.imul, 1) := by decide +kernel
theorem dX6_at_7 : decode cX6_at 7 = .ok (.iadd, 1) := by decide +kernel
theorem dX6_at_8 : decode cX6_at 8 = .ok (.iload_n 1, 1) := by decide +kernel
theorem dX6_at_9 : decode cX6_at 9 = .ok (.iadd, 1) := by decide +kernel
theorem dX6_at_10 : decode cX6_at 10 = .ok (.ireturn, 1) := by decide +kernel
theorem dX6_many_0 : decode cX6_many 0 = .ok (.aload_n 0, 1) := by decide +kernel
theorem dX6_many_1 : decode cX6_many 1 = .ok (.iload_n 1, 1) := by decide +kernel
theorem dX6_many_2 : decode cX6_many 2 = .ok (.iconst 0, 1) := by decide +kernel
theorem dX6_many_3 : decode cX6_many 3 = .ok (.invokestatic 65, 3) := by decide +kernel
theorem dX6_many_6 : decode cX6_many 6 = .ok (.iaload, 1) := by decide +kernel
theorem dX6_many_7 : decode cX6_many 7 = .ok (.ireturn, 1) := by decide +kernel
theorem dX6_workAt_0 : decode cX6_workAt 0 = .ok (.iload_n 0, 1) := by decide +kernel
theorem dX6_workAt_1 : decode cX6_workAt 1 = .ok (.iconst 5, 1) := by decide +kernel
theorem dX6_workAt_2 : decode cX6_workAt 2 = .ok (.bipush 13, 2) := by decide +kernel
theorem dX6_workAt_4 : decode cX6_workAt 4 = .ok (.iload_n 1, 1) := by decide +kernel
theorem dX6_workAt_5 : decode cX6_workAt 5 = .ok (.imul, 1) := by decide +kernel
theorem dX6_workAt_6 : decode cX6_workAt 6 = .ok (.iadd, 1) := by decide +kernel
theorem dX6_workAt_7 : decode cX6_workAt 7 = .ok (.iload_n 2, 1) := by decide +kernel
theorem dX6_workAt_8 : decode cX6_workAt 8 = .ok (.iadd, 1) := by decide +kernel
theorem dX6_workAt_9 : decode cX6_workAt 9 = .ok (.invokestatic 65, 3) := by decide +kernel
theorem dX6_workAt_12 : decode cX6_workAt 12 = .ok (.ireturn, 1) := by decide +kernel
theorem dX6_innerAt_0 : decode cX6_innerAt 0 = .ok (.iload_n 1, 1) := by decide +kernel
theorem dX6_innerAt_1 : decode cX6_innerAt 1 = .ok (.aload_n 0, 1) := by decide +kernel
theorem dX6_innerAt_2 : decode cX6_innerAt 2 = .ok (.iload_n 1, 1) := by decide +kernel
theorem dX6_innerAt_3 : decode cX6_innerAt 3 = .ok (.invokestatic 69, 3) := by decide +kernel
theorem dX6_innerAt_6 : decode cX6_innerAt 6 = .ok (.iconst 1, 1) := by decide +kernel
theorem dX6_innerAt_7 : decode cX6_innerAt 7 = .ok (.isub, 1) := by decide +kernel
theorem dX6_innerAt_8 : decode cX6_innerAt 8 = .ok (.iload_n 2, 1) := by decide +kernel
theorem dX6_innerAt_9 : decode cX6_innerAt 9 = .ok (.invokestatic 73, 3) := by decide +kernel
theorem dX6_innerAt_12 : decode cX6_innerAt 12 = .ok (.ireturn, 1) := by decide +kernel
theorem dX6_isSpoiled_0 : decode cX6_isSpoiled 0 = .ok (.aload_n 0, 1) := by decide +kernel
theorem dX6_isSpoiled_1 : decode cX6_isSpoiled 1 = .ok (.iload_n 1, 1) := by decide +kernel
theorem dX6_isSpoiled_2 : decode cX6_isSpoiled 2 = .ok (.invokestatic 69, 3) := by decide +kernel
theorem dX6_isSpoiled_5 : decode cX6_isSpoiled 5 = .ok (.ifCond .le 19, 3) := by decide +kernel
theorem dX6_isSpoiled_8 : decode cX6_isSpoiled 8 = .ok (.aload_n 0, 1) := by decide +kernel
theorem dX6_isSpoiled_9 : decode cX6_isSpoiled 9 = .ok (.aload_n 0, 1) := by decide +kernel
theorem dX6_isSpoiled_10 : decode cX6_isSpoiled 10 = .ok (.iload_n 1, 1) := by decide +kernel
theorem dX6_isSpoiled_11 : decode cX6_isSpoiled 11 = .ok (.iconst 4, 1) := by decide +kernel
theorem dX6_isSpoiled_12 : decode cX6_isSpoiled 12 = .ok (.invokestatic 77, 3) := by decide +kernel
theorem dX6_isSpoiled_15 : decode cX6_isSpoiled 15 = .ok (.iaload, 1) := by decide +kernel
theorem dX6_isSpoiled_16 : decode cX6_isSpoiled 16 = .ok (.iconst 1, 1) := by decide +kernel
theorem dX6_isSpoiled_17 : decode cX6_isSpoiled 17 = .ok (.if_icmp .ne 7, 3) := by decide +kernel
theorem dX6_isSpoiled_20 : decode cX6_isSpoiled 20 = .ok (.iconst 1, 1) := by decide +kernel
theorem dX6_isSpoiled_21 : decode cX6_isSpoiled 21 = .ok (.goto 4, 3) := by decide +kernel
theorem dX6_isSpoiled_24 : decode cX6_isSpoiled 24 = .ok (.iconst 0, 1) := by decide +kernel
theorem dX6_isSpoiled_25 : decode cX6_isSpoiled 25 = .ok (.ireturn, 1) := by decide +kernel
theorem dX6_isOpen_0 : decode cX6_isOpen 0 = .ok (.aload_n 0, 1) := by decide +kernel
theorem dX6_isOpen_1 : decode cX6_isOpen 1 = .ok (.iload_n 1, 1) := by decide +kernel
theorem dX6_isOpen_2 : decode cX6_isOpen 2 = .ok (.invokestatic 69, 3) := by decide +kernel
theorem dX6_isOpen_5 : decode cX6_isOpen 5 = .ok (.ifCond .le 15, 3) := by decide +kernel
theorem dX6_isOpen_8 : decode cX6_isOpen 8 = .ok (.aload_n 0, 1) := by decide +kernel
theorem dX6_isOpen_9 : decode cX6_isOpen 9 = .ok (.iload_n 1, 1) := by decide +kernel
theorem dX6_isOpen_10 : decode cX6_isOpen 10 = .ok (.invokestatic 81, 3) := by decide +kernel
theorem dX6_isOpen_13 : decode cX6_isOpen 13 = .ok (.ifCond .ne 7, 3) := by decide +kernel
theorem dX6_isOpen_16 : decode cX6_isOpen 16 = .ok (.iconst 1, 1) := by decide +kernel
theorem dX6_isOpen_17 : decode cX6_isOpen 17 = .ok (.goto 4, 3) := by decide +kernel
theorem dX6_isOpen_20 : decode cX6_isOpen 20 = .ok (.iconst 0, 1) := by decide +kernel
theorem dX6_isOpen_21 : decode cX6_isOpen 21 = .ok (.ireturn, 1) := by decide +kernel
theorem dX6_reason_0 : decode cX6_reason 0 = .ok (.aload_n 0, 1) := by decide +kernel
theorem dX6_reason_1 : decode cX6_reason 1 = .ok (.iload_n 1, 1) := by decide +kernel
theorem dX6_reason_2 : decode cX6_reason 2 = .ok (.invokestatic 69, 3) := by decide +kernel
theorem dX6_reason_5 : decode cX6_reason 5 = .ok (.ifCond .ne 5, 3) := by decide +kernel
theorem dX6_reason_8 : decode cX6_reason 8 = .ok (.iconst 1, 1) := by decide +kernel
theorem dX6_reason_9 : decode cX6_reason 9 = .ok (.ireturn, 1) := by decide +kernel
theorem dX6_reason_10 : decode cX6_reason 10 = .ok (.aload_n 0, 1) := by decide +kernel
theorem dX6_reason_11 : decode cX6_reason 11 = .ok (.iload_n 1, 1) := by decide +kernel
theorem dX6_reason_12 : decode cX6_reason 12 = .ok (.invokestatic 81, 3) := by decide +kernel
theorem dX6_reason_15 : decode cX6_reason 15 = .ok (.ifCond .eq 5, 3) := by decide +kernel
theorem dX6_reason_18 : decode cX6_reason 18 = .ok (.iconst 2, 1) := by decide +kernel
theorem dX6_reason_19 : decode cX6_reason 19 = .ok (.ireturn, 1) := by decide +kernel
theorem dX6_reason_20 : decode cX6_reason 20 = .ok (.aload_n 0, 1) := by decide +kernel
theorem dX6_reason_21 : decode cX6_reason 21 = .ok (.bipush 16, 2) := by decide +kernel
theorem dX6_reason_23 : decode cX6_reason 23 = .ok (.iload_n 2, 1) := by decide +kernel
theorem dX6_reason_24 : decode cX6_reason 24 = .ok (.iadd, 1) := by decide +kernel
theorem dX6_reason_25 : decode cX6_reason 25 = .ok (.iaload, 1) := by decide +kernel
theorem dX6_reason_26 : decode cX6_reason 26 = .ok (.ifCond .eq 17, 3) := by decide +kernel
theorem dX6_reason_29 : decode cX6_reason 29 = .ok (.aload_n 0, 1) := by decide +kernel
theorem dX6_reason_30 : decode cX6_reason 30 = .ok (.bipush 16, 2) := by decide +kernel
theorem dX6_reason_32 : decode cX6_reason 32 = .ok (.iload_n 2, 1) := by decide +kernel
theorem dX6_reason_33 : decode cX6_reason 33 = .ok (.iadd, 1) := by decide +kernel
theorem dX6_reason_34 : decode cX6_reason 34 = .ok (.iaload, 1) := by decide +kernel
theorem dX6_reason_35 : decode cX6_reason 35 = .ok (.iload_n 1, 1) := by decide +kernel
theorem dX6_reason_36 : decode cX6_reason 36 = .ok (.iconst 1, 1) := by decide +kernel
theorem dX6_reason_37 : decode cX6_reason 37 = .ok (.iadd, 1) := by decide +kernel
theorem dX6_reason_38 : decode cX6_reason 38 = .ok (.if_icmp .eq 5, 3) := by decide +kernel
theorem dX6_reason_41 : decode cX6_reason 41 = .ok (.iconst 3, 1) := by decide +kernel
theorem dX6_reason_42 : decode cX6_reason 42 = .ok (.ireturn, 1) := by decide +kernel
theorem dX6_reason_43 : decode cX6_reason 43 = .ok (.aload_n 0, 1) := by decide +kernel
theorem dX6_reason_44 : decode cX6_reason 44 = .ok (.iload_n 1, 1) := by decide +kernel
theorem dX6_reason_45 : decode cX6_reason 45 = .ok (.iconst 1, 1) := by decide +kernel
theorem dX6_reason_46 : decode cX6_reason 46 = .ok (.invokestatic 65, 3) := by decide +kernel
theorem dX6_reason_49 : decode cX6_reason 49 = .ok (.iaload, 1) := by decide +kernel
theorem dX6_reason_50 : decode cX6_reason 50 = .ok (.bipush 40, 2) := by decide +kernel
theorem dX6_reason_52 : decode cX6_reason 52 = .ok (.if_icmp .lt 7, 3) := by decide +kernel
theorem dX6_reason_55 : decode cX6_reason 55 = .ok (.iconst 4, 1) := by decide +kernel
theorem dX6_reason_56 : decode cX6_reason 56 = .ok (.goto 4, 3) := by decide +kernel
theorem dX6_reason_59 : decode cX6_reason 59 = .ok (.iconst 0, 1) := by decide +kernel
theorem dX6_reason_60 : decode cX6_reason 60 = .ok (.ireturn, 1) := by decide +kernel
theorem dX6_regretsOf_0 : decode cX6_regretsOf 0 = .ok (.iload_n 2, 1) := by decide +kernel
theorem dX6_regretsOf_1 : decode cX6_regretsOf 1 = .ok (.iconst 1, 1) := by decide +kernel
theorem dX6_regretsOf_2 : decode cX6_regretsOf 2 = .ok (.iadd, 1) := by decide +kernel
theorem dX6_regretsOf_3 : decode cX6_regretsOf 3 = .ok (.aload_n 0, 1) := by decide +kernel
theorem dX6_regretsOf_4 : decode cX6_regretsOf 4 = .ok (.iload_n 1, 1) := by decide +kernel
theorem dX6_regretsOf_5 : decode cX6_regretsOf 5 = .ok (.invokestatic 69, 3) := by decide +kernel
theorem dX6_regretsOf_8 : decode cX6_regretsOf 8 = .ok (.if_icmp .ge 16, 3) := by decide +kernel
theorem dX6_regretsOf_11 : decode cX6_regretsOf 11 = .ok (.aload_n 0, 1) := by decide +kernel
theorem dX6_regretsOf_12 : decode cX6_regretsOf 12 = .ok (.iload_n 1, 1) := by decide +kernel
theorem dX6_regretsOf_13 : decode cX6_regretsOf 13 = .ok (.iload_n 2, 1) := by decide +kernel
theorem dX6_regretsOf_14 : decode cX6_regretsOf 14 = .ok (.iconst 1, 1) := by decide +kernel
theorem dX6_regretsOf_15 : decode cX6_regretsOf 15 = .ok (.iadd, 1) := by decide +kernel
theorem dX6_regretsOf_16 : decode cX6_regretsOf 16 = .ok (.iconst 1, 1) := by decide +kernel
theorem dX6_regretsOf_17 : decode cX6_regretsOf 17 = .ok (.invokestatic 73, 3) := by decide +kernel
theorem dX6_regretsOf_20 : decode cX6_regretsOf 20 = .ok (.iaload, 1) := by decide +kernel
theorem dX6_regretsOf_21 : decode cX6_regretsOf 21 = .ok (.goto 10, 3) := by decide +kernel
theorem dX6_regretsOf_24 : decode cX6_regretsOf 24 = .ok (.aload_n 0, 1) := by decide +kernel
theorem dX6_regretsOf_25 : decode cX6_regretsOf 25 = .ok (.iload_n 1, 1) := by decide +kernel
theorem dX6_regretsOf_26 : decode cX6_regretsOf 26 = .ok (.iconst 2, 1) := by decide +kernel
theorem dX6_regretsOf_27 : decode cX6_regretsOf 27 = .ok (.invokestatic 65, 3) := by decide +kernel
theorem dX6_regretsOf_30 : decode cX6_regretsOf 30 = .ok (.iaload, 1) := by decide +kernel
theorem dX6_regretsOf_31 : decode cX6_regretsOf 31 = .ok (.istore_n 3, 1) := by decide +kernel
theorem dX6_regretsOf_32 : decode cX6_regretsOf 32 = .ok (.iload_n 3, 1) := by decide +kernel
theorem dX6_regretsOf_33 : decode cX6_regretsOf 33 = .ok (.aload_n 0, 1) := by decide +kernel
theorem dX6_regretsOf_34 : decode cX6_regretsOf 34 = .ok (.iload_n 1, 1) := by decide +kernel
theorem dX6_regretsOf_35 : decode cX6_regretsOf 35 = .ok (.iload_n 2, 1) := by decide +kernel
theorem dX6_regretsOf_36 : decode cX6_regretsOf 36 = .ok (.iconst 1, 1) := by decide +kernel
theorem dX6_regretsOf_37 : decode cX6_regretsOf 37 = .ok (.invokestatic 73, 3) := by decide +kernel
theorem dX6_regretsOf_40 : decode cX6_regretsOf 40 = .ok (.iaload, 1) := by decide +kernel
theorem dX6_regretsOf_41 : decode cX6_regretsOf 41 = .ok (.isub, 1) := by decide +kernel
theorem dX6_regretsOf_42 : decode cX6_regretsOf 42 = .ok (.ireturn, 1) := by decide +kernel
theorem dX6_canBegin_0 : decode cX6_canBegin 0 = .ok (.aload_n 0, 1) := by decide +kernel
theorem dX6_canBegin_1 : decode cX6_canBegin 1 = .ok (.iload_n 1, 1) := by decide +kernel
theorem dX6_canBegin_2 : decode cX6_canBegin 2 = .ok (.invokestatic 69, 3) := by decide +kernel
theorem dX6_canBegin_5 : decode cX6_canBegin 5 = .ok (.iconst 5, 1) := by decide +kernel
theorem dX6_canBegin_6 : decode cX6_canBegin 6 = .ok (.if_icmp .ge 15, 3) := by decide +kernel
theorem dX6_canBegin_9 : decode cX6_canBegin 9 = .ok (.aload_n 0, 1) := by decide +kernel
theorem dX6_canBegin_10 : decode cX6_canBegin 10 = .ok (.iload_n 1, 1) := by decide +kernel
theorem dX6_canBegin_11 : decode cX6_canBegin 11 = .ok (.invokestatic 81, 3) := by decide +kernel
theorem dX6_canBegin_14 : decode cX6_canBegin 14 = .ok (.ifCond .ne 7, 3) := by decide +kernel
theorem dX6_canBegin_17 : decode cX6_canBegin 17 = .ok (.iconst 1, 1) := by decide +kernel
theorem dX6_canBegin_18 : decode cX6_canBegin 18 = .ok (.goto 4, 3) := by decide +kernel
theorem dX6_canBegin_21 : decode cX6_canBegin 21 = .ok (.iconst 0, 1) := by decide +kernel
theorem dX6_canBegin_22 : decode cX6_canBegin 22 = .ok (.ireturn, 1) := by decide +kernel
theorem dX6_beginIn_0 : decode cX6_beginIn 0 = .ok (.aload_n 0, 1) := by decide +kernel
theorem dX6_beginIn_1 : decode cX6_beginIn 1 = .ok (.iload_n 1, 1) := by decide +kernel
theorem dX6_beginIn_2 : decode cX6_beginIn 2 = .ok (.invokestatic 69, 3) := by decide +kernel
theorem dX6_beginIn_5 : decode cX6_beginIn 5 = .ok (.istore_n 2, 1) := by decide +kernel
theorem dX6_beginIn_6 : decode cX6_beginIn 6 = .ok (.iconst 0, 1) := by decide +kernel
theorem dX6_beginIn_7 : decode cX6_beginIn 7 = .ok (.istore_n 3, 1) := by decide +kernel
theorem dX6_beginIn_8 : decode cX6_beginIn 8 = .ok (.iload_n 3, 1) := by decide +kernel
theorem dX6_beginIn_9 : decode cX6_beginIn 9 = .ok (.bipush 13, 2) := by decide +kernel
theorem dX6_beginIn_11 : decode cX6_beginIn 11 = .ok (.if_icmp .ge 18, 3) := by decide +kernel
theorem dX6_beginIn_14 : decode cX6_beginIn 14 = .ok (.aload_n 0, 1) := by decide +kernel
theorem dX6_beginIn_15 : decode cX6_beginIn 15 = .ok (.iload_n 1, 1) := by decide +kernel
theorem dX6_beginIn_16 : decode cX6_beginIn 16 = .ok (.iload_n 2, 1) := by decide +kernel
theorem dX6_beginIn_17 : decode cX6_beginIn 17 = .ok (.iload_n 3, 1) := by decide +kernel
theorem dX6_beginIn_18 : decode cX6_beginIn 18 = .ok (.invokestatic 73, 3) := by decide +kernel
theorem dX6_beginIn_21 : decode cX6_beginIn 21 = .ok (.iconst 0, 1) := by decide +kernel
theorem dX6_beginIn_22 : decode cX6_beginIn 22 = .ok (.iastore, 1) := by decide +kernel
theorem dX6_beginIn_23 : decode cX6_beginIn 23 = .ok (.iinc 3 1, 3) := by decide +kernel
theorem dX6_beginIn_26 : decode cX6_beginIn 26 = .ok (.goto (-18), 3) := by decide +kernel
theorem dX6_beginIn_29 : decode cX6_beginIn 29 = .ok (.aload_n 0, 1) := by decide +kernel
theorem dX6_beginIn_30 : decode cX6_beginIn 30 = .ok (.iload_n 1, 1) := by decide +kernel
theorem dX6_beginIn_31 : decode cX6_beginIn 31 = .ok (.iload_n 2, 1) := by decide +kernel
theorem dX6_beginIn_32 : decode cX6_beginIn 32 = .ok (.iconst 0, 1) := by decide +kernel
theorem dX6_beginIn_33 : decode cX6_beginIn 33 = .ok (.invokestatic 73, 3) := by decide +kernel
theorem dX6_beginIn_36 : decode cX6_beginIn 36 = .ok (.aload_n 0, 1) := by decide +kernel
theorem dX6_beginIn_37 : decode cX6_beginIn 37 = .ok (.iload_n 1, 1) := by decide +kernel
theorem dX6_beginIn_38 : decode cX6_beginIn 38 = .ok (.iconst 1, 1) := by decide +kernel
theorem dX6_beginIn_39 : decode cX6_beginIn 39 = .ok (.invokestatic 65, 3) := by decide +kernel
theorem dX6_beginIn_42 : decode cX6_beginIn 42 = .ok (.iaload, 1) := by decide +kernel
theorem dX6_beginIn_43 : decode cX6_beginIn 43 = .ok (.iastore, 1) := by decide +kernel
theorem dX6_beginIn_44 : decode cX6_beginIn 44 = .ok (.aload_n 0, 1) := by decide +kernel
theorem dX6_beginIn_45 : decode cX6_beginIn 45 = .ok (.iload_n 1, 1) := by decide +kernel
theorem dX6_beginIn_46 : decode cX6_beginIn 46 = .ok (.iload_n 2, 1) := by decide +kernel
theorem dX6_beginIn_47 : decode cX6_beginIn 47 = .ok (.iconst 1, 1) := by decide +kernel
theorem dX6_beginIn_48 : decode cX6_beginIn 48 = .ok (.invokestatic 73, 3) := by decide +kernel
theorem dX6_beginIn_51 : decode cX6_beginIn 51 = .ok (.aload_n 0, 1) := by decide +kernel
theorem dX6_beginIn_52 : decode cX6_beginIn 52 = .ok (.iload_n 1, 1) := by decide +kernel
theorem dX6_beginIn_53 : decode cX6_beginIn 53 = .ok (.iconst 2, 1) := by decide +kernel
theorem dX6_beginIn_54 : decode cX6_beginIn 54 = .ok (.invokestatic 65, 3) := by decide +kernel
theorem dX6_beginIn_57 : decode cX6_beginIn 57 = .ok (.iaload, 1) := by decide +kernel
theorem dX6_beginIn_58 : decode cX6_beginIn 58 = .ok (.iastore, 1) := by decide +kernel
theorem dX6_beginIn_59 : decode cX6_beginIn 59 = .ok (.aload_n 0, 1) := by decide +kernel
theorem dX6_beginIn_60 : decode cX6_beginIn 60 = .ok (.iload_n 1, 1) := by decide +kernel
theorem dX6_beginIn_61 : decode cX6_beginIn 61 = .ok (.iconst 0, 1) := by decide +kernel
theorem dX6_beginIn_62 : decode cX6_beginIn 62 = .ok (.invokestatic 65, 3) := by decide +kernel
theorem dX6_beginIn_65 : decode cX6_beginIn 65 = .ok (.dup2, 1) := by decide +kernel
theorem dX6_beginIn_66 : decode cX6_beginIn 66 = .ok (.iaload, 1) := by decide +kernel
theorem dX6_beginIn_67 : decode cX6_beginIn 67 = .ok (.iconst 1, 1) := by decide +kernel
theorem dX6_beginIn_68 : decode cX6_beginIn 68 = .ok (.iadd, 1) := by decide +kernel
theorem dX6_beginIn_69 : decode cX6_beginIn 69 = .ok (.iastore, 1) := by decide +kernel
theorem dX6_beginIn_70 : decode cX6_beginIn 70 = .ok (.return_, 1) := by decide +kernel
theorem dX6_enter_0 : decode cX6_enter 0 = .ok (.aload_n 0, 1) := by decide +kernel
theorem dX6_enter_1 : decode cX6_enter 1 = .ok (.iload_n 1, 1) := by decide +kernel
theorem dX6_enter_2 : decode cX6_enter 2 = .ok (.bipush 70, 2) := by decide +kernel
theorem dX6_enter_4 : decode cX6_enter 4 = .ok (.aload_n 0, 1) := by decide +kernel
theorem dX6_enter_5 : decode cX6_enter 5 = .ok (.iload_n 1, 1) := by decide +kernel
theorem dX6_enter_6 : decode cX6_enter 6 = .ok (.iconst 1, 1) := by decide +kernel
theorem dX6_enter_7 : decode cX6_enter 7 = .ok (.invokestatic 65, 3) := by decide +kernel
theorem dX6_enter_10 : decode cX6_enter 10 = .ok (.iaload, 1) := by decide +kernel
theorem dX6_enter_11 : decode cX6_enter 11 = .ok (.iadd, 1) := by decide +kernel
theorem dX6_enter_12 : decode cX6_enter 12 = .ok (.invokestatic 65, 3) := by decide +kernel
theorem dX6_enter_15 : decode cX6_enter 15 = .ok (.bipush 100, 2) := by decide +kernel
theorem dX6_enter_17 : decode cX6_enter 17 = .ok (.iload_n 2, 1) := by decide +kernel
theorem dX6_enter_18 : decode cX6_enter 18 = .ok (.imul, 1) := by decide +kernel
theorem dX6_enter_19 : decode cX6_enter 19 = .ok (.aload_n 0, 1) := by decide +kernel
theorem dX6_enter_20 : decode cX6_enter 20 = .ok (.iload_n 2, 1) := by decide +kernel
theorem dX6_enter_21 : decode cX6_enter 21 = .ok (.iaload, 1) := by decide +kernel
theorem dX6_enter_22 : decode cX6_enter 22 = .ok (.iadd, 1) := by decide +kernel
theorem dX6_enter_23 : decode cX6_enter 23 = .ok (.iastore, 1) := by decide +kernel
theorem dX6_enter_24 : decode cX6_enter 24 = .ok (.aload_n 0, 1) := by decide +kernel
theorem dX6_enter_25 : decode cX6_enter 25 = .ok (.iload_n 1, 1) := by decide +kernel
theorem dX6_enter_26 : decode cX6_enter 26 = .ok (.iconst 1, 1) := by decide +kernel
theorem dX6_enter_27 : decode cX6_enter 27 = .ok (.invokestatic 65, 3) := by decide +kernel
theorem dX6_enter_30 : decode cX6_enter 30 = .ok (.dup2, 1) := by decide +kernel
theorem dX6_enter_31 : decode cX6_enter 31 = .ok (.iaload, 1) := by decide +kernel
theorem dX6_enter_32 : decode cX6_enter 32 = .ok (.iconst 1, 1) := by decide +kernel
theorem dX6_enter_33 : decode cX6_enter 33 = .ok (.iadd, 1) := by decide +kernel
theorem dX6_enter_34 : decode cX6_enter 34 = .ok (.iastore, 1) := by decide +kernel
theorem dX6_enter_35 : decode cX6_enter 35 = .ok (.return_, 1) := by decide +kernel
theorem dX6_writeIn_0 : decode cX6_writeIn 0 = .ok (.aload_n 0, 1) := by decide +kernel
theorem dX6_writeIn_1 : decode cX6_writeIn 1 = .ok (.iload_n 2, 1) := by decide +kernel
theorem dX6_writeIn_2 : decode cX6_writeIn 2 = .ok (.iaload, 1) := by decide +kernel
theorem dX6_writeIn_3 : decode cX6_writeIn 3 = .ok (.istore 4, 2) := by decide +kernel
theorem dX6_writeIn_5 : decode cX6_writeIn 5 = .ok (.aload_n 0, 1) := by decide +kernel
theorem dX6_writeIn_6 : decode cX6_writeIn 6 = .ok (.bipush 16, 2) := by decide +kernel
theorem dX6_writeIn_8 : decode cX6_writeIn 8 = .ok (.iload_n 2, 1) := by decide +kernel
theorem dX6_writeIn_9 : decode cX6_writeIn 9 = .ok (.iadd, 1) := by decide +kernel
theorem dX6_writeIn_10 : decode cX6_writeIn 10 = .ok (.iload_n 1, 1) := by decide +kernel
theorem dX6_writeIn_11 : decode cX6_writeIn 11 = .ok (.iconst 1, 1) := by decide +kernel
theorem dX6_writeIn_12 : decode cX6_writeIn 12 = .ok (.iadd, 1) := by decide +kernel
theorem dX6_writeIn_13 : decode cX6_writeIn 13 = .ok (.iastore, 1) := by decide +kernel
theorem dX6_writeIn_14 : decode cX6_writeIn 14 = .ok (.aload_n 0, 1) := by decide +kernel
theorem dX6_writeIn_15 : decode cX6_writeIn 15 = .ok (.iload_n 1, 1) := by decide +kernel
theorem dX6_writeIn_16 : decode cX6_writeIn 16 = .ok (.iload_n 2, 1) := by decide +kernel
theorem dX6_writeIn_17 : decode cX6_writeIn 17 = .ok (.invokestatic 85, 3) := by decide +kernel
theorem dX6_writeIn_20 : decode cX6_writeIn 20 = .ok (.aload_n 0, 1) := by decide +kernel
theorem dX6_writeIn_21 : decode cX6_writeIn 21 = .ok (.iload_n 2, 1) := by decide +kernel
theorem dX6_writeIn_22 : decode cX6_writeIn 22 = .ok (.iload_n 3, 1) := by decide +kernel
theorem dX6_writeIn_23 : decode cX6_writeIn 23 = .ok (.iastore, 1) := by decide +kernel
theorem dX6_writeIn_24 : decode cX6_writeIn 24 = .ok (.aload_n 0, 1) := by decide +kernel
theorem dX6_writeIn_25 : decode cX6_writeIn 25 = .ok (.bipush 34, 2) := by decide +kernel
theorem dX6_writeIn_27 : decode cX6_writeIn 27 = .ok (.dup2, 1) := by decide +kernel
theorem dX6_writeIn_28 : decode cX6_writeIn 28 = .ok (.iaload, 1) := by decide +kernel
theorem dX6_writeIn_29 : decode cX6_writeIn 29 = .ok (.iconst 1, 1) := by decide +kernel
theorem dX6_writeIn_30 : decode cX6_writeIn 30 = .ok (.iadd, 1) := by decide +kernel
theorem dX6_writeIn_31 : decode cX6_writeIn 31 = .ok (.iastore, 1) := by decide +kernel
theorem dX6_writeIn_32 : decode cX6_writeIn 32 = .ok (.iload 4, 2) := by decide +kernel
theorem dX6_writeIn_34 : decode cX6_writeIn 34 = .ok (.ireturn, 1) := by decide +kernel
theorem dX6_canPoint_0 : decode cX6_canPoint 0 = .ok (.aload_n 0, 1) := by decide +kernel
theorem dX6_canPoint_1 : decode cX6_canPoint 1 = .ok (.iload_n 1, 1) := by decide +kernel
theorem dX6_canPoint_2 : decode cX6_canPoint 2 = .ok (.invokestatic 89, 3) := by decide +kernel
theorem dX6_canPoint_5 : decode cX6_canPoint 5 = .ok (.ifCond .eq 19, 3) := by decide +kernel
theorem dX6_canPoint_8 : decode cX6_canPoint 8 = .ok (.aload_n 0, 1) := by decide +kernel
theorem dX6_canPoint_9 : decode cX6_canPoint 9 = .ok (.aload_n 0, 1) := by decide +kernel
theorem dX6_canPoint_10 : decode cX6_canPoint 10 = .ok (.iload_n 1, 1) := by decide +kernel
theorem dX6_canPoint_11 : decode cX6_canPoint 11 = .ok (.iconst 2, 1) := by decide +kernel
theorem dX6_canPoint_12 : decode cX6_canPoint 12 = .ok (.invokestatic 77, 3) := by decide +kernel
theorem dX6_canPoint_15 : decode cX6_canPoint 15 = .ok (.iaload, 1) := by decide +kernel
theorem dX6_canPoint_16 : decode cX6_canPoint 16 = .ok (.iconst 4, 1) := by decide +kernel
theorem dX6_canPoint_17 : decode cX6_canPoint 17 = .ok (.if_icmp .ge 7, 3) := by decide +kernel
theorem dX6_canPoint_20 : decode cX6_canPoint 20 = .ok (.iconst 1, 1) := by decide +kernel
theorem dX6_canPoint_21 : decode cX6_canPoint 21 = .ok (.goto 4, 3) := by decide +kernel
theorem dX6_canPoint_24 : decode cX6_canPoint 24 = .ok (.iconst 0, 1) := by decide +kernel
theorem dX6_canPoint_25 : decode cX6_canPoint 25 = .ok (.ireturn, 1) := by decide +kernel
theorem dX6_pointIn_0 : decode cX6_pointIn 0 = .ok (.aload_n 0, 1) := by decide +kernel
theorem dX6_pointIn_1 : decode cX6_pointIn 1 = .ok (.aload_n 0, 1) := by decide +kernel
theorem dX6_pointIn_2 : decode cX6_pointIn 2 = .ok (.iload_n 1, 1) := by decide +kernel
theorem dX6_pointIn_3 : decode cX6_pointIn 3 = .ok (.iconst 2, 1) := by decide +kernel
theorem dX6_pointIn_4 : decode cX6_pointIn 4 = .ok (.invokestatic 77, 3) := by decide +kernel
theorem dX6_pointIn_7 : decode cX6_pointIn 7 = .ok (.iaload, 1) := by decide +kernel
theorem dX6_pointIn_8 : decode cX6_pointIn 8 = .ok (.istore_n 2, 1) := by decide +kernel
theorem dX6_pointIn_9 : decode cX6_pointIn 9 = .ok (.aload_n 0, 1) := by decide +kernel
theorem dX6_pointIn_10 : decode cX6_pointIn 10 = .ok (.aload_n 0, 1) := by decide +kernel
theorem dX6_pointIn_11 : decode cX6_pointIn 11 = .ok (.iload_n 1, 1) := by decide +kernel
theorem dX6_pointIn_12 : decode cX6_pointIn 12 = .ok (.iconst 5, 1) := by decide +kernel
theorem dX6_pointIn_13 : decode cX6_pointIn 13 = .ok (.iload_n 2, 1) := by decide +kernel
theorem dX6_pointIn_14 : decode cX6_pointIn 14 = .ok (.iadd, 1) := by decide +kernel
theorem dX6_pointIn_15 : decode cX6_pointIn 15 = .ok (.invokestatic 77, 3) := by decide +kernel
theorem dX6_pointIn_18 : decode cX6_pointIn 18 = .ok (.aload_n 0, 1) := by decide +kernel
theorem dX6_pointIn_19 : decode cX6_pointIn 19 = .ok (.iload_n 1, 1) := by decide +kernel
theorem dX6_pointIn_20 : decode cX6_pointIn 20 = .ok (.iconst 1, 1) := by decide +kernel
theorem dX6_pointIn_21 : decode cX6_pointIn 21 = .ok (.invokestatic 65, 3) := by decide +kernel
theorem dX6_pointIn_24 : decode cX6_pointIn 24 = .ok (.iaload, 1) := by decide +kernel
theorem dX6_pointIn_25 : decode cX6_pointIn 25 = .ok (.iastore, 1) := by decide +kernel
theorem dX6_pointIn_26 : decode cX6_pointIn 26 = .ok (.aload_n 0, 1) := by decide +kernel
theorem dX6_pointIn_27 : decode cX6_pointIn 27 = .ok (.aload_n 0, 1) := by decide +kernel
theorem dX6_pointIn_28 : decode cX6_pointIn 28 = .ok (.iload_n 1, 1) := by decide +kernel
theorem dX6_pointIn_29 : decode cX6_pointIn 29 = .ok (.bipush 9, 2) := by decide +kernel
theorem dX6_pointIn_31 : decode cX6_pointIn 31 = .ok (.iload_n 2, 1) := by decide +kernel
theorem dX6_pointIn_32 : decode cX6_pointIn 32 = .ok (.iadd, 1) := by decide +kernel
theorem dX6_pointIn_33 : decode cX6_pointIn 33 = .ok (.invokestatic 77, 3) := by decide +kernel
theorem dX6_pointIn_36 : decode cX6_pointIn 36 = .ok (.aload_n 0, 1) := by decide +kernel
theorem dX6_pointIn_37 : decode cX6_pointIn 37 = .ok (.iload_n 1, 1) := by decide +kernel
theorem dX6_pointIn_38 : decode cX6_pointIn 38 = .ok (.iconst 2, 1) := by decide +kernel
theorem dX6_pointIn_39 : decode cX6_pointIn 39 = .ok (.invokestatic 65, 3) := by decide +kernel
theorem dX6_pointIn_42 : decode cX6_pointIn 42 = .ok (.iaload, 1) := by decide +kernel
theorem dX6_pointIn_43 : decode cX6_pointIn 43 = .ok (.iastore, 1) := by decide +kernel
theorem dX6_pointIn_44 : decode cX6_pointIn 44 = .ok (.aload_n 0, 1) := by decide +kernel
theorem dX6_pointIn_45 : decode cX6_pointIn 45 = .ok (.aload_n 0, 1) := by decide +kernel
theorem dX6_pointIn_46 : decode cX6_pointIn 46 = .ok (.iload_n 1, 1) := by decide +kernel
theorem dX6_pointIn_47 : decode cX6_pointIn 47 = .ok (.iconst 2, 1) := by decide +kernel
theorem dX6_pointIn_48 : decode cX6_pointIn 48 = .ok (.invokestatic 77, 3) := by decide +kernel
theorem dX6_pointIn_51 : decode cX6_pointIn 51 = .ok (.dup2, 1) := by decide +kernel
theorem dX6_pointIn_52 : decode cX6_pointIn 52 = .ok (.iaload, 1) := by decide +kernel
theorem dX6_pointIn_53 : decode cX6_pointIn 53 = .ok (.iconst 1, 1) := by decide +kernel
theorem dX6_pointIn_54 : decode cX6_pointIn 54 = .ok (.iadd, 1) := by decide +kernel
theorem dX6_pointIn_55 : decode cX6_pointIn 55 = .ok (.iastore, 1) := by decide +kernel
theorem dX6_pointIn_56 : decode cX6_pointIn 56 = .ok (.iload_n 2, 1) := by decide +kernel
theorem dX6_pointIn_57 : decode cX6_pointIn 57 = .ok (.ireturn, 1) := by decide +kernel
theorem dX6_hasPoint_0 : decode cX6_hasPoint 0 = .ok (.aload_n 0, 1) := by decide +kernel
theorem dX6_hasPoint_1 : decode cX6_hasPoint 1 = .ok (.iload_n 1, 1) := by decide +kernel
theorem dX6_hasPoint_2 : decode cX6_hasPoint 2 = .ok (.invokestatic 69, 3) := by decide +kernel
theorem dX6_hasPoint_5 : decode cX6_hasPoint 5 = .ok (.ifCond .le 27, 3) := by decide +kernel
theorem dX6_hasPoint_8 : decode cX6_hasPoint 8 = .ok (.iload_n 2, 1) := by decide +kernel
theorem dX6_hasPoint_9 : decode cX6_hasPoint 9 = .ok (.i2l, 1) := by decide +kernel
theorem dX6_hasPoint_10 : decode cX6_hasPoint 10 = .ok (.lconst 0, 1) := by decide +kernel
theorem dX6_hasPoint_11 : decode cX6_hasPoint 11 = .ok (.aload_n 0, 1) := by decide +kernel
theorem dX6_hasPoint_12 : decode cX6_hasPoint 12 = .ok (.aload_n 0, 1) := by decide +kernel
theorem dX6_hasPoint_13 : decode cX6_hasPoint 13 = .ok (.iload_n 1, 1) := by decide +kernel
theorem dX6_hasPoint_14 : decode cX6_hasPoint 14 = .ok (.iconst 2, 1) := by decide +kernel
theorem dX6_hasPoint_15 : decode cX6_hasPoint 15 = .ok (.invokestatic 77, 3) := by decide +kernel
theorem dX6_hasPoint_18 : decode cX6_hasPoint 18 = .ok (.iaload, 1) := by decide +kernel
theorem dX6_hasPoint_19 : decode cX6_hasPoint 19 = .ok (.iconst 1, 1) := by decide +kernel
theorem dX6_hasPoint_20 : decode cX6_hasPoint 20 = .ok (.isub, 1) := by decide +kernel
theorem dX6_hasPoint_21 : decode cX6_hasPoint 21 = .ok (.i2l, 1) := by decide +kernel
theorem dX6_hasPoint_22 : decode cX6_hasPoint 22 = .ok (.invokestatic 92, 3) := by decide +kernel
theorem dX6_hasPoint_25 : decode cX6_hasPoint 25 = .ok (.ifCond .eq 7, 3) := by decide +kernel
theorem dX6_hasPoint_28 : decode cX6_hasPoint 28 = .ok (.iconst 1, 1) := by decide +kernel
theorem dX6_hasPoint_29 : decode cX6_hasPoint 29 = .ok (.goto 4, 3) := by decide +kernel
theorem dX6_hasPoint_32 : decode cX6_hasPoint 32 = .ok (.iconst 0, 1) := by decide +kernel
theorem dX6_hasPoint_33 : decode cX6_hasPoint 33 = .ok (.ireturn, 1) := by decide +kernel
theorem dX6_undoTo_0 : decode cX6_undoTo 0 = .ok (.aload_n 0, 1) := by decide +kernel
theorem dX6_undoTo_1 : decode cX6_undoTo 1 = .ok (.iload_n 1, 1) := by decide +kernel
theorem dX6_undoTo_2 : decode cX6_undoTo 2 = .ok (.iconst 1, 1) := by decide +kernel
theorem dX6_undoTo_3 : decode cX6_undoTo 3 = .ok (.invokestatic 65, 3) := by decide +kernel
theorem dX6_undoTo_6 : decode cX6_undoTo 6 = .ok (.iaload, 1) := by decide +kernel
theorem dX6_undoTo_7 : decode cX6_undoTo 7 = .ok (.iload_n 2, 1) := by decide +kernel
theorem dX6_undoTo_8 : decode cX6_undoTo 8 = .ok (.isub, 1) := by decide +kernel
theorem dX6_undoTo_9 : decode cX6_undoTo 9 = .ok (.istore_n 3, 1) := by decide +kernel
theorem dX6_undoTo_10 : decode cX6_undoTo 10 = .ok (.aload_n 0, 1) := by decide +kernel
theorem dX6_undoTo_11 : decode cX6_undoTo 11 = .ok (.iload_n 1, 1) := by decide +kernel
theorem dX6_undoTo_12 : decode cX6_undoTo 12 = .ok (.iconst 1, 1) := by decide +kernel
theorem dX6_undoTo_13 : decode cX6_undoTo 13 = .ok (.invokestatic 65, 3) := by decide +kernel
theorem dX6_undoTo_16 : decode cX6_undoTo 16 = .ok (.iaload, 1) := by decide +kernel
theorem dX6_undoTo_17 : decode cX6_undoTo 17 = .ok (.iload_n 2, 1) := by decide +kernel
theorem dX6_undoTo_18 : decode cX6_undoTo 18 = .ok (.if_icmp .le 47, 3) := by decide +kernel
theorem dX6_undoTo_21 : decode cX6_undoTo 21 = .ok (.aload_n 0, 1) := by decide +kernel
theorem dX6_undoTo_22 : decode cX6_undoTo 22 = .ok (.iload_n 1, 1) := by decide +kernel
theorem dX6_undoTo_23 : decode cX6_undoTo 23 = .ok (.iconst 1, 1) := by decide +kernel
theorem dX6_undoTo_24 : decode cX6_undoTo 24 = .ok (.invokestatic 65, 3) := by decide +kernel
theorem dX6_undoTo_27 : decode cX6_undoTo 27 = .ok (.dup2, 1) := by decide +kernel
theorem dX6_undoTo_28 : decode cX6_undoTo 28 = .ok (.iaload, 1) := by decide +kernel
theorem dX6_undoTo_29 : decode cX6_undoTo 29 = .ok (.iconst 1, 1) := by decide +kernel
theorem dX6_undoTo_30 : decode cX6_undoTo 30 = .ok (.isub, 1) := by decide +kernel
theorem dX6_undoTo_31 : decode cX6_undoTo 31 = .ok (.iastore, 1) := by decide +kernel
theorem dX6_undoTo_32 : decode cX6_undoTo 32 = .ok (.aload_n 0, 1) := by decide +kernel
theorem dX6_undoTo_33 : decode cX6_undoTo 33 = .ok (.iload_n 1, 1) := by decide +kernel
theorem dX6_undoTo_34 : decode cX6_undoTo 34 = .ok (.bipush 70, 2) := by decide +kernel
theorem dX6_undoTo_36 : decode cX6_undoTo 36 = .ok (.aload_n 0, 1) := by decide +kernel
theorem dX6_undoTo_37 : decode cX6_undoTo 37 = .ok (.iload_n 1, 1) := by decide +kernel
theorem dX6_undoTo_38 : decode cX6_undoTo 38 = .ok (.iconst 1, 1) := by decide +kernel
theorem dX6_undoTo_39 : decode cX6_undoTo 39 = .ok (.invokestatic 65, 3) := by decide +kernel
theorem dX6_undoTo_42 : decode cX6_undoTo 42 = .ok (.iaload, 1) := by decide +kernel
theorem dX6_undoTo_43 : decode cX6_undoTo 43 = .ok (.iadd, 1) := by decide +kernel
theorem dX6_undoTo_44 : decode cX6_undoTo 44 = .ok (.invokestatic 65, 3) := by decide +kernel
theorem dX6_undoTo_47 : decode cX6_undoTo 47 = .ok (.iaload, 1) := by decide +kernel
theorem dX6_undoTo_48 : decode cX6_undoTo 48 = .ok (.istore 4, 2) := by decide +kernel
theorem dX6_undoTo_50 : decode cX6_undoTo 50 = .ok (.aload_n 0, 1) := by decide +kernel
theorem dX6_undoTo_51 : decode cX6_undoTo 51 = .ok (.iload 4, 2) := by decide +kernel
theorem dX6_undoTo_53 : decode cX6_undoTo 53 = .ok (.bipush 100, 2) := by decide +kernel
theorem dX6_undoTo_55 : decode cX6_undoTo 55 = .ok (.idiv, 1) := by decide +kernel
theorem dX6_undoTo_56 : decode cX6_undoTo 56 = .ok (.iload 4, 2) := by decide +kernel
theorem dX6_undoTo_58 : decode cX6_undoTo 58 = .ok (.bipush 100, 2) := by decide +kernel
theorem dX6_undoTo_60 : decode cX6_undoTo 60 = .ok (.irem, 1) := by decide +kernel
theorem dX6_undoTo_61 : decode cX6_undoTo 61 = .ok (.iastore, 1) := by decide +kernel
theorem dX6_undoTo_62 : decode cX6_undoTo 62 = .ok (.goto (-52), 3) := by decide +kernel
theorem dX6_undoTo_65 : decode cX6_undoTo 65 = .ok (.iload_n 3, 1) := by decide +kernel
theorem dX6_undoTo_66 : decode cX6_undoTo 66 = .ok (.ireturn, 1) := by decide +kernel
theorem dX6_backIn_0 : decode cX6_backIn 0 = .ok (.aload_n 0, 1) := by decide +kernel
theorem dX6_backIn_1 : decode cX6_backIn 1 = .ok (.iload_n 1, 1) := by decide +kernel
theorem dX6_backIn_2 : decode cX6_backIn 2 = .ok (.aload_n 0, 1) := by decide +kernel
theorem dX6_backIn_3 : decode cX6_backIn 3 = .ok (.aload_n 0, 1) := by decide +kernel
theorem dX6_backIn_4 : decode cX6_backIn 4 = .ok (.iload_n 1, 1) := by decide +kernel
theorem dX6_backIn_5 : decode cX6_backIn 5 = .ok (.iconst 5, 1) := by decide +kernel
theorem dX6_backIn_6 : decode cX6_backIn 6 = .ok (.iload_n 2, 1) := by decide +kernel
theorem dX6_backIn_7 : decode cX6_backIn 7 = .ok (.iadd, 1) := by decide +kernel
theorem dX6_backIn_8 : decode cX6_backIn 8 = .ok (.invokestatic 77, 3) := by decide +kernel
theorem dX6_backIn_11 : decode cX6_backIn 11 = .ok (.iaload, 1) := by decide +kernel
theorem dX6_backIn_12 : decode cX6_backIn 12 = .ok (.invokestatic 96, 3) := by decide +kernel
theorem dX6_backIn_15 : decode cX6_backIn 15 = .ok (.istore_n 3, 1) := by decide +kernel
theorem dX6_backIn_16 : decode cX6_backIn 16 = .ok (.aload_n 0, 1) := by decide +kernel
theorem dX6_backIn_17 : decode cX6_backIn 17 = .ok (.iload_n 1, 1) := by decide +kernel
theorem dX6_backIn_18 : decode cX6_backIn 18 = .ok (.iconst 2, 1) := by decide +kernel
theorem dX6_backIn_19 : decode cX6_backIn 19 = .ok (.invokestatic 65, 3) := by decide +kernel
theorem dX6_backIn_22 : decode cX6_backIn 22 = .ok (.aload_n 0, 1) := by decide +kernel
theorem dX6_backIn_23 : decode cX6_backIn 23 = .ok (.aload_n 0, 1) := by decide +kernel
theorem dX6_backIn_24 : decode cX6_backIn 24 = .ok (.iload_n 1, 1) := by decide +kernel
theorem dX6_backIn_25 : decode cX6_backIn 25 = .ok (.bipush 9, 2) := by decide +kernel
theorem dX6_backIn_27 : decode cX6_backIn 27 = .ok (.iload_n 2, 1) := by decide +kernel
theorem dX6_backIn_28 : decode cX6_backIn 28 = .ok (.iadd, 1) := by decide +kernel
theorem dX6_backIn_29 : decode cX6_backIn 29 = .ok (.invokestatic 77, 3) := by decide +kernel
theorem dX6_backIn_32 : decode cX6_backIn 32 = .ok (.iaload, 1) := by decide +kernel
theorem dX6_backIn_33 : decode cX6_backIn 33 = .ok (.iastore, 1) := by decide +kernel
theorem dX6_backIn_34 : decode cX6_backIn 34 = .ok (.aload_n 0, 1) := by decide +kernel
theorem dX6_backIn_35 : decode cX6_backIn 35 = .ok (.aload_n 0, 1) := by decide +kernel
theorem dX6_backIn_36 : decode cX6_backIn 36 = .ok (.iload_n 1, 1) := by decide +kernel
theorem dX6_backIn_37 : decode cX6_backIn 37 = .ok (.iconst 2, 1) := by decide +kernel
theorem dX6_backIn_38 : decode cX6_backIn 38 = .ok (.invokestatic 77, 3) := by decide +kernel
theorem dX6_backIn_41 : decode cX6_backIn 41 = .ok (.iload_n 2, 1) := by decide +kernel
theorem dX6_backIn_42 : decode cX6_backIn 42 = .ok (.iconst 1, 1) := by decide +kernel
theorem dX6_backIn_43 : decode cX6_backIn 43 = .ok (.iadd, 1) := by decide +kernel
theorem dX6_backIn_44 : decode cX6_backIn 44 = .ok (.iastore, 1) := by decide +kernel
theorem dX6_backIn_45 : decode cX6_backIn 45 = .ok (.iload_n 3, 1) := by decide +kernel
theorem dX6_backIn_46 : decode cX6_backIn 46 = .ok (.ireturn, 1) := by decide +kernel
theorem dX6_canRegret_0 : decode cX6_canRegret 0 = .ok (.aload_n 0, 1) := by decide +kernel
theorem dX6_canRegret_1 : decode cX6_canRegret 1 = .ok (.iload_n 1, 1) := by decide +kernel
theorem dX6_canRegret_2 : decode cX6_canRegret 2 = .ok (.iload_n 2, 1) := by decide +kernel
theorem dX6_canRegret_3 : decode cX6_canRegret 3 = .ok (.invokestatic 99, 3) := by decide +kernel
theorem dX6_canRegret_6 : decode cX6_canRegret 6 = .ok (.istore_n 3, 1) := by decide +kernel
theorem dX6_canRegret_7 : decode cX6_canRegret 7 = .ok (.iload_n 3, 1) := by decide +kernel
theorem dX6_canRegret_8 : decode cX6_canRegret 8 = .ok (.ifCond .eq 8, 3) := by decide +kernel
theorem dX6_canRegret_11 : decode cX6_canRegret 11 = .ok (.iload_n 3, 1) := by decide +kernel
theorem dX6_canRegret_12 : decode cX6_canRegret 12 = .ok (.iconst 4, 1) := by decide +kernel
theorem dX6_canRegret_13 : decode cX6_canRegret 13 = .ok (.if_icmp .ne 24, 3) := by decide +kernel
theorem dX6_canRegret_16 : decode cX6_canRegret 16 = .ok (.aload_n 0, 1) := by decide +kernel
theorem dX6_canRegret_17 : decode cX6_canRegret 17 = .ok (.iload_n 1, 1) := by decide +kernel
theorem dX6_canRegret_18 : decode cX6_canRegret 18 = .ok (.aload_n 0, 1) := by decide +kernel
theorem dX6_canRegret_19 : decode cX6_canRegret 19 = .ok (.iload_n 1, 1) := by decide +kernel
theorem dX6_canRegret_20 : decode cX6_canRegret 20 = .ok (.invokestatic 69, 3) := by decide +kernel
theorem dX6_canRegret_23 : decode cX6_canRegret 23 = .ok (.iconst 1, 1) := by decide +kernel
theorem dX6_canRegret_24 : decode cX6_canRegret 24 = .ok (.isub, 1) := by decide +kernel
theorem dX6_canRegret_25 : decode cX6_canRegret 25 = .ok (.invokestatic 102, 3) := by decide +kernel
theorem dX6_canRegret_28 : decode cX6_canRegret 28 = .ok (.bipush 6, 2) := by decide +kernel
theorem dX6_canRegret_30 : decode cX6_canRegret 30 = .ok (.if_icmp .ge 7, 3) := by decide +kernel
theorem dX6_canRegret_33 : decode cX6_canRegret 33 = .ok (.iconst 1, 1) := by decide +kernel
theorem dX6_canRegret_34 : decode cX6_canRegret 34 = .ok (.goto 4, 3) := by decide +kernel
theorem dX6_canRegret_37 : decode cX6_canRegret 37 = .ok (.iconst 0, 1) := by decide +kernel
theorem dX6_canRegret_38 : decode cX6_canRegret 38 = .ok (.ireturn, 1) := by decide +kernel
theorem dX6_regretIn_0 : decode cX6_regretIn 0 = .ok (.aload_n 0, 1) := by decide +kernel
theorem dX6_regretIn_1 : decode cX6_regretIn 1 = .ok (.bipush 16, 2) := by decide +kernel
theorem dX6_regretIn_3 : decode cX6_regretIn 3 = .ok (.iload_n 2, 1) := by decide +kernel
theorem dX6_regretIn_4 : decode cX6_regretIn 4 = .ok (.iadd, 1) := by decide +kernel
theorem dX6_regretIn_5 : decode cX6_regretIn 5 = .ok (.iload_n 1, 1) := by decide +kernel
theorem dX6_regretIn_6 : decode cX6_regretIn 6 = .ok (.iconst 1, 1) := by decide +kernel
theorem dX6_regretIn_7 : decode cX6_regretIn 7 = .ok (.iadd, 1) := by decide +kernel
theorem dX6_regretIn_8 : decode cX6_regretIn 8 = .ok (.iastore, 1) := by decide +kernel
theorem dX6_regretIn_9 : decode cX6_regretIn 9 = .ok (.aload_n 0, 1) := by decide +kernel
theorem dX6_regretIn_10 : decode cX6_regretIn 10 = .ok (.iload_n 1, 1) := by decide +kernel
theorem dX6_regretIn_11 : decode cX6_regretIn 11 = .ok (.sipush 710, 3) := by decide +kernel
theorem dX6_regretIn_14 : decode cX6_regretIn 14 = .ok (.aload_n 0, 1) := by decide +kernel
theorem dX6_regretIn_15 : decode cX6_regretIn 15 = .ok (.iload_n 1, 1) := by decide +kernel
theorem dX6_regretIn_16 : decode cX6_regretIn 16 = .ok (.iconst 2, 1) := by decide +kernel
theorem dX6_regretIn_17 : decode cX6_regretIn 17 = .ok (.invokestatic 65, 3) := by decide +kernel
theorem dX6_regretIn_20 : decode cX6_regretIn 20 = .ok (.iaload, 1) := by decide +kernel
theorem dX6_regretIn_21 : decode cX6_regretIn 21 = .ok (.iadd, 1) := by decide +kernel
theorem dX6_regretIn_22 : decode cX6_regretIn 22 = .ok (.invokestatic 65, 3) := by decide +kernel
theorem dX6_regretIn_25 : decode cX6_regretIn 25 = .ok (.bipush 100, 2) := by decide +kernel
theorem dX6_regretIn_27 : decode cX6_regretIn 27 = .ok (.iload_n 2, 1) := by decide +kernel
theorem dX6_regretIn_28 : decode cX6_regretIn 28 = .ok (.imul, 1) := by decide +kernel
theorem dX6_regretIn_29 : decode cX6_regretIn 29 = .ok (.iload_n 3, 1) := by decide +kernel
theorem dX6_regretIn_30 : decode cX6_regretIn 30 = .ok (.iadd, 1) := by decide +kernel
theorem dX6_regretIn_31 : decode cX6_regretIn 31 = .ok (.iastore, 1) := by decide +kernel
theorem dX6_regretIn_32 : decode cX6_regretIn 32 = .ok (.aload_n 0, 1) := by decide +kernel
theorem dX6_regretIn_33 : decode cX6_regretIn 33 = .ok (.iload_n 1, 1) := by decide +kernel
theorem dX6_regretIn_34 : decode cX6_regretIn 34 = .ok (.iconst 2, 1) := by decide +kernel
theorem dX6_regretIn_35 : decode cX6_regretIn 35 = .ok (.invokestatic 65, 3) := by decide +kernel
theorem dX6_regretIn_38 : decode cX6_regretIn 38 = .ok (.dup2, 1) := by decide +kernel
theorem dX6_regretIn_39 : decode cX6_regretIn 39 = .ok (.iaload, 1) := by decide +kernel
theorem dX6_regretIn_40 : decode cX6_regretIn 40 = .ok (.iconst 1, 1) := by decide +kernel
theorem dX6_regretIn_41 : decode cX6_regretIn 41 = .ok (.iadd, 1) := by decide +kernel
theorem dX6_regretIn_42 : decode cX6_regretIn 42 = .ok (.iastore, 1) := by decide +kernel
theorem dX6_regretIn_43 : decode cX6_regretIn 43 = .ok (.aload_n 0, 1) := by decide +kernel
theorem dX6_regretIn_44 : decode cX6_regretIn 44 = .ok (.iload_n 1, 1) := by decide +kernel
theorem dX6_regretIn_45 : decode cX6_regretIn 45 = .ok (.aload_n 0, 1) := by decide +kernel
theorem dX6_regretIn_46 : decode cX6_regretIn 46 = .ok (.iload_n 1, 1) := by decide +kernel
theorem dX6_regretIn_47 : decode cX6_regretIn 47 = .ok (.invokestatic 69, 3) := by decide +kernel
theorem dX6_regretIn_50 : decode cX6_regretIn 50 = .ok (.iconst 1, 1) := by decide +kernel
theorem dX6_regretIn_51 : decode cX6_regretIn 51 = .ok (.isub, 1) := by decide +kernel
theorem dX6_regretIn_52 : decode cX6_regretIn 52 = .ok (.invokestatic 102, 3) := by decide +kernel
theorem dX6_regretIn_55 : decode cX6_regretIn 55 = .ok (.ireturn, 1) := by decide +kernel
theorem dX6_end_0 : decode cX6_end 0 = .ok (.aload_n 0, 1) := by decide +kernel
theorem dX6_end_1 : decode cX6_end 1 = .ok (.iload_n 1, 1) := by decide +kernel
theorem dX6_end_2 : decode cX6_end 2 = .ok (.iconst 1, 1) := by decide +kernel
theorem dX6_end_3 : decode cX6_end 3 = .ok (.invokestatic 65, 3) := by decide +kernel
theorem dX6_end_6 : decode cX6_end 6 = .ok (.iconst 0, 1) := by decide +kernel
theorem dX6_end_7 : decode cX6_end 7 = .ok (.iastore, 1) := by decide +kernel
theorem dX6_end_8 : decode cX6_end 8 = .ok (.aload_n 0, 1) := by decide +kernel
theorem dX6_end_9 : decode cX6_end 9 = .ok (.iload_n 1, 1) := by decide +kernel
theorem dX6_end_10 : decode cX6_end 10 = .ok (.iconst 2, 1) := by decide +kernel
theorem dX6_end_11 : decode cX6_end 11 = .ok (.invokestatic 65, 3) := by decide +kernel
theorem dX6_end_14 : decode cX6_end 14 = .ok (.iconst 0, 1) := by decide +kernel
theorem dX6_end_15 : decode cX6_end 15 = .ok (.iastore, 1) := by decide +kernel
theorem dX6_end_16 : decode cX6_end 16 = .ok (.iconst 0, 1) := by decide +kernel
theorem dX6_end_17 : decode cX6_end 17 = .ok (.istore_n 2, 1) := by decide +kernel
theorem dX6_end_18 : decode cX6_end 18 = .ok (.iload_n 2, 1) := by decide +kernel
theorem dX6_end_19 : decode cX6_end 19 = .ok (.bipush 16, 2) := by decide +kernel
theorem dX6_end_21 : decode cX6_end 21 = .ok (.if_icmp .ge 37, 3) := by decide +kernel
theorem dX6_end_24 : decode cX6_end 24 = .ok (.aload_n 0, 1) := by decide +kernel
theorem dX6_end_25 : decode cX6_end 25 = .ok (.bipush 16, 2) := by decide +kernel
theorem dX6_end_27 : decode cX6_end 27 = .ok (.iload_n 2, 1) := by decide +kernel
theorem dX6_end_28 : decode cX6_end 28 = .ok (.iadd, 1) := by decide +kernel
theorem dX6_end_29 : decode cX6_end 29 = .ok (.aload_n 0, 1) := by decide +kernel
theorem dX6_end_30 : decode cX6_end 30 = .ok (.bipush 16, 2) := by decide +kernel
theorem dX6_end_32 : decode cX6_end 32 = .ok (.iload_n 2, 1) := by decide +kernel
theorem dX6_end_33 : decode cX6_end 33 = .ok (.iadd, 1) := by decide +kernel
theorem dX6_end_34 : decode cX6_end 34 = .ok (.iaload, 1) := by decide +kernel
theorem dX6_end_35 : decode cX6_end 35 = .ok (.iload_n 1, 1) := by decide +kernel
theorem dX6_end_36 : decode cX6_end 36 = .ok (.iconst 1, 1) := by decide +kernel
theorem dX6_end_37 : decode cX6_end 37 = .ok (.iadd, 1) := by decide +kernel
theorem dX6_end_38 : decode cX6_end 38 = .ok (.if_icmp .ne 7, 3) := by decide +kernel
theorem dX6_end_41 : decode cX6_end 41 = .ok (.iconst 0, 1) := by decide +kernel
theorem dX6_end_42 : decode cX6_end 42 = .ok (.goto 9, 3) := by decide +kernel
theorem dX6_end_45 : decode cX6_end 45 = .ok (.aload_n 0, 1) := by decide +kernel
theorem dX6_end_46 : decode cX6_end 46 = .ok (.bipush 16, 2) := by decide +kernel
theorem dX6_end_48 : decode cX6_end 48 = .ok (.iload_n 2, 1) := by decide +kernel
theorem dX6_end_49 : decode cX6_end 49 = .ok (.iadd, 1) := by decide +kernel
theorem dX6_end_50 : decode cX6_end 50 = .ok (.iaload, 1) := by decide +kernel
theorem dX6_end_51 : decode cX6_end 51 = .ok (.iastore, 1) := by decide +kernel
theorem dX6_end_52 : decode cX6_end 52 = .ok (.iinc 2 1, 3) := by decide +kernel
theorem dX6_end_55 : decode cX6_end 55 = .ok (.goto (-37), 3) := by decide +kernel
theorem dX6_end_58 : decode cX6_end 58 = .ok (.return_, 1) := by decide +kernel
theorem dX6_doneIn_0 : decode cX6_doneIn 0 = .ok (.aload_n 0, 1) := by decide +kernel
theorem dX6_doneIn_1 : decode cX6_doneIn 1 = .ok (.iload_n 1, 1) := by decide +kernel
theorem dX6_doneIn_2 : decode cX6_doneIn 2 = .ok (.iconst 0, 1) := by decide +kernel
theorem dX6_doneIn_3 : decode cX6_doneIn 3 = .ok (.invokestatic 65, 3) := by decide +kernel
theorem dX6_doneIn_6 : decode cX6_doneIn 6 = .ok (.dup2, 1) := by decide +kernel
theorem dX6_doneIn_7 : decode cX6_doneIn 7 = .ok (.iaload, 1) := by decide +kernel
theorem dX6_doneIn_8 : decode cX6_doneIn 8 = .ok (.iconst 1, 1) := by decide +kernel
theorem dX6_doneIn_9 : decode cX6_doneIn 9 = .ok (.isub, 1) := by decide +kernel
theorem dX6_doneIn_10 : decode cX6_doneIn 10 = .ok (.iastore, 1) := by decide +kernel
theorem dX6_doneIn_11 : decode cX6_doneIn 11 = .ok (.aload_n 0, 1) := by decide +kernel
theorem dX6_doneIn_12 : decode cX6_doneIn 12 = .ok (.iload_n 1, 1) := by decide +kernel
theorem dX6_doneIn_13 : decode cX6_doneIn 13 = .ok (.invokestatic 69, 3) := by decide +kernel
theorem dX6_doneIn_16 : decode cX6_doneIn 16 = .ok (.ifCond .ne 19, 3) := by decide +kernel
theorem dX6_doneIn_19 : decode cX6_doneIn 19 = .ok (.aload_n 0, 1) := by decide +kernel
theorem dX6_doneIn_20 : decode cX6_doneIn 20 = .ok (.iload_n 1, 1) := by decide +kernel
theorem dX6_doneIn_21 : decode cX6_doneIn 21 = .ok (.invokestatic 105, 3) := by decide +kernel
theorem dX6_doneIn_24 : decode cX6_doneIn 24 = .ok (.aload_n 0, 1) := by decide +kernel
theorem dX6_doneIn_25 : decode cX6_doneIn 25 = .ok (.iload_n 1, 1) := by decide +kernel
theorem dX6_doneIn_26 : decode cX6_doneIn 26 = .ok (.iconst 3, 1) := by decide +kernel
theorem dX6_doneIn_27 : decode cX6_doneIn 27 = .ok (.invokestatic 65, 3) := by decide +kernel
theorem dX6_doneIn_30 : decode cX6_doneIn 30 = .ok (.dup2, 1) := by decide +kernel
theorem dX6_doneIn_31 : decode cX6_doneIn 31 = .ok (.iaload, 1) := by decide +kernel
theorem dX6_doneIn_32 : decode cX6_doneIn 32 = .ok (.iconst 1, 1) := by decide +kernel
theorem dX6_doneIn_33 : decode cX6_doneIn 33 = .ok (.iadd, 1) := by decide +kernel
theorem dX6_doneIn_34 : decode cX6_doneIn 34 = .ok (.iastore, 1) := by decide +kernel
theorem dX6_doneIn_35 : decode cX6_doneIn 35 = .ok (.aload_n 0, 1) := by decide +kernel
theorem dX6_doneIn_36 : decode cX6_doneIn 36 = .ok (.iload_n 1, 1) := by decide +kernel
theorem dX6_doneIn_37 : decode cX6_doneIn 37 = .ok (.invokestatic 69, 3) := by decide +kernel
theorem dX6_doneIn_40 : decode cX6_doneIn 40 = .ok (.ireturn, 1) := by decide +kernel
theorem dX6_rue_0 : decode cX6_rue 0 = .ok (.aload_n 0, 1) := by decide +kernel
theorem dX6_rue_1 : decode cX6_rue 1 = .ok (.iload_n 1, 1) := by decide +kernel
theorem dX6_rue_2 : decode cX6_rue 2 = .ok (.iconst 2, 1) := by decide +kernel
theorem dX6_rue_3 : decode cX6_rue 3 = .ok (.invokestatic 65, 3) := by decide +kernel
theorem dX6_rue_6 : decode cX6_rue 6 = .ok (.iaload, 1) := by decide +kernel
theorem dX6_rue_7 : decode cX6_rue 7 = .ok (.iload_n 2, 1) := by decide +kernel
theorem dX6_rue_8 : decode cX6_rue 8 = .ok (.if_icmp .le 79, 3) := by decide +kernel
theorem dX6_rue_11 : decode cX6_rue 11 = .ok (.aload_n 0, 1) := by decide +kernel
theorem dX6_rue_12 : decode cX6_rue 12 = .ok (.iload_n 1, 1) := by decide +kernel
theorem dX6_rue_13 : decode cX6_rue 13 = .ok (.iconst 2, 1) := by decide +kernel
theorem dX6_rue_14 : decode cX6_rue 14 = .ok (.invokestatic 65, 3) := by decide +kernel
theorem dX6_rue_17 : decode cX6_rue 17 = .ok (.dup2, 1) := by decide +kernel
theorem dX6_rue_18 : decode cX6_rue 18 = .ok (.iaload, 1) := by decide +kernel
theorem dX6_rue_19 : decode cX6_rue 19 = .ok (.iconst 1, 1) := by decide +kernel
theorem dX6_rue_20 : decode cX6_rue 20 = .ok (.isub, 1) := by decide +kernel
theorem dX6_rue_21 : decode cX6_rue 21 = .ok (.iastore, 1) := by decide +kernel
theorem dX6_rue_22 : decode cX6_rue 22 = .ok (.aload_n 0, 1) := by decide +kernel
theorem dX6_rue_23 : decode cX6_rue 23 = .ok (.iload_n 1, 1) := by decide +kernel
theorem dX6_rue_24 : decode cX6_rue 24 = .ok (.sipush 710, 3) := by decide +kernel
theorem dX6_rue_27 : decode cX6_rue 27 = .ok (.aload_n 0, 1) := by decide +kernel
theorem dX6_rue_28 : decode cX6_rue 28 = .ok (.iload_n 1, 1) := by decide +kernel
theorem dX6_rue_29 : decode cX6_rue 29 = .ok (.iconst 2, 1) := by decide +kernel
theorem dX6_rue_30 : decode cX6_rue 30 = .ok (.invokestatic 65, 3) := by decide +kernel
theorem dX6_rue_33 : decode cX6_rue 33 = .ok (.iaload, 1) := by decide +kernel
theorem dX6_rue_34 : decode cX6_rue 34 = .ok (.iadd, 1) := by decide +kernel
theorem dX6_rue_35 : decode cX6_rue 35 = .ok (.invokestatic 65, 3) := by decide +kernel
theorem dX6_rue_38 : decode cX6_rue 38 = .ok (.iaload, 1) := by decide +kernel
theorem dX6_rue_39 : decode cX6_rue 39 = .ok (.istore 4, 2) := by decide +kernel
theorem dX6_rue_41 : decode cX6_rue 41 = .ok (.iload 4, 2) := by decide +kernel
theorem dX6_rue_43 : decode cX6_rue 43 = .ok (.bipush 100, 2) := by decide +kernel
theorem dX6_rue_45 : decode cX6_rue 45 = .ok (.idiv, 1) := by decide +kernel
theorem dX6_rue_46 : decode cX6_rue 46 = .ok (.istore 5, 2) := by decide +kernel
theorem dX6_rue_48 : decode cX6_rue 48 = .ok (.iload_n 3, 1) := by decide +kernel
theorem dX6_rue_49 : decode cX6_rue 49 = .ok (.ifCond .ne 10, 3) := by decide +kernel
theorem dX6_rue_52 : decode cX6_rue 52 = .ok (.aload_n 0, 1) := by decide +kernel
theorem dX6_rue_53 : decode cX6_rue 53 = .ok (.iload_n 1, 1) := by decide +kernel
theorem dX6_rue_54 : decode cX6_rue 54 = .ok (.iload 5, 2) := by decide +kernel
theorem dX6_rue_56 : decode cX6_rue 56 = .ok (.invokestatic 85, 3) := by decide +kernel
theorem dX6_rue_59 : decode cX6_rue 59 = .ok (.aload_n 0, 1) := by decide +kernel
theorem dX6_rue_60 : decode cX6_rue 60 = .ok (.iload 5, 2) := by decide +kernel
theorem dX6_rue_62 : decode cX6_rue 62 = .ok (.aload_n 0, 1) := by decide +kernel
theorem dX6_rue_63 : decode cX6_rue 63 = .ok (.iload 5, 2) := by decide +kernel
theorem dX6_rue_65 : decode cX6_rue 65 = .ok (.iaload, 1) := by decide +kernel
theorem dX6_rue_66 : decode cX6_rue 66 = .ok (.iload 4, 2) := by decide +kernel
theorem dX6_rue_68 : decode cX6_rue 68 = .ok (.bipush 100, 2) := by decide +kernel
theorem dX6_rue_70 : decode cX6_rue 70 = .ok (.irem, 1) := by decide +kernel
theorem dX6_rue_71 : decode cX6_rue 71 = .ok (.iadd, 1) := by decide +kernel
theorem dX6_rue_72 : decode cX6_rue 72 = .ok (.bipush 100, 2) := by decide +kernel
theorem dX6_rue_74 : decode cX6_rue 74 = .ok (.irem, 1) := by decide +kernel
theorem dX6_rue_75 : decode cX6_rue 75 = .ok (.iastore, 1) := by decide +kernel
theorem dX6_rue_76 : decode cX6_rue 76 = .ok (.aload_n 0, 1) := by decide +kernel
theorem dX6_rue_77 : decode cX6_rue 77 = .ok (.bipush 35, 2) := by decide +kernel
theorem dX6_rue_79 : decode cX6_rue 79 = .ok (.dup2, 1) := by decide +kernel
theorem dX6_rue_80 : decode cX6_rue 80 = .ok (.iaload, 1) := by decide +kernel
theorem dX6_rue_81 : decode cX6_rue 81 = .ok (.iconst 1, 1) := by decide +kernel
theorem dX6_rue_82 : decode cX6_rue 82 = .ok (.iadd, 1) := by decide +kernel
theorem dX6_rue_83 : decode cX6_rue 83 = .ok (.iastore, 1) := by decide +kernel
theorem dX6_rue_84 : decode cX6_rue 84 = .ok (.goto (-84), 3) := by decide +kernel
theorem dX6_rue_87 : decode cX6_rue 87 = .ok (.return_, 1) := by decide +kernel
theorem dX6_failIn_0 : decode cX6_failIn 0 = .ok (.aload_n 0, 1) := by decide +kernel
theorem dX6_failIn_1 : decode cX6_failIn 1 = .ok (.aload_n 0, 1) := by decide +kernel
theorem dX6_failIn_2 : decode cX6_failIn 2 = .ok (.iload_n 1, 1) := by decide +kernel
theorem dX6_failIn_3 : decode cX6_failIn 3 = .ok (.iconst 0, 1) := by decide +kernel
theorem dX6_failIn_4 : decode cX6_failIn 4 = .ok (.invokestatic 77, 3) := by decide +kernel
theorem dX6_failIn_7 : decode cX6_failIn 7 = .ok (.iaload, 1) := by decide +kernel
theorem dX6_failIn_8 : decode cX6_failIn 8 = .ok (.istore_n 2, 1) := by decide +kernel
theorem dX6_failIn_9 : decode cX6_failIn 9 = .ok (.aload_n 0, 1) := by decide +kernel
theorem dX6_failIn_10 : decode cX6_failIn 10 = .ok (.aload_n 0, 1) := by decide +kernel
theorem dX6_failIn_11 : decode cX6_failIn 11 = .ok (.iload_n 1, 1) := by decide +kernel
theorem dX6_failIn_12 : decode cX6_failIn 12 = .ok (.iconst 1, 1) := by decide +kernel
theorem dX6_failIn_13 : decode cX6_failIn 13 = .ok (.invokestatic 77, 3) := by decide +kernel
theorem dX6_failIn_16 : decode cX6_failIn 16 = .ok (.iaload, 1) := by decide +kernel
theorem dX6_failIn_17 : decode cX6_failIn 17 = .ok (.istore_n 3, 1) := by decide +kernel
theorem dX6_failIn_18 : decode cX6_failIn 18 = .ok (.aload_n 0, 1) := by decide +kernel
theorem dX6_failIn_19 : decode cX6_failIn 19 = .ok (.iload_n 1, 1) := by decide +kernel
theorem dX6_failIn_20 : decode cX6_failIn 20 = .ok (.iload_n 2, 1) := by decide +kernel
theorem dX6_failIn_21 : decode cX6_failIn 21 = .ok (.invokestatic 96, 3) := by decide +kernel
theorem dX6_failIn_24 : decode cX6_failIn 24 = .ok (.pop, 1) := by decide +kernel
theorem dX6_failIn_25 : decode cX6_failIn 25 = .ok (.aload_n 0, 1) := by decide +kernel
theorem dX6_failIn_26 : decode cX6_failIn 26 = .ok (.iload_n 1, 1) := by decide +kernel
theorem dX6_failIn_27 : decode cX6_failIn 27 = .ok (.iconst 0, 1) := by decide +kernel
theorem dX6_failIn_28 : decode cX6_failIn 28 = .ok (.invokestatic 65, 3) := by decide +kernel
theorem dX6_failIn_31 : decode cX6_failIn 31 = .ok (.dup2, 1) := by decide +kernel
theorem dX6_failIn_32 : decode cX6_failIn 32 = .ok (.iaload, 1) := by decide +kernel
theorem dX6_failIn_33 : decode cX6_failIn 33 = .ok (.iconst 1, 1) := by decide +kernel
theorem dX6_failIn_34 : decode cX6_failIn 34 = .ok (.isub, 1) := by decide +kernel
theorem dX6_failIn_35 : decode cX6_failIn 35 = .ok (.iastore, 1) := by decide +kernel
theorem dX6_failIn_36 : decode cX6_failIn 36 = .ok (.aload_n 0, 1) := by decide +kernel
theorem dX6_failIn_37 : decode cX6_failIn 37 = .ok (.iload_n 1, 1) := by decide +kernel
theorem dX6_failIn_38 : decode cX6_failIn 38 = .ok (.iload_n 3, 1) := by decide +kernel
theorem dX6_failIn_39 : decode cX6_failIn 39 = .ok (.aload_n 0, 1) := by decide +kernel
theorem dX6_failIn_40 : decode cX6_failIn 40 = .ok (.iload_n 1, 1) := by decide +kernel
theorem dX6_failIn_41 : decode cX6_failIn 41 = .ok (.invokestatic 69, 3) := by decide +kernel
theorem dX6_failIn_44 : decode cX6_failIn 44 = .ok (.ifCond .ne 7, 3) := by decide +kernel
theorem dX6_failIn_47 : decode cX6_failIn 47 = .ok (.iconst 1, 1) := by decide +kernel
theorem dX6_failIn_48 : decode cX6_failIn 48 = .ok (.goto 4, 3) := by decide +kernel
theorem dX6_failIn_51 : decode cX6_failIn 51 = .ok (.iconst 0, 1) := by decide +kernel
theorem dX6_failIn_52 : decode cX6_failIn 52 = .ok (.invokestatic 109, 3) := by decide +kernel
theorem dX6_failIn_55 : decode cX6_failIn 55 = .ok (.aload_n 0, 1) := by decide +kernel
theorem dX6_failIn_56 : decode cX6_failIn 56 = .ok (.iload_n 1, 1) := by decide +kernel
theorem dX6_failIn_57 : decode cX6_failIn 57 = .ok (.invokestatic 69, 3) := by decide +kernel
theorem dX6_failIn_60 : decode cX6_failIn 60 = .ok (.ifCond .ne 21, 3) := by decide +kernel
theorem dX6_failIn_63 : decode cX6_failIn 63 = .ok (.aload_n 0, 1) := by decide +kernel
theorem dX6_failIn_64 : decode cX6_failIn 64 = .ok (.iload_n 1, 1) := by decide +kernel
theorem dX6_failIn_65 : decode cX6_failIn 65 = .ok (.invokestatic 105, 3) := by decide +kernel
theorem dX6_failIn_68 : decode cX6_failIn 68 = .ok (.aload_n 0, 1) := by decide +kernel
theorem dX6_failIn_69 : decode cX6_failIn 69 = .ok (.iload_n 1, 1) := by decide +kernel
theorem dX6_failIn_70 : decode cX6_failIn 70 = .ok (.iconst 4, 1) := by decide +kernel
theorem dX6_failIn_71 : decode cX6_failIn 71 = .ok (.invokestatic 65, 3) := by decide +kernel
theorem dX6_failIn_74 : decode cX6_failIn 74 = .ok (.dup2, 1) := by decide +kernel
theorem dX6_failIn_75 : decode cX6_failIn 75 = .ok (.iaload, 1) := by decide +kernel
theorem dX6_failIn_76 : decode cX6_failIn 76 = .ok (.iconst 1, 1) := by decide +kernel
theorem dX6_failIn_77 : decode cX6_failIn 77 = .ok (.iadd, 1) := by decide +kernel
theorem dX6_failIn_78 : decode cX6_failIn 78 = .ok (.iastore, 1) := by decide +kernel
theorem dX6_failIn_79 : decode cX6_failIn 79 = .ok (.iconst 0, 1) := by decide +kernel
theorem dX6_failIn_80 : decode cX6_failIn 80 = .ok (.ireturn, 1) := by decide +kernel
theorem dX6_failIn_81 : decode cX6_failIn 81 = .ok (.aload_n 0, 1) := by decide +kernel
theorem dX6_failIn_82 : decode cX6_failIn 82 = .ok (.aload_n 0, 1) := by decide +kernel
theorem dX6_failIn_83 : decode cX6_failIn 83 = .ok (.iload_n 1, 1) := by decide +kernel
theorem dX6_failIn_84 : decode cX6_failIn 84 = .ok (.iconst 3, 1) := by decide +kernel
theorem dX6_failIn_85 : decode cX6_failIn 85 = .ok (.invokestatic 77, 3) := by decide +kernel
theorem dX6_failIn_88 : decode cX6_failIn 88 = .ok (.iaload, 1) := by decide +kernel
theorem dX6_failIn_89 : decode cX6_failIn 89 = .ok (.aload_n 0, 1) := by decide +kernel
theorem dX6_failIn_90 : decode cX6_failIn 90 = .ok (.bipush 32, 2) := by decide +kernel
theorem dX6_failIn_92 : decode cX6_failIn 92 = .ok (.iaload, 1) := by decide +kernel
theorem dX6_failIn_93 : decode cX6_failIn 93 = .ok (.if_icmp .ge 25, 3) := by decide +kernel
theorem dX6_failIn_96 : decode cX6_failIn 96 = .ok (.aload_n 0, 1) := by decide +kernel
theorem dX6_failIn_97 : decode cX6_failIn 97 = .ok (.aload_n 0, 1) := by decide +kernel
theorem dX6_failIn_98 : decode cX6_failIn 98 = .ok (.iload_n 1, 1) := by decide +kernel
theorem dX6_failIn_99 : decode cX6_failIn 99 = .ok (.iconst 3, 1) := by decide +kernel
theorem dX6_failIn_100 : decode cX6_failIn 100 = .ok (.invokestatic 77, 3) := by decide +kernel
theorem dX6_failIn_103 : decode cX6_failIn 103 = .ok (.dup2, 1) := by decide +kernel
theorem dX6_failIn_104 : decode cX6_failIn 104 = .ok (.iaload, 1) := by decide +kernel
theorem dX6_failIn_105 : decode cX6_failIn 105 = .ok (.iconst 1, 1) := by decide +kernel
theorem dX6_failIn_106 : decode cX6_failIn 106 = .ok (.iadd, 1) := by decide +kernel
theorem dX6_failIn_107 : decode cX6_failIn 107 = .ok (.iastore, 1) := by decide +kernel
theorem dX6_failIn_108 : decode cX6_failIn 108 = .ok (.aload_n 0, 1) := by decide +kernel
theorem dX6_failIn_109 : decode cX6_failIn 109 = .ok (.bipush 33, 2) := by decide +kernel
theorem dX6_failIn_111 : decode cX6_failIn 111 = .ok (.dup2, 1) := by decide +kernel
theorem dX6_failIn_112 : decode cX6_failIn 112 = .ok (.iaload, 1) := by decide +kernel
theorem dX6_failIn_113 : decode cX6_failIn 113 = .ok (.iconst 1, 1) := by decide +kernel
theorem dX6_failIn_114 : decode cX6_failIn 114 = .ok (.iadd, 1) := by decide +kernel
theorem dX6_failIn_115 : decode cX6_failIn 115 = .ok (.iastore, 1) := by decide +kernel
theorem dX6_failIn_116 : decode cX6_failIn 116 = .ok (.iconst 1, 1) := by decide +kernel
theorem dX6_failIn_117 : decode cX6_failIn 117 = .ok (.ireturn, 1) := by decide +kernel
theorem dX6_failIn_118 : decode cX6_failIn 118 = .ok (.aload_n 0, 1) := by decide +kernel
theorem dX6_failIn_119 : decode cX6_failIn 119 = .ok (.aload_n 0, 1) := by decide +kernel
theorem dX6_failIn_120 : decode cX6_failIn 120 = .ok (.iload_n 1, 1) := by decide +kernel
theorem dX6_failIn_121 : decode cX6_failIn 121 = .ok (.iconst 4, 1) := by decide +kernel
theorem dX6_failIn_122 : decode cX6_failIn 122 = .ok (.invokestatic 77, 3) := by decide +kernel
theorem dX6_failIn_125 : decode cX6_failIn 125 = .ok (.iconst 1, 1) := by decide +kernel
theorem dX6_failIn_126 : decode cX6_failIn 126 = .ok (.iastore, 1) := by decide +kernel
theorem dX6_failIn_127 : decode cX6_failIn 127 = .ok (.iconst 2, 1) := by decide +kernel
theorem dX6_failIn_128 : decode cX6_failIn 128 = .ok (.ireturn, 1) := by decide +kernel
theorem dX6_append_0 : decode cX6_append 0 = .ok (.aload_n 0, 1) := by decide +kernel
theorem dX6_append_1 : decode cX6_append 1 = .ok (.iload_n 1, 1) := by decide +kernel
theorem dX6_append_2 : decode cX6_append 2 = .ok (.i2l, 1) := by decide +kernel
theorem dX6_append_3 : decode cX6_append 3 = .ok (.lconst 0, 1) := by decide +kernel
theorem dX6_append_4 : decode cX6_append 4 = .ok (.ldc2_w 113, 3) := by decide +kernel
theorem dX6_append_7 : decode cX6_append 7 = .ok (.invokestatic 92, 3) := by decide +kernel
theorem dX6_append_10 : decode cX6_append 10 = .ok (.ifCond .ne 7, 3) := by decide +kernel
theorem dX6_append_13 : decode cX6_append 13 = .ok (.iconst 1, 1) := by decide +kernel
theorem dX6_append_14 : decode cX6_append 14 = .ok (.goto 17, 3) := by decide +kernel
theorem dX6_append_17 : decode cX6_append 17 = .ok (.aload_n 0, 1) := by decide +kernel
theorem dX6_append_18 : decode cX6_append 18 = .ok (.getfield 115, 3) := by decide +kernel
theorem dX6_append_21 : decode cX6_append 21 = .ok (.bipush 120, 2) := by decide +kernel
theorem dX6_append_23 : decode cX6_append 23 = .ok (.if_icmp .ne 7, 3) := by decide +kernel
theorem dX6_append_26 : decode cX6_append 26 = .ok (.iconst 2, 1) := by decide +kernel
theorem dX6_append_27 : decode cX6_append 27 = .ok (.goto 4, 3) := by decide +kernel
theorem dX6_append_30 : decode cX6_append 30 = .ok (.iconst 0, 1) := by decide +kernel
theorem dX6_append_31 : decode cX6_append 31 = .ok (.invokevirtual 118, 3) := by decide +kernel
theorem dX6_append_34 : decode cX6_append 34 = .ok (.ifCond .eq 5, 3) := by decide +kernel
theorem dX6_append_37 : decode cX6_append 37 = .ok (.iconst 0, 1) := by decide +kernel
theorem dX6_append_38 : decode cX6_append 38 = .ok (.ireturn, 1) := by decide +kernel
theorem dX6_append_39 : decode cX6_append 39 = .ok (.aload_n 0, 1) := by decide +kernel
theorem dX6_append_40 : decode cX6_append 40 = .ok (.getfield 7, 3) := by decide +kernel
theorem dX6_append_43 : decode cX6_append 43 = .ok (.aload_n 0, 1) := by decide +kernel
theorem dX6_append_44 : decode cX6_append 44 = .ok (.getfield 115, 3) := by decide +kernel
theorem dX6_append_47 : decode cX6_append 47 = .ok (.iload_n 1, 1) := by decide +kernel
theorem dX6_append_48 : decode cX6_append 48 = .ok (.iastore, 1) := by decide +kernel
theorem dX6_append_49 : decode cX6_append 49 = .ok (.aload_n 0, 1) := by decide +kernel
theorem dX6_append_50 : decode cX6_append 50 = .ok (.dup, 1) := by decide +kernel
theorem dX6_append_51 : decode cX6_append 51 = .ok (.getfield 115, 3) := by decide +kernel
theorem dX6_append_54 : decode cX6_append 54 = .ok (.iconst 1, 1) := by decide +kernel
theorem dX6_append_55 : decode cX6_append 55 = .ok (.iadd, 1) := by decide +kernel
theorem dX6_append_56 : decode cX6_append 56 = .ok (.putfield 115, 3) := by decide +kernel
theorem dX6_append_59 : decode cX6_append 59 = .ok (.aload_n 0, 1) := by decide +kernel
theorem dX6_append_60 : decode cX6_append 60 = .ok (.getfield 115, 3) := by decide +kernel
theorem dX6_append_63 : decode cX6_append 63 = .ok (.ireturn, 1) := by decide +kernel
theorem dX6_clearText_0 : decode cX6_clearText 0 = .ok (.aload_n 0, 1) := by decide +kernel
theorem dX6_clearText_1 : decode cX6_clearText 1 = .ok (.iconst 0, 1) := by decide +kernel
theorem dX6_clearText_2 : decode cX6_clearText 2 = .ok (.putfield 45, 3) := by decide +kernel
theorem dX6_clearText_5 : decode cX6_clearText 5 = .ok (.aload_n 0, 1) := by decide +kernel
theorem dX6_clearText_6 : decode cX6_clearText 6 = .ok (.getfield 115, 3) := by decide +kernel
theorem dX6_clearText_9 : decode cX6_clearText 9 = .ok (.istore_n 1, 1) := by decide +kernel
theorem dX6_clearText_10 : decode cX6_clearText 10 = .ok (.aload_n 0, 1) := by decide +kernel
theorem dX6_clearText_11 : decode cX6_clearText 11 = .ok (.iconst 0, 1) := by decide +kernel
theorem dX6_clearText_12 : decode cX6_clearText 12 = .ok (.putfield 115, 3) := by decide +kernel
theorem dX6_clearText_15 : decode cX6_clearText 15 = .ok (.iload_n 1, 1) := by decide +kernel
theorem dX6_clearText_16 : decode cX6_clearText 16 = .ok (.ireturn, 1) := by decide +kernel
theorem dX6_isNext_0 : decode cX6_isNext 0 = .ok (.aload_n 0, 1) := by decide +kernel
theorem dX6_isNext_1 : decode cX6_isNext 1 = .ok (.getfield 122, 3) := by decide +kernel
theorem dX6_isNext_4 : decode cX6_isNext 4 = .ok (.aload_n 0, 1) := by decide +kernel
theorem dX6_isNext_5 : decode cX6_isNext 5 = .ok (.getfield 115, 3) := by decide +kernel
theorem dX6_isNext_8 : decode cX6_isNext 8 = .ok (.if_icmp .ge 20, 3) := by decide +kernel
theorem dX6_isNext_11 : decode cX6_isNext 11 = .ok (.aload_n 0, 1) := by decide +kernel
theorem dX6_isNext_12 : decode cX6_isNext 12 = .ok (.getfield 7, 3) := by decide +kernel
theorem dX6_isNext_15 : decode cX6_isNext 15 = .ok (.aload_n 0, 1) := by decide +kernel
theorem dX6_isNext_16 : decode cX6_isNext 16 = .ok (.getfield 122, 3) := by decide +kernel
theorem dX6_isNext_19 : decode cX6_isNext 19 = .ok (.iaload, 1) := by decide +kernel
theorem dX6_isNext_20 : decode cX6_isNext 20 = .ok (.iload_n 1, 1) := by decide +kernel
theorem dX6_isNext_21 : decode cX6_isNext 21 = .ok (.if_icmp .ne 7, 3) := by decide +kernel
theorem dX6_isNext_24 : decode cX6_isNext 24 = .ok (.iconst 1, 1) := by decide +kernel
theorem dX6_isNext_25 : decode cX6_isNext 25 = .ok (.goto 4, 3) := by decide +kernel
theorem dX6_isNext_28 : decode cX6_isNext 28 = .ok (.iconst 0, 1) := by decide +kernel
theorem dX6_isNext_29 : decode cX6_isNext 29 = .ok (.ireturn, 1) := by decide +kernel
theorem dX6_accept_0 : decode cX6_accept 0 = .ok (.aload_n 0, 1) := by decide +kernel
theorem dX6_accept_1 : decode cX6_accept 1 = .ok (.aload_n 0, 1) := by decide +kernel
theorem dX6_accept_2 : decode cX6_accept 2 = .ok (.getfield 125, 3) := by decide +kernel
theorem dX6_accept_5 : decode cX6_accept 5 = .ok (.ifCond .eq 11, 3) := by decide +kernel
theorem dX6_accept_8 : decode cX6_accept 8 = .ok (.iload_n 1, 1) := by decide +kernel
theorem dX6_accept_9 : decode cX6_accept 9 = .ok (.ifCond .eq 7, 3) := by decide +kernel
theorem dX6_accept_12 : decode cX6_accept 12 = .ok (.iconst 1, 1) := by decide +kernel
theorem dX6_accept_13 : decode cX6_accept 13 = .ok (.goto 4, 3) := by decide +kernel
theorem dX6_accept_16 : decode cX6_accept 16 = .ok (.iconst 0, 1) := by decide +kernel
theorem dX6_accept_17 : decode cX6_accept 17 = .ok (.putfield 125, 3) := by decide +kernel
theorem dX6_accept_20 : decode cX6_accept 20 = .ok (.aload_n 0, 1) := by decide +kernel
theorem dX6_accept_21 : decode cX6_accept 21 = .ok (.dup, 1) := by decide +kernel
theorem dX6_accept_22 : decode cX6_accept 22 = .ok (.getfield 122, 3) := by decide +kernel
theorem dX6_accept_25 : decode cX6_accept 25 = .ok (.aload_n 0, 1) := by decide +kernel
theorem dX6_accept_26 : decode cX6_accept 26 = .ok (.getfield 125, 3) := by decide +kernel
theorem dX6_accept_29 : decode cX6_accept 29 = .ok (.ifCond .eq 7, 3) := by decide +kernel
theorem dX6_accept_32 : decode cX6_accept 32 = .ok (.iconst 1, 1) := by decide +kernel
theorem dX6_accept_33 : decode cX6_accept 33 = .ok (.goto 4, 3) := by decide +kernel
theorem dX6_accept_36 : decode cX6_accept 36 = .ok (.iconst 0, 1) := by decide +kernel
theorem dX6_accept_37 : decode cX6_accept 37 = .ok (.iadd, 1) := by decide +kernel
theorem dX6_accept_38 : decode cX6_accept 38 = .ok (.putfield 122, 3) := by decide +kernel
theorem dX6_accept_41 : decode cX6_accept 41 = .ok (.return_, 1) := by decide +kernel
theorem dX6_digit_0 : decode cX6_digit 0 = .ok (.aload_n 0, 1) := by decide +kernel
theorem dX6_digit_1 : decode cX6_digit 1 = .ok (.getfield 122, 3) := by decide +kernel
theorem dX6_digit_4 : decode cX6_digit 4 = .ok (.aload_n 0, 1) := by decide +kernel
theorem dX6_digit_5 : decode cX6_digit 5 = .ok (.getfield 115, 3) := by decide +kernel
theorem dX6_digit_8 : decode cX6_digit 8 = .ok (.if_icmp .ge 18, 3) := by decide +kernel
theorem dX6_digit_11 : decode cX6_digit 11 = .ok (.aload_n 0, 1) := by decide +kernel
theorem dX6_digit_12 : decode cX6_digit 12 = .ok (.getfield 7, 3) := by decide +kernel
theorem dX6_digit_15 : decode cX6_digit 15 = .ok (.aload_n 0, 1) := by decide +kernel
theorem dX6_digit_16 : decode cX6_digit 16 = .ok (.getfield 122, 3) := by decide +kernel
theorem dX6_digit_19 : decode cX6_digit 19 = .ok (.iaload, 1) := by decide +kernel
theorem dX6_digit_20 : decode cX6_digit 20 = .ok (.bipush 48, 2) := by decide +kernel
theorem dX6_digit_22 : decode cX6_digit 22 = .ok (.isub, 1) := by decide +kernel
theorem dX6_digit_23 : decode cX6_digit 23 = .ok (.goto 4, 3) := by decide +kernel
theorem dX6_digit_26 : decode cX6_digit 26 = .ok (.iconst (-1), 1) := by decide +kernel
theorem dX6_digit_27 : decode cX6_digit 27 = .ok (.istore_n 3, 1) := by decide +kernel
theorem dX6_digit_28 : decode cX6_digit 28 = .ok (.aload_n 0, 1) := by decide +kernel
theorem dX6_digit_29 : decode cX6_digit 29 = .ok (.iload_n 3, 1) := by decide +kernel
theorem dX6_digit_30 : decode cX6_digit 30 = .ok (.i2l, 1) := by decide +kernel
theorem dX6_digit_31 : decode cX6_digit 31 = .ok (.lconst 0, 1) := by decide +kernel
theorem dX6_digit_32 : decode cX6_digit 32 = .ok (.ldc2_w 129, 3) := by decide +kernel
theorem dX6_digit_35 : decode cX6_digit 35 = .ok (.invokestatic 92, 3) := by decide +kernel
theorem dX6_digit_38 : decode cX6_digit 38 = .ok (.ifCond .eq 19, 3) := by decide +kernel
theorem dX6_digit_41 : decode cX6_digit 41 = .ok (.iload_n 3, 1) := by decide +kernel
theorem dX6_digit_42 : decode cX6_digit 42 = .ok (.i2l, 1) := by decide +kernel
theorem dX6_digit_43 : decode cX6_digit 43 = .ok (.iload_n 1, 1) := by decide +kernel
theorem dX6_digit_44 : decode cX6_digit 44 = .ok (.i2l, 1) := by decide +kernel
theorem dX6_digit_45 : decode cX6_digit 45 = .ok (.iload_n 2, 1) := by decide +kernel
theorem dX6_digit_46 : decode cX6_digit 46 = .ok (.i2l, 1) := by decide +kernel
theorem dX6_digit_47 : decode cX6_digit 47 = .ok (.invokestatic 92, 3) := by decide +kernel
theorem dX6_digit_50 : decode cX6_digit 50 = .ok (.ifCond .eq 7, 3) := by decide +kernel
theorem dX6_digit_53 : decode cX6_digit 53 = .ok (.iconst 1, 1) := by decide +kernel
theorem dX6_digit_54 : decode cX6_digit 54 = .ok (.goto 4, 3) := by decide +kernel
theorem dX6_digit_57 : decode cX6_digit 57 = .ok (.iconst 0, 1) := by decide +kernel
theorem dX6_digit_58 : decode cX6_digit 58 = .ok (.invokevirtual 131, 3) := by decide +kernel
theorem dX6_digit_61 : decode cX6_digit 61 = .ok (.aload_n 0, 1) := by decide +kernel
theorem dX6_digit_62 : decode cX6_digit 62 = .ok (.getfield 125, 3) := by decide +kernel
theorem dX6_digit_65 : decode cX6_digit 65 = .ok (.ifCond .eq 7, 3) := by decide +kernel
theorem dX6_digit_68 : decode cX6_digit 68 = .ok (.iload_n 3, 1) := by decide +kernel
theorem dX6_digit_69 : decode cX6_digit 69 = .ok (.goto 4, 3) := by decide +kernel
theorem dX6_digit_72 : decode cX6_digit 72 = .ok (.iload_n 1, 1) := by decide +kernel
theorem dX6_digit_73 : decode cX6_digit 73 = .ok (.ireturn, 1) := by decide +kernel
theorem dX6_cellRead_0 : decode cX6_cellRead 0 = .ok (.aload_n 0, 1) := by decide +kernel
theorem dX6_cellRead_1 : decode cX6_cellRead 1 = .ok (.iconst 0, 1) := by decide +kernel
theorem dX6_cellRead_2 : decode cX6_cellRead 2 = .ok (.iconst 1, 1) := by decide +kernel
theorem dX6_cellRead_3 : decode cX6_cellRead 3 = .ok (.invokevirtual 135, 3) := by decide +kernel
theorem dX6_cellRead_6 : decode cX6_cellRead 6 = .ok (.istore_n 1, 1) := by decide +kernel
theorem dX6_cellRead_7 : decode cX6_cellRead 7 = .ok (.bipush 10, 2) := by decide +kernel
theorem dX6_cellRead_9 : decode cX6_cellRead 9 = .ok (.iload_n 1, 1) := by decide +kernel
theorem dX6_cellRead_10 : decode cX6_cellRead 10 = .ok (.imul, 1) := by decide +kernel
theorem dX6_cellRead_11 : decode cX6_cellRead 11 = .ok (.aload_n 0, 1) := by decide +kernel
theorem dX6_cellRead_12 : decode cX6_cellRead 12 = .ok (.iconst 0, 1) := by decide +kernel
theorem dX6_cellRead_13 : decode cX6_cellRead 13 = .ok (.iload_n 1, 1) := by decide +kernel
theorem dX6_cellRead_14 : decode cX6_cellRead 14 = .ok (.iconst 1, 1) := by decide +kernel
theorem dX6_cellRead_15 : decode cX6_cellRead 15 = .ok (.if_icmp .ne 7, 3) := by decide +kernel
theorem dX6_cellRead_18 : decode cX6_cellRead 18 = .ok (.iconst 5, 1) := by decide +kernel
theorem dX6_cellRead_19 : decode cX6_cellRead 19 = .ok (.goto 5, 3) := by decide +kernel
theorem dX6_cellRead_22 : decode cX6_cellRead 22 = .ok (.bipush 9, 2) := by decide +kernel
theorem dX6_cellRead_24 : decode cX6_cellRead 24 = .ok (.invokevirtual 135, 3) := by decide +kernel
theorem dX6_cellRead_27 : decode cX6_cellRead 27 = .ok (.iadd, 1) := by decide +kernel
theorem dX6_cellRead_28 : decode cX6_cellRead 28 = .ok (.ireturn, 1) := by decide +kernel
theorem dX6_twoRead_0 : decode cX6_twoRead 0 = .ok (.aload_n 0, 1) := by decide +kernel
theorem dX6_twoRead_1 : decode cX6_twoRead 1 = .ok (.iconst 0, 1) := by decide +kernel
theorem dX6_twoRead_2 : decode cX6_twoRead 2 = .ok (.bipush 9, 2) := by decide +kernel
theorem dX6_twoRead_4 : decode cX6_twoRead 4 = .ok (.invokevirtual 135, 3) := by decide +kernel
theorem dX6_twoRead_7 : decode cX6_twoRead 7 = .ok (.istore_n 2, 1) := by decide +kernel
theorem dX6_twoRead_8 : decode cX6_twoRead 8 = .ok (.bipush 10, 2) := by decide +kernel
theorem dX6_twoRead_10 : decode cX6_twoRead 10 = .ok (.iload_n 2, 1) := by decide +kernel
theorem dX6_twoRead_11 : decode cX6_twoRead 11 = .ok (.imul, 1) := by decide +kernel
theorem dX6_twoRead_12 : decode cX6_twoRead 12 = .ok (.aload_n 0, 1) := by decide +kernel
theorem dX6_twoRead_13 : decode cX6_twoRead 13 = .ok (.iload_n 2, 1) := by decide +kernel
theorem dX6_twoRead_14 : decode cX6_twoRead 14 = .ok (.ifCond .ne 7, 3) := by decide +kernel
theorem dX6_twoRead_17 : decode cX6_twoRead 17 = .ok (.iload_n 1, 1) := by decide +kernel
theorem dX6_twoRead_18 : decode cX6_twoRead 18 = .ok (.goto 4, 3) := by decide +kernel
theorem dX6_twoRead_21 : decode cX6_twoRead 21 = .ok (.iconst 0, 1) := by decide +kernel
theorem dX6_twoRead_22 : decode cX6_twoRead 22 = .ok (.bipush 9, 2) := by decide +kernel
theorem dX6_twoRead_24 : decode cX6_twoRead 24 = .ok (.invokevirtual 135, 3) := by decide +kernel
theorem dX6_twoRead_27 : decode cX6_twoRead 27 = .ok (.iadd, 1) := by decide +kernel
theorem dX6_twoRead_28 : decode cX6_twoRead 28 = .ok (.ireturn, 1) := by decide +kernel
theorem dX6_doIt_0 : decode cX6_doIt 0 = .ok (.aload_n 0, 1) := by decide +kernel
theorem dX6_doIt_1 : decode cX6_doIt 1 = .ok (.dup, 1) := by decide +kernel
theorem dX6_doIt_2 : decode cX6_doIt 2 = .ok (.getfield 138, 3) := by decide +kernel
theorem dX6_doIt_5 : decode cX6_doIt 5 = .ok (.aload_n 0, 1) := by decide +kernel
theorem dX6_doIt_6 : decode cX6_doIt 6 = .ok (.getfield 125, 3) := by decide +kernel
theorem dX6_doIt_9 : decode cX6_doIt 9 = .ok (.ifCond .eq 11, 3) := by decide +kernel
theorem dX6_doIt_12 : decode cX6_doIt 12 = .ok (.iload_n 1, 1) := by decide +kernel
theorem dX6_doIt_13 : decode cX6_doIt 13 = .ok (.ifCond .ne 7, 3) := by decide +kernel
theorem dX6_doIt_16 : decode cX6_doIt 16 = .ok (.iconst 1, 1) := by decide +kernel
theorem dX6_doIt_17 : decode cX6_doIt 17 = .ok (.goto 4, 3) := by decide +kernel
theorem dX6_doIt_20 : decode cX6_doIt 20 = .ok (.iconst 0, 1) := by decide +kernel
theorem dX6_doIt_21 : decode cX6_doIt 21 = .ok (.iadd, 1) := by decide +kernel
theorem dX6_doIt_22 : decode cX6_doIt 22 = .ok (.putfield 138, 3) := by decide +kernel
theorem dX6_doIt_25 : decode cX6_doIt 25 = .ok (.return_, 1) := by decide +kernel
theorem dX6_readWrite_0 : decode cX6_readWrite 0 = .ok (.aload_n 0, 1) := by decide +kernel
theorem dX6_readWrite_1 : decode cX6_readWrite 1 = .ok (.invokevirtual 141, 3) := by decide +kernel
theorem dX6_readWrite_4 : decode cX6_readWrite 4 = .ok (.istore_n 2, 1) := by decide +kernel
theorem dX6_readWrite_5 : decode cX6_readWrite 5 = .ok (.aload_n 0, 1) := by decide +kernel
theorem dX6_readWrite_6 : decode cX6_readWrite 6 = .ok (.iconst 0, 1) := by decide +kernel
theorem dX6_readWrite_7 : decode cX6_readWrite 7 = .ok (.invokevirtual 145, 3) := by decide +kernel
theorem dX6_readWrite_10 : decode cX6_readWrite 10 = .ok (.istore_n 3, 1) := by decide +kernel
theorem dX6_readWrite_11 : decode cX6_readWrite 11 = .ok (.aload_n 0, 1) := by decide +kernel
theorem dX6_readWrite_12 : decode cX6_readWrite 12 = .ok (.getfield 13, 3) := by decide +kernel
theorem dX6_readWrite_15 : decode cX6_readWrite 15 = .ok (.iload_n 1, 1) := by decide +kernel
theorem dX6_readWrite_16 : decode cX6_readWrite 16 = .ok (.iload_n 2, 1) := by decide +kernel
theorem dX6_readWrite_17 : decode cX6_readWrite 17 = .ok (.invokestatic 99, 3) := by decide +kernel
theorem dX6_readWrite_20 : decode cX6_readWrite 20 = .ok (.ifCond .ne 7, 3) := by decide +kernel
theorem dX6_readWrite_23 : decode cX6_readWrite 23 = .ok (.iconst 1, 1) := by decide +kernel
theorem dX6_readWrite_24 : decode cX6_readWrite 24 = .ok (.goto 4, 3) := by decide +kernel
theorem dX6_readWrite_27 : decode cX6_readWrite 27 = .ok (.iconst 0, 1) := by decide +kernel
theorem dX6_readWrite_28 : decode cX6_readWrite 28 = .ok (.istore 4, 2) := by decide +kernel
theorem dX6_readWrite_30 : decode cX6_readWrite 30 = .ok (.aload_n 0, 1) := by decide +kernel
theorem dX6_readWrite_31 : decode cX6_readWrite 31 = .ok (.iload 4, 2) := by decide +kernel
theorem dX6_readWrite_33 : decode cX6_readWrite 33 = .ok (.invokevirtual 149, 3) := by decide +kernel
theorem dX6_readWrite_36 : decode cX6_readWrite 36 = .ok (.aload_n 0, 1) := by decide +kernel
theorem dX6_readWrite_37 : decode cX6_readWrite 37 = .ok (.getfield 125, 3) := by decide +kernel
theorem dX6_readWrite_40 : decode cX6_readWrite 40 = .ok (.ifCond .eq 19, 3) := by decide +kernel
theorem dX6_readWrite_43 : decode cX6_readWrite 43 = .ok (.iload 4, 2) := by decide +kernel
theorem dX6_readWrite_45 : decode cX6_readWrite 45 = .ok (.ifCond .eq 14, 3) := by decide +kernel
theorem dX6_readWrite_48 : decode cX6_readWrite 48 = .ok (.aload_n 0, 1) := by decide +kernel
theorem dX6_readWrite_49 : decode cX6_readWrite 49 = .ok (.getfield 13, 3) := by decide +kernel
theorem dX6_readWrite_52 : decode cX6_readWrite 52 = .ok (.iload_n 1, 1) := by decide +kernel
theorem dX6_readWrite_53 : decode cX6_readWrite 53 = .ok (.iload_n 2, 1) := by decide +kernel
theorem dX6_readWrite_54 : decode cX6_readWrite 54 = .ok (.iload_n 3, 1) := by decide +kernel
theorem dX6_readWrite_55 : decode cX6_readWrite 55 = .ok (.invokestatic 152, 3) := by decide +kernel
theorem dX6_readWrite_58 : decode cX6_readWrite 58 = .ok (.pop, 1) := by decide +kernel
theorem dX6_readWrite_59 : decode cX6_readWrite 59 = .ok (.return_, 1) := by decide +kernel
theorem dX6_readRegret_0 : decode cX6_readRegret 0 = .ok (.aload_n 0, 1) := by decide +kernel
theorem dX6_readRegret_1 : decode cX6_readRegret 1 = .ok (.invokevirtual 141, 3) := by decide +kernel
theorem dX6_readRegret_4 : decode cX6_readRegret 4 = .ok (.istore_n 2, 1) := by decide +kernel
theorem dX6_readRegret_5 : decode cX6_readRegret 5 = .ok (.aload_n 0, 1) := by decide +kernel
theorem dX6_readRegret_6 : decode cX6_readRegret 6 = .ok (.iconst 1, 1) := by decide +kernel
theorem dX6_readRegret_7 : decode cX6_readRegret 7 = .ok (.invokevirtual 145, 3) := by decide +kernel
theorem dX6_readRegret_10 : decode cX6_readRegret 10 = .ok (.istore_n 3, 1) := by decide +kernel
theorem dX6_readRegret_11 : decode cX6_readRegret 11 = .ok (.aload_n 0, 1) := by decide +kernel
theorem dX6_readRegret_12 : decode cX6_readRegret 12 = .ok (.getfield 13, 3) := by decide +kernel
theorem dX6_readRegret_15 : decode cX6_readRegret 15 = .ok (.iload_n 1, 1) := by decide +kernel
theorem dX6_readRegret_16 : decode cX6_readRegret 16 = .ok (.iload_n 2, 1) := by decide +kernel
theorem dX6_readRegret_17 : decode cX6_readRegret 17 = .ok (.invokestatic 156, 3) := by decide +kernel
theorem dX6_readRegret_20 : decode cX6_readRegret 20 = .ok (.istore 4, 2) := by decide +kernel
theorem dX6_readRegret_22 : decode cX6_readRegret 22 = .ok (.aload_n 0, 1) := by decide +kernel
theorem dX6_readRegret_23 : decode cX6_readRegret 23 = .ok (.iload 4, 2) := by decide +kernel
theorem dX6_readRegret_25 : decode cX6_readRegret 25 = .ok (.invokevirtual 149, 3) := by decide +kernel
theorem dX6_readRegret_28 : decode cX6_readRegret 28 = .ok (.aload_n 0, 1) := by decide +kernel
theorem dX6_readRegret_29 : decode cX6_readRegret 29 = .ok (.getfield 125, 3) := by decide +kernel
theorem dX6_readRegret_32 : decode cX6_readRegret 32 = .ok (.ifCond .eq 19, 3) := by decide +kernel
theorem dX6_readRegret_35 : decode cX6_readRegret 35 = .ok (.iload 4, 2) := by decide +kernel
theorem dX6_readRegret_37 : decode cX6_readRegret 37 = .ok (.ifCond .eq 14, 3) := by decide +kernel
theorem dX6_readRegret_40 : decode cX6_readRegret 40 = .ok (.aload_n 0, 1) := by decide +kernel
theorem dX6_readRegret_41 : decode cX6_readRegret 41 = .ok (.getfield 13, 3) := by decide +kernel
theorem dX6_readRegret_44 : decode cX6_readRegret 44 = .ok (.iload_n 1, 1) := by decide +kernel
theorem dX6_readRegret_45 : decode cX6_readRegret 45 = .ok (.iload_n 2, 1) := by decide +kernel
theorem dX6_readRegret_46 : decode cX6_readRegret 46 = .ok (.iload_n 3, 1) := by decide +kernel
theorem dX6_readRegret_47 : decode cX6_readRegret 47 = .ok (.invokestatic 160, 3) := by decide +kernel
theorem dX6_readRegret_50 : decode cX6_readRegret 50 = .ok (.pop, 1) := by decide +kernel
theorem dX6_readRegret_51 : decode cX6_readRegret 51 = .ok (.return_, 1) := by decide +kernel
theorem dX6_readBack_0 : decode cX6_readBack 0 = .ok (.aload_n 0, 1) := by decide +kernel
theorem dX6_readBack_1 : decode cX6_readBack 1 = .ok (.iconst 0, 1) := by decide +kernel
theorem dX6_readBack_2 : decode cX6_readBack 2 = .ok (.iconst 3, 1) := by decide +kernel
theorem dX6_readBack_3 : decode cX6_readBack 3 = .ok (.invokevirtual 135, 3) := by decide +kernel
theorem dX6_readBack_6 : decode cX6_readBack 6 = .ok (.istore_n 2, 1) := by decide +kernel
theorem dX6_readBack_7 : decode cX6_readBack 7 = .ok (.aload_n 0, 1) := by decide +kernel
theorem dX6_readBack_8 : decode cX6_readBack 8 = .ok (.getfield 13, 3) := by decide +kernel
theorem dX6_readBack_11 : decode cX6_readBack 11 = .ok (.iload_n 1, 1) := by decide +kernel
theorem dX6_readBack_12 : decode cX6_readBack 12 = .ok (.iload_n 2, 1) := by decide +kernel
theorem dX6_readBack_13 : decode cX6_readBack 13 = .ok (.invokestatic 163, 3) := by decide +kernel
theorem dX6_readBack_16 : decode cX6_readBack 16 = .ok (.ifCond .eq 18, 3) := by decide +kernel
theorem dX6_readBack_19 : decode cX6_readBack 19 = .ok (.aload_n 0, 1) := by decide +kernel
theorem dX6_readBack_20 : decode cX6_readBack 20 = .ok (.getfield 13, 3) := by decide +kernel
theorem dX6_readBack_23 : decode cX6_readBack 23 = .ok (.iload_n 1, 1) := by decide +kernel
theorem dX6_readBack_24 : decode cX6_readBack 24 = .ok (.invokestatic 81, 3) := by decide +kernel
theorem dX6_readBack_27 : decode cX6_readBack 27 = .ok (.ifCond .ne 7, 3) := by decide +kernel
theorem dX6_readBack_30 : decode cX6_readBack 30 = .ok (.iconst 1, 1) := by decide +kernel
theorem dX6_readBack_31 : decode cX6_readBack 31 = .ok (.goto 4, 3) := by decide +kernel
theorem dX6_readBack_34 : decode cX6_readBack 34 = .ok (.iconst 0, 1) := by decide +kernel
theorem dX6_readBack_35 : decode cX6_readBack 35 = .ok (.istore_n 3, 1) := by decide +kernel
theorem dX6_readBack_36 : decode cX6_readBack 36 = .ok (.aload_n 0, 1) := by decide +kernel
theorem dX6_readBack_37 : decode cX6_readBack 37 = .ok (.iload_n 3, 1) := by decide +kernel
theorem dX6_readBack_38 : decode cX6_readBack 38 = .ok (.invokevirtual 149, 3) := by decide +kernel
theorem dX6_readBack_41 : decode cX6_readBack 41 = .ok (.aload_n 0, 1) := by decide +kernel
theorem dX6_readBack_42 : decode cX6_readBack 42 = .ok (.getfield 125, 3) := by decide +kernel
theorem dX6_readBack_45 : decode cX6_readBack 45 = .ok (.ifCond .eq 17, 3) := by decide +kernel
theorem dX6_readBack_48 : decode cX6_readBack 48 = .ok (.iload_n 3, 1) := by decide +kernel
theorem dX6_readBack_49 : decode cX6_readBack 49 = .ok (.ifCond .eq 13, 3) := by decide +kernel
theorem dX6_readBack_52 : decode cX6_readBack 52 = .ok (.aload_n 0, 1) := by decide +kernel
theorem dX6_readBack_53 : decode cX6_readBack 53 = .ok (.getfield 13, 3) := by decide +kernel
theorem dX6_readBack_56 : decode cX6_readBack 56 = .ok (.iload_n 1, 1) := by decide +kernel
theorem dX6_readBack_57 : decode cX6_readBack 57 = .ok (.iload_n 2, 1) := by decide +kernel
theorem dX6_readBack_58 : decode cX6_readBack 58 = .ok (.invokestatic 166, 3) := by decide +kernel
theorem dX6_readBack_61 : decode cX6_readBack 61 = .ok (.pop, 1) := by decide +kernel
theorem dX6_readBack_62 : decode cX6_readBack 62 = .ok (.return_, 1) := by decide +kernel
theorem dX6_readBare_0 : decode cX6_readBare 0 = .ok (.iload_n 1, 1) := by decide +kernel
theorem dX6_readBare_1 : decode cX6_readBare 1 = .ok (.bipush 98, 2) := by decide +kernel
theorem dX6_readBare_3 : decode cX6_readBare 3 = .ok (.if_icmp .ne 14, 3) := by decide +kernel
theorem dX6_readBare_6 : decode cX6_readBare 6 = .ok (.aload_n 0, 1) := by decide +kernel
theorem dX6_readBare_7 : decode cX6_readBare 7 = .ok (.getfield 13, 3) := by decide +kernel
theorem dX6_readBare_10 : decode cX6_readBare 10 = .ok (.iload_n 2, 1) := by decide +kernel
theorem dX6_readBare_11 : decode cX6_readBare 11 = .ok (.invokestatic 169, 3) := by decide +kernel
theorem dX6_readBare_14 : decode cX6_readBare 14 = .ok (.goto 53, 3) := by decide +kernel
theorem dX6_readBare_17 : decode cX6_readBare 17 = .ok (.iload_n 1, 1) := by decide +kernel
theorem dX6_readBare_18 : decode cX6_readBare 18 = .ok (.bipush 112, 2) := by decide +kernel
theorem dX6_readBare_20 : decode cX6_readBare 20 = .ok (.if_icmp .ne 14, 3) := by decide +kernel
theorem dX6_readBare_23 : decode cX6_readBare 23 = .ok (.aload_n 0, 1) := by decide +kernel
theorem dX6_readBare_24 : decode cX6_readBare 24 = .ok (.getfield 13, 3) := by decide +kernel
theorem dX6_readBare_27 : decode cX6_readBare 27 = .ok (.iload_n 2, 1) := by decide +kernel
theorem dX6_readBare_28 : decode cX6_readBare 28 = .ok (.invokestatic 172, 3) := by decide +kernel
theorem dX6_readBare_31 : decode cX6_readBare 31 = .ok (.goto 36, 3) := by decide +kernel
theorem dX6_readBare_34 : decode cX6_readBare 34 = .ok (.iload_n 1, 1) := by decide +kernel
theorem dX6_readBare_35 : decode cX6_readBare 35 = .ok (.bipush 100, 2) := by decide +kernel
theorem dX6_readBare_37 : decode cX6_readBare 37 = .ok (.if_icmp .ne 14, 3) := by decide +kernel
theorem dX6_readBare_40 : decode cX6_readBare 40 = .ok (.aload_n 0, 1) := by decide +kernel
theorem dX6_readBare_41 : decode cX6_readBare 41 = .ok (.getfield 13, 3) := by decide +kernel
theorem dX6_readBare_44 : decode cX6_readBare 44 = .ok (.iload_n 2, 1) := by decide +kernel
theorem dX6_readBare_45 : decode cX6_readBare 45 = .ok (.invokestatic 89, 3) := by decide +kernel
theorem dX6_readBare_48 : decode cX6_readBare 48 = .ok (.goto 19, 3) := by decide +kernel
theorem dX6_readBare_51 : decode cX6_readBare 51 = .ok (.aload_n 0, 1) := by decide +kernel
theorem dX6_readBare_52 : decode cX6_readBare 52 = .ok (.getfield 13, 3) := by decide +kernel
theorem dX6_readBare_55 : decode cX6_readBare 55 = .ok (.iload_n 2, 1) := by decide +kernel
theorem dX6_readBare_56 : decode cX6_readBare 56 = .ok (.invokestatic 69, 3) := by decide +kernel
theorem dX6_readBare_59 : decode cX6_readBare 59 = .ok (.ifCond .le 7, 3) := by decide +kernel
theorem dX6_readBare_62 : decode cX6_readBare 62 = .ok (.iconst 1, 1) := by decide +kernel
theorem dX6_readBare_63 : decode cX6_readBare 63 = .ok (.goto 4, 3) := by decide +kernel
theorem dX6_readBare_66 : decode cX6_readBare 66 = .ok (.iconst 0, 1) := by decide +kernel
theorem dX6_readBare_67 : decode cX6_readBare 67 = .ok (.istore_n 3, 1) := by decide +kernel
theorem dX6_readBare_68 : decode cX6_readBare 68 = .ok (.aload_n 0, 1) := by decide +kernel
theorem dX6_readBare_69 : decode cX6_readBare 69 = .ok (.iload_n 3, 1) := by decide +kernel
theorem dX6_readBare_70 : decode cX6_readBare 70 = .ok (.invokevirtual 149, 3) := by decide +kernel
theorem dX6_readBare_73 : decode cX6_readBare 73 = .ok (.aload_n 0, 1) := by decide +kernel
theorem dX6_readBare_74 : decode cX6_readBare 74 = .ok (.getfield 125, 3) := by decide +kernel
theorem dX6_readBare_77 : decode cX6_readBare 77 = .ok (.ifCond .eq 7, 3) := by decide +kernel
theorem dX6_readBare_80 : decode cX6_readBare 80 = .ok (.iload_n 3, 1) := by decide +kernel
theorem dX6_readBare_81 : decode cX6_readBare 81 = .ok (.ifCond .ne 4, 3) := by decide +kernel
theorem dX6_readBare_84 : decode cX6_readBare 84 = .ok (.return_, 1) := by decide +kernel
theorem dX6_readBare_85 : decode cX6_readBare 85 = .ok (.iload_n 1, 1) := by decide +kernel
theorem dX6_readBare_86 : decode cX6_readBare 86 = .ok (.bipush 98, 2) := by decide +kernel
theorem dX6_readBare_88 : decode cX6_readBare 88 = .ok (.if_icmp .ne 14, 3) := by decide +kernel
theorem dX6_readBare_91 : decode cX6_readBare 91 = .ok (.aload_n 0, 1) := by decide +kernel
theorem dX6_readBare_92 : decode cX6_readBare 92 = .ok (.getfield 13, 3) := by decide +kernel
theorem dX6_readBare_95 : decode cX6_readBare 95 = .ok (.iload_n 2, 1) := by decide +kernel
theorem dX6_readBare_96 : decode cX6_readBare 96 = .ok (.invokestatic 175, 3) := by decide +kernel
theorem dX6_readBare_99 : decode cX6_readBare 99 = .ok (.goto 48, 3) := by decide +kernel
theorem dX6_readBare_102 : decode cX6_readBare 102 = .ok (.iload_n 1, 1) := by decide +kernel
theorem dX6_readBare_103 : decode cX6_readBare 103 = .ok (.bipush 112, 2) := by decide +kernel
theorem dX6_readBare_105 : decode cX6_readBare 105 = .ok (.if_icmp .ne 15, 3) := by decide +kernel
theorem dX6_readBare_108 : decode cX6_readBare 108 = .ok (.aload_n 0, 1) := by decide +kernel
theorem dX6_readBare_109 : decode cX6_readBare 109 = .ok (.getfield 13, 3) := by decide +kernel
theorem dX6_readBare_112 : decode cX6_readBare 112 = .ok (.iload_n 2, 1) := by decide +kernel
theorem dX6_readBare_113 : decode cX6_readBare 113 = .ok (.invokestatic 178, 3) := by decide +kernel
theorem dX6_readBare_116 : decode cX6_readBare 116 = .ok (.pop, 1) := by decide +kernel
theorem dX6_readBare_117 : decode cX6_readBare 117 = .ok (.goto 30, 3) := by decide +kernel
theorem dX6_readBare_120 : decode cX6_readBare 120 = .ok (.iload_n 1, 1) := by decide +kernel
theorem dX6_readBare_121 : decode cX6_readBare 121 = .ok (.bipush 100, 2) := by decide +kernel
theorem dX6_readBare_123 : decode cX6_readBare 123 = .ok (.if_icmp .ne 15, 3) := by decide +kernel
theorem dX6_readBare_126 : decode cX6_readBare 126 = .ok (.aload_n 0, 1) := by decide +kernel
theorem dX6_readBare_127 : decode cX6_readBare 127 = .ok (.getfield 13, 3) := by decide +kernel
theorem dX6_readBare_130 : decode cX6_readBare 130 = .ok (.iload_n 2, 1) := by decide +kernel
theorem dX6_readBare_131 : decode cX6_readBare 131 = .ok (.invokestatic 181, 3) := by decide +kernel
theorem dX6_readBare_134 : decode cX6_readBare 134 = .ok (.pop, 1) := by decide +kernel
theorem dX6_readBare_135 : decode cX6_readBare 135 = .ok (.goto 12, 3) := by decide +kernel
theorem dX6_readBare_138 : decode cX6_readBare 138 = .ok (.aload_n 0, 1) := by decide +kernel
theorem dX6_readBare_139 : decode cX6_readBare 139 = .ok (.getfield 13, 3) := by decide +kernel
theorem dX6_readBare_142 : decode cX6_readBare 142 = .ok (.iload_n 2, 1) := by decide +kernel
theorem dX6_readBare_143 : decode cX6_readBare 143 = .ok (.invokestatic 184, 3) := by decide +kernel
theorem dX6_readBare_146 : decode cX6_readBare 146 = .ok (.pop, 1) := by decide +kernel
theorem dX6_readBare_147 : decode cX6_readBare 147 = .ok (.return_, 1) := by decide +kernel
theorem dX6_readCommand_0 : decode cX6_readCommand 0 = .ok (.aload_n 0, 1) := by decide +kernel
theorem dX6_readCommand_1 : decode cX6_readCommand 1 = .ok (.bipush 109, 2) := by decide +kernel
theorem dX6_readCommand_3 : decode cX6_readCommand 3 = .ok (.invokevirtual 187, 3) := by decide +kernel
theorem dX6_readCommand_6 : decode cX6_readCommand 6 = .ok (.ifCond .eq 41, 3) := by decide +kernel
theorem dX6_readCommand_9 : decode cX6_readCommand 9 = .ok (.aload_n 0, 1) := by decide +kernel
theorem dX6_readCommand_10 : decode cX6_readCommand 10 = .ok (.iconst 1, 1) := by decide +kernel
theorem dX6_readCommand_11 : decode cX6_readCommand 11 = .ok (.invokevirtual 131, 3) := by decide +kernel
theorem dX6_readCommand_14 : decode cX6_readCommand 14 = .ok (.aload_n 0, 1) := by decide +kernel
theorem dX6_readCommand_15 : decode cX6_readCommand 15 = .ok (.iconst 0, 1) := by decide +kernel
theorem dX6_readCommand_16 : decode cX6_readCommand 16 = .ok (.iconst 3, 1) := by decide +kernel
theorem dX6_readCommand_17 : decode cX6_readCommand 17 = .ok (.invokevirtual 135, 3) := by decide +kernel
theorem dX6_readCommand_20 : decode cX6_readCommand 20 = .ok (.istore_n 1, 1) := by decide +kernel
theorem dX6_readCommand_21 : decode cX6_readCommand 21 = .ok (.aload_n 0, 1) := by decide +kernel
theorem dX6_readCommand_22 : decode cX6_readCommand 22 = .ok (.getfield 13, 3) := by decide +kernel
theorem dX6_readCommand_25 : decode cX6_readCommand 25 = .ok (.bipush 32, 2) := by decide +kernel
theorem dX6_readCommand_27 : decode cX6_readCommand 27 = .ok (.aload_n 0, 1) := by decide +kernel
theorem dX6_readCommand_28 : decode cX6_readCommand 28 = .ok (.getfield 125, 3) := by decide +kernel
theorem dX6_readCommand_31 : decode cX6_readCommand 31 = .ok (.ifCond .eq 7, 3) := by decide +kernel
theorem dX6_readCommand_34 : decode cX6_readCommand 34 = .ok (.iload_n 1, 1) := by decide +kernel
theorem dX6_readCommand_35 : decode cX6_readCommand 35 = .ok (.goto 10, 3) := by decide +kernel
theorem dX6_readCommand_38 : decode cX6_readCommand 38 = .ok (.aload_n 0, 1) := by decide +kernel
theorem dX6_readCommand_39 : decode cX6_readCommand 39 = .ok (.getfield 13, 3) := by decide +kernel
theorem dX6_readCommand_42 : decode cX6_readCommand 42 = .ok (.bipush 32, 2) := by decide +kernel
theorem dX6_readCommand_44 : decode cX6_readCommand 44 = .ok (.iaload, 1) := by decide +kernel
theorem dX6_readCommand_45 : decode cX6_readCommand 45 = .ok (.iastore, 1) := by decide +kernel
theorem dX6_readCommand_46 : decode cX6_readCommand 46 = .ok (.return_, 1) := by decide +kernel
theorem dX6_readCommand_47 : decode cX6_readCommand 47 = .ok (.aload_n 0, 1) := by decide +kernel
theorem dX6_readCommand_48 : decode cX6_readCommand 48 = .ok (.getfield 122, 3) := by decide +kernel
theorem dX6_readCommand_51 : decode cX6_readCommand 51 = .ok (.aload_n 0, 1) := by decide +kernel
theorem dX6_readCommand_52 : decode cX6_readCommand 52 = .ok (.getfield 115, 3) := by decide +kernel
theorem dX6_readCommand_55 : decode cX6_readCommand 55 = .ok (.if_icmp .ge 15, 3) := by decide +kernel
theorem dX6_readCommand_58 : decode cX6_readCommand 58 = .ok (.aload_n 0, 1) := by decide +kernel
theorem dX6_readCommand_59 : decode cX6_readCommand 59 = .ok (.getfield 7, 3) := by decide +kernel
theorem dX6_readCommand_62 : decode cX6_readCommand 62 = .ok (.aload_n 0, 1) := by decide +kernel
theorem dX6_readCommand_63 : decode cX6_readCommand 63 = .ok (.getfield 122, 3) := by decide +kernel
theorem dX6_readCommand_66 : decode cX6_readCommand 66 = .ok (.iaload, 1) := by decide +kernel
theorem dX6_readCommand_67 : decode cX6_readCommand 67 = .ok (.goto 4, 3) := by decide +kernel
theorem dX6_readCommand_70 : decode cX6_readCommand 70 = .ok (.iconst 0, 1) := by decide +kernel
theorem dX6_readCommand_71 : decode cX6_readCommand 71 = .ok (.istore_n 1, 1) := by decide +kernel
theorem dX6_readCommand_72 : decode cX6_readCommand 72 = .ok (.aload_n 0, 1) := by decide +kernel
theorem dX6_readCommand_73 : decode cX6_readCommand 73 = .ok (.aload_n 0, 1) := by decide +kernel
theorem dX6_readCommand_74 : decode cX6_readCommand 74 = .ok (.bipush 98, 2) := by decide +kernel
theorem dX6_readCommand_76 : decode cX6_readCommand 76 = .ok (.invokevirtual 187, 3) := by decide +kernel
theorem dX6_readCommand_79 : decode cX6_readCommand 79 = .ok (.ifCond .ne 57, 3) := by decide +kernel
theorem dX6_readCommand_82 : decode cX6_readCommand 82 = .ok (.aload_n 0, 1) := by decide +kernel
theorem dX6_readCommand_83 : decode cX6_readCommand 83 = .ok (.bipush 115, 2) := by decide +kernel
theorem dX6_readCommand_85 : decode cX6_readCommand 85 = .ok (.invokevirtual 187, 3) := by decide +kernel
theorem dX6_readCommand_88 : decode cX6_readCommand 88 = .ok (.ifCond .ne 48, 3) := by decide +kernel
theorem dX6_readCommand_91 : decode cX6_readCommand 91 = .ok (.aload_n 0, 1) := by decide +kernel
theorem dX6_readCommand_92 : decode cX6_readCommand 92 = .ok (.bipush 112, 2) := by decide +kernel
theorem dX6_readCommand_94 : decode cX6_readCommand 94 = .ok (.invokevirtual 187, 3) := by decide +kernel
theorem dX6_readCommand_97 : decode cX6_readCommand 97 = .ok (.ifCond .ne 39, 3) := by decide +kernel
theorem dX6_readCommand_100 : decode cX6_readCommand 100 = .ok (.aload_n 0, 1) := by decide +kernel
theorem dX6_readCommand_101 : decode cX6_readCommand 101 = .ok (.bipush 114, 2) := by decide +kernel
theorem dX6_readCommand_103 : decode cX6_readCommand 103 = .ok (.invokevirtual 187, 3) := by decide +kernel
theorem dX6_readCommand_106 : decode cX6_readCommand 106 = .ok (.ifCond .ne 30, 3) := by decide +kernel
theorem dX6_readCommand_109 : decode cX6_readCommand 109 = .ok (.aload_n 0, 1) := by decide +kernel
theorem dX6_readCommand_110 : decode cX6_readCommand 110 = .ok (.bipush 103, 2) := by decide +kernel
theorem dX6_readCommand_112 : decode cX6_readCommand 112 = .ok (.invokevirtual 187, 3) := by decide +kernel
theorem dX6_readCommand_115 : decode cX6_readCommand 115 = .ok (.ifCond .ne 21, 3) := by decide +kernel
theorem dX6_readCommand_118 : decode cX6_readCommand 118 = .ok (.aload_n 0, 1) := by decide +kernel
theorem dX6_readCommand_119 : decode cX6_readCommand 119 = .ok (.bipush 100, 2) := by decide +kernel
theorem dX6_readCommand_121 : decode cX6_readCommand 121 = .ok (.invokevirtual 187, 3) := by decide +kernel
theorem dX6_readCommand_124 : decode cX6_readCommand 124 = .ok (.ifCond .ne 12, 3) := by decide +kernel
theorem dX6_readCommand_127 : decode cX6_readCommand 127 = .ok (.aload_n 0, 1) := by decide +kernel
theorem dX6_readCommand_128 : decode cX6_readCommand 128 = .ok (.bipush 102, 2) := by decide +kernel
theorem dX6_readCommand_130 : decode cX6_readCommand 130 = .ok (.invokevirtual 187, 3) := by decide +kernel
theorem dX6_readCommand_133 : decode cX6_readCommand 133 = .ok (.ifCond .eq 7, 3) := by decide +kernel
theorem dX6_readCommand_136 : decode cX6_readCommand 136 = .ok (.iconst 1, 1) := by decide +kernel
theorem dX6_readCommand_137 : decode cX6_readCommand 137 = .ok (.goto 4, 3) := by decide +kernel
theorem dX6_readCommand_140 : decode cX6_readCommand 140 = .ok (.iconst 0, 1) := by decide +kernel
theorem dX6_readCommand_141 : decode cX6_readCommand 141 = .ok (.invokevirtual 131, 3) := by decide +kernel
theorem dX6_readCommand_144 : decode cX6_readCommand 144 = .ok (.aload_n 0, 1) := by decide +kernel
theorem dX6_readCommand_145 : decode cX6_readCommand 145 = .ok (.iconst 0, 1) := by decide +kernel
theorem dX6_readCommand_146 : decode cX6_readCommand 146 = .ok (.iconst 2, 1) := by decide +kernel
theorem dX6_readCommand_147 : decode cX6_readCommand 147 = .ok (.invokevirtual 135, 3) := by decide +kernel
theorem dX6_readCommand_150 : decode cX6_readCommand 150 = .ok (.istore_n 2, 1) := by decide +kernel
theorem dX6_readCommand_151 : decode cX6_readCommand 151 = .ok (.iload_n 1, 1) := by decide +kernel
theorem dX6_readCommand_152 : decode cX6_readCommand 152 = .ok (.bipush 115, 2) := by decide +kernel
theorem dX6_readCommand_154 : decode cX6_readCommand 154 = .ok (.if_icmp .ne 11, 3) := by decide +kernel
theorem dX6_readCommand_157 : decode cX6_readCommand 157 = .ok (.aload_n 0, 1) := by decide +kernel
theorem dX6_readCommand_158 : decode cX6_readCommand 158 = .ok (.iload_n 2, 1) := by decide +kernel
theorem dX6_readCommand_159 : decode cX6_readCommand 159 = .ok (.invokevirtual 190, 3) := by decide +kernel
theorem dX6_readCommand_162 : decode cX6_readCommand 162 = .ok (.goto 37, 3) := by decide +kernel
theorem dX6_readCommand_165 : decode cX6_readCommand 165 = .ok (.iload_n 1, 1) := by decide +kernel
theorem dX6_readCommand_166 : decode cX6_readCommand 166 = .ok (.bipush 103, 2) := by decide +kernel
theorem dX6_readCommand_168 : decode cX6_readCommand 168 = .ok (.if_icmp .ne 11, 3) := by decide +kernel
theorem dX6_readCommand_171 : decode cX6_readCommand 171 = .ok (.aload_n 0, 1) := by decide +kernel
theorem dX6_readCommand_172 : decode cX6_readCommand 172 = .ok (.iload_n 2, 1) := by decide +kernel
theorem dX6_readCommand_173 : decode cX6_readCommand 173 = .ok (.invokevirtual 193, 3) := by decide +kernel
theorem dX6_readCommand_176 : decode cX6_readCommand 176 = .ok (.goto 23, 3) := by decide +kernel
theorem dX6_readCommand_179 : decode cX6_readCommand 179 = .ok (.iload_n 1, 1) := by decide +kernel
theorem dX6_readCommand_180 : decode cX6_readCommand 180 = .ok (.bipush 114, 2) := by decide +kernel
theorem dX6_readCommand_182 : decode cX6_readCommand 182 = .ok (.if_icmp .ne 11, 3) := by decide +kernel
theorem dX6_readCommand_185 : decode cX6_readCommand 185 = .ok (.aload_n 0, 1) := by decide +kernel
theorem dX6_readCommand_186 : decode cX6_readCommand 186 = .ok (.iload_n 2, 1) := by decide +kernel
theorem dX6_readCommand_187 : decode cX6_readCommand 187 = .ok (.invokevirtual 196, 3) := by decide +kernel
theorem dX6_readCommand_190 : decode cX6_readCommand 190 = .ok (.goto 9, 3) := by decide +kernel
theorem dX6_readCommand_193 : decode cX6_readCommand 193 = .ok (.aload_n 0, 1) := by decide +kernel
theorem dX6_readCommand_194 : decode cX6_readCommand 194 = .ok (.iload_n 1, 1) := by decide +kernel
theorem dX6_readCommand_195 : decode cX6_readCommand 195 = .ok (.iload_n 2, 1) := by decide +kernel
theorem dX6_readCommand_196 : decode cX6_readCommand 196 = .ok (.invokevirtual 199, 3) := by decide +kernel
theorem dX6_readCommand_199 : decode cX6_readCommand 199 = .ok (.return_, 1) := by decide +kernel
theorem dX6_readText_0 : decode cX6_readText 0 = .ok (.aload_n 0, 1) := by decide +kernel
theorem dX6_readText_1 : decode cX6_readText 1 = .ok (.iconst 0, 1) := by decide +kernel
theorem dX6_readText_2 : decode cX6_readText 2 = .ok (.putfield 122, 3) := by decide +kernel
theorem dX6_readText_5 : decode cX6_readText 5 = .ok (.aload_n 0, 1) := by decide +kernel
theorem dX6_readText_6 : decode cX6_readText 6 = .ok (.iconst 1, 1) := by decide +kernel
theorem dX6_readText_7 : decode cX6_readText 7 = .ok (.putfield 125, 3) := by decide +kernel
theorem dX6_readText_10 : decode cX6_readText 10 = .ok (.aload_n 0, 1) := by decide +kernel
theorem dX6_readText_11 : decode cX6_readText 11 = .ok (.iconst 0, 1) := by decide +kernel
theorem dX6_readText_12 : decode cX6_readText 12 = .ok (.putfield 138, 3) := by decide +kernel
theorem dX6_readText_15 : decode cX6_readText 15 = .ok (.aload_n 0, 1) := by decide +kernel
theorem dX6_readText_16 : decode cX6_readText 16 = .ok (.getfield 13, 3) := by decide +kernel
theorem dX6_readText_19 : decode cX6_readText 19 = .ok (.invokestatic 41, 3) := by decide +kernel
theorem dX6_readText_22 : decode cX6_readText 22 = .ok (.aload_n 0, 1) := by decide +kernel
theorem dX6_readText_23 : decode cX6_readText 23 = .ok (.aload_n 0, 1) := by decide +kernel
theorem dX6_readText_24 : decode cX6_readText 24 = .ok (.bipush 87, 2) := by decide +kernel
theorem dX6_readText_26 : decode cX6_readText 26 = .ok (.invokevirtual 187, 3) := by decide +kernel
theorem dX6_readText_29 : decode cX6_readText 29 = .ok (.invokevirtual 131, 3) := by decide +kernel
theorem dX6_readText_32 : decode cX6_readText 32 = .ok (.aload_n 0, 1) := by decide +kernel
theorem dX6_readText_33 : decode cX6_readText 33 = .ok (.getfield 125, 3) := by decide +kernel
theorem dX6_readText_36 : decode cX6_readText 36 = .ok (.ifCond .eq 21, 3) := by decide +kernel
theorem dX6_readText_39 : decode cX6_readText 39 = .ok (.aload_n 0, 1) := by decide +kernel
theorem dX6_readText_40 : decode cX6_readText 40 = .ok (.getfield 122, 3) := by decide +kernel
theorem dX6_readText_43 : decode cX6_readText 43 = .ok (.aload_n 0, 1) := by decide +kernel
theorem dX6_readText_44 : decode cX6_readText 44 = .ok (.getfield 115, 3) := by decide +kernel
theorem dX6_readText_47 : decode cX6_readText 47 = .ok (.if_icmp .ge 10, 3) := by decide +kernel
theorem dX6_readText_50 : decode cX6_readText 50 = .ok (.aload_n 0, 1) := by decide +kernel
theorem dX6_readText_51 : decode cX6_readText 51 = .ok (.invokevirtual 203, 3) := by decide +kernel
theorem dX6_readText_54 : decode cX6_readText 54 = .ok (.goto (-22), 3) := by decide +kernel
theorem dX6_readText_57 : decode cX6_readText 57 = .ok (.aload_n 0, 1) := by decide +kernel
theorem dX6_readText_58 : decode cX6_readText 58 = .ok (.getfield 125, 3) := by decide +kernel
theorem dX6_readText_61 : decode cX6_readText 61 = .ok (.ifCond .eq 7, 3) := by decide +kernel
theorem dX6_readText_64 : decode cX6_readText 64 = .ok (.iconst (-1), 1) := by decide +kernel
theorem dX6_readText_65 : decode cX6_readText 65 = .ok (.goto 7, 3) := by decide +kernel
theorem dX6_readText_68 : decode cX6_readText 68 = .ok (.aload_n 0, 1) := by decide +kernel
theorem dX6_readText_69 : decode cX6_readText 69 = .ok (.getfield 122, 3) := by decide +kernel
theorem dX6_readText_72 : decode cX6_readText 72 = .ok (.ireturn, 1) := by decide +kernel
theorem dX6_errorPosition_0 : decode cX6_errorPosition 0 = .ok (.aload_n 0, 1) := by decide +kernel
theorem dX6_errorPosition_1 : decode cX6_errorPosition 1 = .ok (.iconst 0, 1) := by decide +kernel
theorem dX6_errorPosition_2 : decode cX6_errorPosition 2 = .ok (.putfield 45, 3) := by decide +kernel
theorem dX6_errorPosition_5 : decode cX6_errorPosition 5 = .ok (.aload_n 0, 1) := by decide +kernel
theorem dX6_errorPosition_6 : decode cX6_errorPosition 6 = .ok (.invokevirtual 206, 3) := by decide +kernel
theorem dX6_errorPosition_9 : decode cX6_errorPosition 9 = .ok (.ireturn, 1) := by decide +kernel
theorem dX6_load_0 : decode cX6_load 0 = .ok (.aload_n 0, 1) := by decide +kernel
theorem dX6_load_1 : decode cX6_load 1 = .ok (.aload_n 0, 1) := by decide +kernel
theorem dX6_load_2 : decode cX6_load 2 = .ok (.invokevirtual 206, 3) := by decide +kernel
theorem dX6_load_5 : decode cX6_load 5 = .ok (.iconst (-1), 1) := by decide +kernel
theorem dX6_load_6 : decode cX6_load 6 = .ok (.if_icmp .ne 7, 3) := by decide +kernel
theorem dX6_load_9 : decode cX6_load 9 = .ok (.iconst 0, 1) := by decide +kernel
theorem dX6_load_10 : decode cX6_load 10 = .ok (.goto 4, 3) := by decide +kernel
theorem dX6_load_13 : decode cX6_load 13 = .ok (.iconst 1, 1) := by decide +kernel
theorem dX6_load_14 : decode cX6_load 14 = .ok (.invokevirtual 118, 3) := by decide +kernel
theorem dX6_load_17 : decode cX6_load 17 = .ok (.ifCond .eq 5, 3) := by decide +kernel
theorem dX6_load_20 : decode cX6_load 20 = .ok (.iconst 0, 1) := by decide +kernel
theorem dX6_load_21 : decode cX6_load 21 = .ok (.ireturn, 1) := by decide +kernel
theorem dX6_load_22 : decode cX6_load 22 = .ok (.aload_n 0, 1) := by decide +kernel
theorem dX6_load_23 : decode cX6_load 23 = .ok (.getfield 13, 3) := by decide +kernel
theorem dX6_load_26 : decode cX6_load 26 = .ok (.iconst 0, 1) := by decide +kernel
theorem dX6_load_27 : decode cX6_load 27 = .ok (.aload_n 0, 1) := by decide +kernel
theorem dX6_load_28 : decode cX6_load 28 = .ok (.getfield 16, 3) := by decide +kernel
theorem dX6_load_31 : decode cX6_load 31 = .ok (.iconst 0, 1) := by decide +kernel
theorem dX6_load_32 : decode cX6_load 32 = .ok (.sipush 4086, 3) := by decide +kernel
theorem dX6_load_35 : decode cX6_load 35 = .ok (.invokestatic 54, 3) := by decide +kernel
theorem dX6_load_38 : decode cX6_load 38 = .ok (.aload_n 0, 1) := by decide +kernel
theorem dX6_load_39 : decode cX6_load 39 = .ok (.iconst 0, 1) := by decide +kernel
theorem dX6_load_40 : decode cX6_load 40 = .ok (.putfield 58, 3) := by decide +kernel
theorem dX6_load_43 : decode cX6_load 43 = .ok (.aload_n 0, 1) := by decide +kernel
theorem dX6_load_44 : decode cX6_load 44 = .ok (.getfield 37, 3) := by decide +kernel
theorem dX6_load_47 : decode cX6_load 47 = .ok (.iconst 0, 1) := by decide +kernel
theorem dX6_load_48 : decode cX6_load 48 = .ok (.iconst 0, 1) := by decide +kernel
theorem dX6_load_49 : decode cX6_load 49 = .ok (.bastore, 1) := by decide +kernel
theorem dX6_load_50 : decode cX6_load 50 = .ok (.aload_n 0, 1) := by decide +kernel
theorem dX6_load_51 : decode cX6_load 51 = .ok (.getfield 37, 3) := by decide +kernel
theorem dX6_load_54 : decode cX6_load 54 = .ok (.iconst 1, 1) := by decide +kernel
theorem dX6_load_55 : decode cX6_load 55 = .ok (.iconst 0, 1) := by decide +kernel
theorem dX6_load_56 : decode cX6_load 56 = .ok (.bastore, 1) := by decide +kernel
theorem dX6_load_57 : decode cX6_load 57 = .ok (.aload_n 0, 1) := by decide +kernel
theorem dX6_load_58 : decode cX6_load 58 = .ok (.getfield 138, 3) := by decide +kernel
theorem dX6_load_61 : decode cX6_load 61 = .ok (.ireturn, 1) := by decide +kernel
theorem dX6_sum_0 : decode cX6_sum 0 = .ok (.iconst 0, 1) := by decide +kernel
theorem dX6_sum_1 : decode cX6_sum 1 = .ok (.istore_n 1, 1) := by decide +kernel
theorem dX6_sum_2 : decode cX6_sum 2 = .ok (.iconst 0, 1) := by decide +kernel
theorem dX6_sum_3 : decode cX6_sum 3 = .ok (.istore_n 2, 1) := by decide +kernel
theorem dX6_sum_4 : decode cX6_sum 4 = .ok (.iload_n 2, 1) := by decide +kernel
theorem dX6_sum_5 : decode cX6_sum 5 = .ok (.bipush 16, 2) := by decide +kernel
theorem dX6_sum_7 : decode cX6_sum 7 = .ok (.if_icmp .ge 15, 3) := by decide +kernel
theorem dX6_sum_10 : decode cX6_sum 10 = .ok (.iload_n 1, 1) := by decide +kernel
theorem dX6_sum_11 : decode cX6_sum 11 = .ok (.aload_n 0, 1) := by decide +kernel
theorem dX6_sum_12 : decode cX6_sum 12 = .ok (.iload_n 2, 1) := by decide +kernel
theorem dX6_sum_13 : decode cX6_sum 13 = .ok (.iaload, 1) := by decide +kernel
theorem dX6_sum_14 : decode cX6_sum 14 = .ok (.iadd, 1) := by decide +kernel
theorem dX6_sum_15 : decode cX6_sum 15 = .ok (.istore_n 1, 1) := by decide +kernel
theorem dX6_sum_16 : decode cX6_sum 16 = .ok (.iinc 2 1, 3) := by decide +kernel
theorem dX6_sum_19 : decode cX6_sum 19 = .ok (.goto (-15), 3) := by decide +kernel
theorem dX6_sum_22 : decode cX6_sum 22 = .ok (.iload_n 1, 1) := by decide +kernel
theorem dX6_sum_23 : decode cX6_sum 23 = .ok (.ireturn, 1) := by decide +kernel
theorem dX6_locked_0 : decode cX6_locked 0 = .ok (.iconst 0, 1) := by decide +kernel
theorem dX6_locked_1 : decode cX6_locked 1 = .ok (.istore_n 2, 1) := by decide +kernel
theorem dX6_locked_2 : decode cX6_locked 2 = .ok (.iconst 0, 1) := by decide +kernel
theorem dX6_locked_3 : decode cX6_locked 3 = .ok (.istore_n 3, 1) := by decide +kernel
theorem dX6_locked_4 : decode cX6_locked 4 = .ok (.iload_n 3, 1) := by decide +kernel
theorem dX6_locked_5 : decode cX6_locked 5 = .ok (.bipush 16, 2) := by decide +kernel
theorem dX6_locked_7 : decode cX6_locked 7 = .ok (.if_icmp .ge 43, 3) := by decide +kernel
theorem dX6_locked_10 : decode cX6_locked 10 = .ok (.iload_n 2, 1) := by decide +kernel
theorem dX6_locked_11 : decode cX6_locked 11 = .ok (.aload_n 0, 1) := by decide +kernel
theorem dX6_locked_12 : decode cX6_locked 12 = .ok (.bipush 16, 2) := by decide +kernel
theorem dX6_locked_14 : decode cX6_locked 14 = .ok (.iload_n 3, 1) := by decide +kernel
theorem dX6_locked_15 : decode cX6_locked 15 = .ok (.iadd, 1) := by decide +kernel
theorem dX6_locked_16 : decode cX6_locked 16 = .ok (.iaload, 1) := by decide +kernel
theorem dX6_locked_17 : decode cX6_locked 17 = .ok (.ifCond .eq 24, 3) := by decide +kernel
theorem dX6_locked_20 : decode cX6_locked 20 = .ok (.iload_n 1, 1) := by decide +kernel
theorem dX6_locked_21 : decode cX6_locked 21 = .ok (.iconst (-1), 1) := by decide +kernel
theorem dX6_locked_22 : decode cX6_locked 22 = .ok (.if_icmp .eq 15, 3) := by decide +kernel
theorem dX6_locked_25 : decode cX6_locked 25 = .ok (.aload_n 0, 1) := by decide +kernel
theorem dX6_locked_26 : decode cX6_locked 26 = .ok (.bipush 16, 2) := by decide +kernel
theorem dX6_locked_28 : decode cX6_locked 28 = .ok (.iload_n 3, 1) := by decide +kernel
theorem dX6_locked_29 : decode cX6_locked 29 = .ok (.iadd, 1) := by decide +kernel
theorem dX6_locked_30 : decode cX6_locked 30 = .ok (.iaload, 1) := by decide +kernel
theorem dX6_locked_31 : decode cX6_locked 31 = .ok (.iload_n 1, 1) := by decide +kernel
theorem dX6_locked_32 : decode cX6_locked 32 = .ok (.iconst 1, 1) := by decide +kernel
theorem dX6_locked_33 : decode cX6_locked 33 = .ok (.iadd, 1) := by decide +kernel
theorem dX6_locked_34 : decode cX6_locked 34 = .ok (.if_icmp .ne 7, 3) := by decide +kernel
theorem dX6_locked_37 : decode cX6_locked 37 = .ok (.iconst 1, 1) := by decide +kernel
theorem dX6_locked_38 : decode cX6_locked 38 = .ok (.goto 4, 3) := by decide +kernel
theorem dX6_locked_41 : decode cX6_locked 41 = .ok (.iconst 0, 1) := by decide +kernel
theorem dX6_locked_42 : decode cX6_locked 42 = .ok (.iadd, 1) := by decide +kernel
theorem dX6_locked_43 : decode cX6_locked 43 = .ok (.istore_n 2, 1) := by decide +kernel
theorem dX6_locked_44 : decode cX6_locked 44 = .ok (.iinc 3 1, 3) := by decide +kernel
theorem dX6_locked_47 : decode cX6_locked 47 = .ok (.goto (-43), 3) := by decide +kernel
theorem dX6_locked_50 : decode cX6_locked 50 = .ok (.iload_n 2, 1) := by decide +kernel
theorem dX6_locked_51 : decode cX6_locked 51 = .ok (.ireturn, 1) := by decide +kernel
theorem dX6_together_0 : decode cX6_together 0 = .ok (.iconst 0, 1) := by decide +kernel
theorem dX6_together_1 : decode cX6_together 1 = .ok (.istore_n 2, 1) := by decide +kernel
theorem dX6_together_2 : decode cX6_together 2 = .ok (.iconst 0, 1) := by decide +kernel
theorem dX6_together_3 : decode cX6_together 3 = .ok (.istore_n 3, 1) := by decide +kernel
theorem dX6_together_4 : decode cX6_together 4 = .ok (.iload_n 3, 1) := by decide +kernel
theorem dX6_together_5 : decode cX6_together 5 = .ok (.iconst 3, 1) := by decide +kernel
theorem dX6_together_6 : decode cX6_together 6 = .ok (.if_icmp .ge 19, 3) := by decide +kernel
theorem dX6_together_9 : decode cX6_together 9 = .ok (.iload_n 2, 1) := by decide +kernel
theorem dX6_together_10 : decode cX6_together 10 = .ok (.aload_n 0, 1) := by decide +kernel
theorem dX6_together_11 : decode cX6_together 11 = .ok (.iload_n 3, 1) := by decide +kernel
theorem dX6_together_12 : decode cX6_together 12 = .ok (.iload_n 1, 1) := by decide +kernel
theorem dX6_together_13 : decode cX6_together 13 = .ok (.invokestatic 65, 3) := by decide +kernel
theorem dX6_together_16 : decode cX6_together 16 = .ok (.iaload, 1) := by decide +kernel
theorem dX6_together_17 : decode cX6_together 17 = .ok (.iadd, 1) := by decide +kernel
theorem dX6_together_18 : decode cX6_together 18 = .ok (.istore_n 2, 1) := by decide +kernel
theorem dX6_together_19 : decode cX6_together 19 = .ok (.iinc 3 1, 3) := by decide +kernel
theorem dX6_together_22 : decode cX6_together 22 = .ok (.goto (-18), 3) := by decide +kernel
theorem dX6_together_25 : decode cX6_together 25 = .ok (.iload_n 2, 1) := by decide +kernel
theorem dX6_together_26 : decode cX6_together 26 = .ok (.ireturn, 1) := by decide +kernel
theorem dX6_spoiled_0 : decode cX6_spoiled 0 = .ok (.iconst 0, 1) := by decide +kernel
theorem dX6_spoiled_1 : decode cX6_spoiled 1 = .ok (.istore_n 1, 1) := by decide +kernel
theorem dX6_spoiled_2 : decode cX6_spoiled 2 = .ok (.iconst 0, 1) := by decide +kernel
theorem dX6_spoiled_3 : decode cX6_spoiled 3 = .ok (.istore_n 2, 1) := by decide +kernel
theorem dX6_spoiled_4 : decode cX6_spoiled 4 = .ok (.iload_n 2, 1) := by decide +kernel
theorem dX6_spoiled_5 : decode cX6_spoiled 5 = .ok (.iconst 3, 1) := by decide +kernel
theorem dX6_spoiled_6 : decode cX6_spoiled 6 = .ok (.if_icmp .ge 25, 3) := by decide +kernel
theorem dX6_spoiled_9 : decode cX6_spoiled 9 = .ok (.iload_n 1, 1) := by decide +kernel
theorem dX6_spoiled_10 : decode cX6_spoiled 10 = .ok (.aload_n 0, 1) := by decide +kernel
theorem dX6_spoiled_11 : decode cX6_spoiled 11 = .ok (.iload_n 2, 1) := by decide +kernel
theorem dX6_spoiled_12 : decode cX6_spoiled 12 = .ok (.invokestatic 81, 3) := by decide +kernel
theorem dX6_spoiled_15 : decode cX6_spoiled 15 = .ok (.ifCond .eq 7, 3) := by decide +kernel
theorem dX6_spoiled_18 : decode cX6_spoiled 18 = .ok (.iconst 1, 1) := by decide +kernel
theorem dX6_spoiled_19 : decode cX6_spoiled 19 = .ok (.goto 4, 3) := by decide +kernel
theorem dX6_spoiled_22 : decode cX6_spoiled 22 = .ok (.iconst 0, 1) := by decide +kernel
theorem dX6_spoiled_23 : decode cX6_spoiled 23 = .ok (.iadd, 1) := by decide +kernel
theorem dX6_spoiled_24 : decode cX6_spoiled 24 = .ok (.istore_n 1, 1) := by decide +kernel
theorem dX6_spoiled_25 : decode cX6_spoiled 25 = .ok (.iinc 2 1, 3) := by decide +kernel
theorem dX6_spoiled_28 : decode cX6_spoiled 28 = .ok (.goto (-24), 3) := by decide +kernel
theorem dX6_spoiled_31 : decode cX6_spoiled 31 = .ok (.iload_n 1, 1) := by decide +kernel
theorem dX6_spoiled_32 : decode cX6_spoiled 32 = .ok (.ireturn, 1) := by decide +kernel
theorem dX6_about_0 : decode cX6_about 0 = .ok (.aload_n 0, 1) := by decide +kernel
theorem dX6_about_1 : decode cX6_about 1 = .ok (.iload_n 1, 1) := by decide +kernel
theorem dX6_about_2 : decode cX6_about 2 = .ok (.i2l, 1) := by decide +kernel
theorem dX6_about_3 : decode cX6_about 3 = .ok (.lconst 0, 1) := by decide +kernel
theorem dX6_about_4 : decode cX6_about 4 = .ok (.ldc2_w 129, 3) := by decide +kernel
theorem dX6_about_7 : decode cX6_about 7 = .ok (.invokestatic 92, 3) := by decide +kernel
theorem dX6_about_10 : decode cX6_about 10 = .ok (.ifCond .eq 7, 3) := by decide +kernel
theorem dX6_about_13 : decode cX6_about 13 = .ok (.iconst 0, 1) := by decide +kernel
theorem dX6_about_14 : decode cX6_about 14 = .ok (.goto 4, 3) := by decide +kernel
theorem dX6_about_17 : decode cX6_about 17 = .ok (.iconst 1, 1) := by decide +kernel
theorem dX6_about_18 : decode cX6_about 18 = .ok (.invokevirtual 118, 3) := by decide +kernel
theorem dX6_about_21 : decode cX6_about 21 = .ok (.ifCond .eq 5, 3) := by decide +kernel
theorem dX6_about_24 : decode cX6_about 24 = .ok (.iconst 0, 1) := by decide +kernel
theorem dX6_about_25 : decode cX6_about 25 = .ok (.ireturn, 1) := by decide +kernel
theorem dX6_about_26 : decode cX6_about 26 = .ok (.iload_n 1, 1) := by decide +kernel
theorem dX6_about_27 : decode cX6_about 27 = .ok (.tableswitch 125 0 8 #[49, 57, 66, 75, 84, 93, 101, 109, 117], 49) := by decide +kernel
theorem dX6_about_76 : decode cX6_about 76 = .ok (.aload_n 0, 1) := by decide +kernel
theorem dX6_about_77 : decode cX6_about 77 = .ok (.getfield 16, 3) := by decide +kernel
theorem dX6_about_80 : decode cX6_about 80 = .ok (.invokestatic 209, 3) := by decide +kernel
theorem dX6_about_83 : decode cX6_about 83 = .ok (.ireturn, 1) := by decide +kernel
theorem dX6_about_84 : decode cX6_about 84 = .ok (.aload_n 0, 1) := by decide +kernel
theorem dX6_about_85 : decode cX6_about 85 = .ok (.getfield 16, 3) := by decide +kernel
theorem dX6_about_88 : decode cX6_about 88 = .ok (.iconst (-1), 1) := by decide +kernel
theorem dX6_about_89 : decode cX6_about 89 = .ok (.invokestatic 213, 3) := by decide +kernel
theorem dX6_about_92 : decode cX6_about 92 = .ok (.ireturn, 1) := by decide +kernel
theorem dX6_about_93 : decode cX6_about 93 = .ok (.aload_n 0, 1) := by decide +kernel
theorem dX6_about_94 : decode cX6_about 94 = .ok (.getfield 16, 3) := by decide +kernel
theorem dX6_about_97 : decode cX6_about 97 = .ok (.iconst 0, 1) := by decide +kernel
theorem dX6_about_98 : decode cX6_about 98 = .ok (.invokestatic 216, 3) := by decide +kernel
theorem dX6_about_101 : decode cX6_about 101 = .ok (.ireturn, 1) := by decide +kernel
theorem dX6_about_102 : decode cX6_about 102 = .ok (.aload_n 0, 1) := by decide +kernel
theorem dX6_about_103 : decode cX6_about 103 = .ok (.getfield 16, 3) := by decide +kernel
theorem dX6_about_106 : decode cX6_about 106 = .ok (.iconst 3, 1) := by decide +kernel
theorem dX6_about_107 : decode cX6_about 107 = .ok (.invokestatic 216, 3) := by decide +kernel
theorem dX6_about_110 : decode cX6_about 110 = .ok (.ireturn, 1) := by decide +kernel
theorem dX6_about_111 : decode cX6_about 111 = .ok (.aload_n 0, 1) := by decide +kernel
theorem dX6_about_112 : decode cX6_about 112 = .ok (.getfield 16, 3) := by decide +kernel
theorem dX6_about_115 : decode cX6_about 115 = .ok (.iconst 4, 1) := by decide +kernel
theorem dX6_about_116 : decode cX6_about 116 = .ok (.invokestatic 216, 3) := by decide +kernel
theorem dX6_about_119 : decode cX6_about 119 = .ok (.ireturn, 1) := by decide +kernel
theorem dX6_about_120 : decode cX6_about 120 = .ok (.aload_n 0, 1) := by decide +kernel
theorem dX6_about_121 : decode cX6_about 121 = .ok (.getfield 16, 3) := by decide +kernel
theorem dX6_about_124 : decode cX6_about 124 = .ok (.bipush 33, 2) := by decide +kernel
theorem dX6_about_126 : decode cX6_about 126 = .ok (.iaload, 1) := by decide +kernel
theorem dX6_about_127 : decode cX6_about 127 = .ok (.ireturn, 1) := by decide +kernel
theorem dX6_about_128 : decode cX6_about 128 = .ok (.aload_n 0, 1) := by decide +kernel
theorem dX6_about_129 : decode cX6_about 129 = .ok (.getfield 16, 3) := by decide +kernel
theorem dX6_about_132 : decode cX6_about 132 = .ok (.invokestatic 219, 3) := by decide +kernel
theorem dX6_about_135 : decode cX6_about 135 = .ok (.ireturn, 1) := by decide +kernel
theorem dX6_about_136 : decode cX6_about 136 = .ok (.aload_n 0, 1) := by decide +kernel
theorem dX6_about_137 : decode cX6_about 137 = .ok (.getfield 16, 3) := by decide +kernel
theorem dX6_about_140 : decode cX6_about 140 = .ok (.bipush 32, 2) := by decide +kernel
theorem dX6_about_142 : decode cX6_about 142 = .ok (.iaload, 1) := by decide +kernel
theorem dX6_about_143 : decode cX6_about 143 = .ok (.ireturn, 1) := by decide +kernel
theorem dX6_about_144 : decode cX6_about 144 = .ok (.aload_n 0, 1) := by decide +kernel
theorem dX6_about_145 : decode cX6_about 145 = .ok (.getfield 16, 3) := by decide +kernel
theorem dX6_about_148 : decode cX6_about 148 = .ok (.bipush 34, 2) := by decide +kernel
theorem dX6_about_150 : decode cX6_about 150 = .ok (.iaload, 1) := by decide +kernel
theorem dX6_about_151 : decode cX6_about 151 = .ok (.ireturn, 1) := by decide +kernel
theorem dX6_about_152 : decode cX6_about 152 = .ok (.aload_n 0, 1) := by decide +kernel
theorem dX6_about_153 : decode cX6_about 153 = .ok (.getfield 16, 3) := by decide +kernel
theorem dX6_about_156 : decode cX6_about 156 = .ok (.bipush 35, 2) := by decide +kernel
theorem dX6_about_158 : decode cX6_about 158 = .ok (.iaload, 1) := by decide +kernel
theorem dX6_about_159 : decode cX6_about 159 = .ok (.ireturn, 1) := by decide +kernel
theorem dX6_isCell_0 : decode cX6_isCell 0 = .ok (.iload_n 0, 1) := by decide +kernel
theorem dX6_isCell_1 : decode cX6_isCell 1 = .ok (.i2l, 1) := by decide +kernel
theorem dX6_isCell_2 : decode cX6_isCell 2 = .ok (.lconst 0, 1) := by decide +kernel
theorem dX6_isCell_3 : decode cX6_isCell 3 = .ok (.ldc2_w 222, 3) := by decide +kernel
theorem dX6_isCell_6 : decode cX6_isCell 6 = .ok (.invokestatic 92, 3) := by decide +kernel
theorem dX6_isCell_9 : decode cX6_isCell 9 = .ok (.ireturn, 1) := by decide +kernel
theorem dX6_isWorker_0 : decode cX6_isWorker 0 = .ok (.iload_n 0, 1) := by decide +kernel
theorem dX6_isWorker_1 : decode cX6_isWorker 1 = .ok (.i2l, 1) := by decide +kernel
theorem dX6_isWorker_2 : decode cX6_isWorker 2 = .ok (.lconst 0, 1) := by decide +kernel
theorem dX6_isWorker_3 : decode cX6_isWorker 3 = .ok (.ldc2_w 224, 3) := by decide +kernel
theorem dX6_isWorker_6 : decode cX6_isWorker 6 = .ok (.invokestatic 92, 3) := by decide +kernel
theorem dX6_isWorker_9 : decode cX6_isWorker 9 = .ok (.ireturn, 1) := by decide +kernel
theorem dX6_oldest_0 : decode cX6_oldest 0 = .ok (.aload_n 0, 1) := by decide +kernel
theorem dX6_oldest_1 : decode cX6_oldest 1 = .ok (.getfield 16, 3) := by decide +kernel
theorem dX6_oldest_4 : decode cX6_oldest 4 = .ok (.bipush 16, 2) := by decide +kernel
theorem dX6_oldest_6 : decode cX6_oldest 6 = .ok (.iload_n 1, 1) := by decide +kernel
theorem dX6_oldest_7 : decode cX6_oldest 7 = .ok (.iadd, 1) := by decide +kernel
theorem dX6_oldest_8 : decode cX6_oldest 8 = .ok (.iaload, 1) := by decide +kernel
theorem dX6_oldest_9 : decode cX6_oldest 9 = .ok (.iconst 1, 1) := by decide +kernel
theorem dX6_oldest_10 : decode cX6_oldest 10 = .ok (.isub, 1) := by decide +kernel
theorem dX6_oldest_11 : decode cX6_oldest 11 = .ok (.istore_n 2, 1) := by decide +kernel
theorem dX6_oldest_12 : decode cX6_oldest 12 = .ok (.aload_n 0, 1) := by decide +kernel
theorem dX6_oldest_13 : decode cX6_oldest 13 = .ok (.getfield 16, 3) := by decide +kernel
theorem dX6_oldest_16 : decode cX6_oldest 16 = .ok (.iload_n 1, 1) := by decide +kernel
theorem dX6_oldest_17 : decode cX6_oldest 17 = .ok (.iaload, 1) := by decide +kernel
theorem dX6_oldest_18 : decode cX6_oldest 18 = .ok (.istore_n 3, 1) := by decide +kernel
theorem dX6_oldest_19 : decode cX6_oldest 19 = .ok (.iload_n 2, 1) := by decide +kernel
theorem dX6_oldest_20 : decode cX6_oldest 20 = .ok (.ifCond .ge 7, 3) := by decide +kernel
theorem dX6_oldest_23 : decode cX6_oldest 23 = .ok (.iconst (-1), 1) := by decide +kernel
theorem dX6_oldest_24 : decode cX6_oldest 24 = .ok (.goto 15, 3) := by decide +kernel
theorem dX6_oldest_27 : decode cX6_oldest 27 = .ok (.aload_n 0, 1) := by decide +kernel
theorem dX6_oldest_28 : decode cX6_oldest 28 = .ok (.getfield 16, 3) := by decide +kernel
theorem dX6_oldest_31 : decode cX6_oldest 31 = .ok (.iload_n 2, 1) := by decide +kernel
theorem dX6_oldest_32 : decode cX6_oldest 32 = .ok (.iconst 1, 1) := by decide +kernel
theorem dX6_oldest_33 : decode cX6_oldest 33 = .ok (.invokestatic 65, 3) := by decide +kernel
theorem dX6_oldest_36 : decode cX6_oldest 36 = .ok (.iaload, 1) := by decide +kernel
theorem dX6_oldest_37 : decode cX6_oldest 37 = .ok (.iconst 1, 1) := by decide +kernel
theorem dX6_oldest_38 : decode cX6_oldest 38 = .ok (.isub, 1) := by decide +kernel
theorem dX6_oldest_39 : decode cX6_oldest 39 = .ok (.istore 4, 2) := by decide +kernel
theorem dX6_oldest_41 : decode cX6_oldest 41 = .ok (.iload 4, 2) := by decide +kernel
theorem dX6_oldest_43 : decode cX6_oldest 43 = .ok (.ifCond .lt 44, 3) := by decide +kernel
theorem dX6_oldest_46 : decode cX6_oldest 46 = .ok (.aload_n 0, 1) := by decide +kernel
theorem dX6_oldest_47 : decode cX6_oldest 47 = .ok (.getfield 16, 3) := by decide +kernel
theorem dX6_oldest_50 : decode cX6_oldest 50 = .ok (.iload_n 2, 1) := by decide +kernel
theorem dX6_oldest_51 : decode cX6_oldest 51 = .ok (.bipush 70, 2) := by decide +kernel
theorem dX6_oldest_53 : decode cX6_oldest 53 = .ok (.iload 4, 2) := by decide +kernel
theorem dX6_oldest_55 : decode cX6_oldest 55 = .ok (.iadd, 1) := by decide +kernel
theorem dX6_oldest_56 : decode cX6_oldest 56 = .ok (.invokestatic 65, 3) := by decide +kernel
theorem dX6_oldest_59 : decode cX6_oldest 59 = .ok (.iaload, 1) := by decide +kernel
theorem dX6_oldest_60 : decode cX6_oldest 60 = .ok (.istore 5, 2) := by decide +kernel
theorem dX6_oldest_62 : decode cX6_oldest 62 = .ok (.iload 5, 2) := by decide +kernel
theorem dX6_oldest_64 : decode cX6_oldest 64 = .ok (.bipush 100, 2) := by decide +kernel
theorem dX6_oldest_66 : decode cX6_oldest 66 = .ok (.idiv, 1) := by decide +kernel
theorem dX6_oldest_67 : decode cX6_oldest 67 = .ok (.iload_n 1, 1) := by decide +kernel
theorem dX6_oldest_68 : decode cX6_oldest 68 = .ok (.if_icmp .ne 11, 3) := by decide +kernel
theorem dX6_oldest_71 : decode cX6_oldest 71 = .ok (.iload 5, 2) := by decide +kernel
theorem dX6_oldest_73 : decode cX6_oldest 73 = .ok (.bipush 100, 2) := by decide +kernel
theorem dX6_oldest_75 : decode cX6_oldest 75 = .ok (.irem, 1) := by decide +kernel
theorem dX6_oldest_76 : decode cX6_oldest 76 = .ok (.goto 4, 3) := by decide +kernel
theorem dX6_oldest_79 : decode cX6_oldest 79 = .ok (.iload_n 3, 1) := by decide +kernel
theorem dX6_oldest_80 : decode cX6_oldest 80 = .ok (.istore_n 3, 1) := by decide +kernel
theorem dX6_oldest_81 : decode cX6_oldest 81 = .ok (.iinc 4 (-1), 3) := by decide +kernel
theorem dX6_oldest_84 : decode cX6_oldest 84 = .ok (.goto (-43), 3) := by decide +kernel
theorem dX6_oldest_87 : decode cX6_oldest 87 = .ok (.iload_n 3, 1) := by decide +kernel
theorem dX6_oldest_88 : decode cX6_oldest 88 = .ok (.ireturn, 1) := by decide +kernel
theorem dX6_cell_0 : decode cX6_cell 0 = .ok (.aload_n 0, 1) := by decide +kernel
theorem dX6_cell_1 : decode cX6_cell 1 = .ok (.iload_n 1, 1) := by decide +kernel
theorem dX6_cell_2 : decode cX6_cell 2 = .ok (.invokestatic 226, 3) := by decide +kernel
theorem dX6_cell_5 : decode cX6_cell 5 = .ok (.ifCond .ne 7, 3) := by decide +kernel
theorem dX6_cell_8 : decode cX6_cell 8 = .ok (.iconst 1, 1) := by decide +kernel
theorem dX6_cell_9 : decode cX6_cell 9 = .ok (.goto 20, 3) := by decide +kernel
theorem dX6_cell_12 : decode cX6_cell 12 = .ok (.iload_n 2, 1) := by decide +kernel
theorem dX6_cell_13 : decode cX6_cell 13 = .ok (.i2l, 1) := by decide +kernel
theorem dX6_cell_14 : decode cX6_cell 14 = .ok (.lconst 0, 1) := by decide +kernel
theorem dX6_cell_15 : decode cX6_cell 15 = .ok (.ldc2_w 224, 3) := by decide +kernel
theorem dX6_cell_18 : decode cX6_cell 18 = .ok (.invokestatic 92, 3) := by decide +kernel
theorem dX6_cell_21 : decode cX6_cell 21 = .ok (.ifCond .eq 7, 3) := by decide +kernel
theorem dX6_cell_24 : decode cX6_cell 24 = .ok (.iconst 0, 1) := by decide +kernel
theorem dX6_cell_25 : decode cX6_cell 25 = .ok (.goto 4, 3) := by decide +kernel
theorem dX6_cell_28 : decode cX6_cell 28 = .ok (.iconst 2, 1) := by decide +kernel
theorem dX6_cell_29 : decode cX6_cell 29 = .ok (.invokevirtual 118, 3) := by decide +kernel
theorem dX6_cell_32 : decode cX6_cell 32 = .ok (.ifCond .eq 5, 3) := by decide +kernel
theorem dX6_cell_35 : decode cX6_cell 35 = .ok (.iconst 0, 1) := by decide +kernel
theorem dX6_cell_36 : decode cX6_cell 36 = .ok (.ireturn, 1) := by decide +kernel
theorem dX6_cell_37 : decode cX6_cell 37 = .ok (.iload_n 2, 1) := by decide +kernel
theorem dX6_cell_38 : decode cX6_cell 38 = .ok (.ifCond .ne 12, 3) := by decide +kernel
theorem dX6_cell_41 : decode cX6_cell 41 = .ok (.aload_n 0, 1) := by decide +kernel
theorem dX6_cell_42 : decode cX6_cell 42 = .ok (.getfield 16, 3) := by decide +kernel
theorem dX6_cell_45 : decode cX6_cell 45 = .ok (.iload_n 1, 1) := by decide +kernel
theorem dX6_cell_46 : decode cX6_cell 46 = .ok (.iaload, 1) := by decide +kernel
theorem dX6_cell_47 : decode cX6_cell 47 = .ok (.goto 27, 3) := by decide +kernel
theorem dX6_cell_50 : decode cX6_cell 50 = .ok (.iload_n 2, 1) := by decide +kernel
theorem dX6_cell_51 : decode cX6_cell 51 = .ok (.iconst 1, 1) := by decide +kernel
theorem dX6_cell_52 : decode cX6_cell 52 = .ok (.if_icmp .ne 17, 3) := by decide +kernel
theorem dX6_cell_55 : decode cX6_cell 55 = .ok (.aload_n 0, 1) := by decide +kernel
theorem dX6_cell_56 : decode cX6_cell 56 = .ok (.getfield 16, 3) := by decide +kernel
theorem dX6_cell_59 : decode cX6_cell 59 = .ok (.bipush 16, 2) := by decide +kernel
theorem dX6_cell_61 : decode cX6_cell 61 = .ok (.iload_n 1, 1) := by decide +kernel
theorem dX6_cell_62 : decode cX6_cell 62 = .ok (.iadd, 1) := by decide +kernel
theorem dX6_cell_63 : decode cX6_cell 63 = .ok (.iaload, 1) := by decide +kernel
theorem dX6_cell_64 : decode cX6_cell 64 = .ok (.iconst 1, 1) := by decide +kernel
theorem dX6_cell_65 : decode cX6_cell 65 = .ok (.isub, 1) := by decide +kernel
theorem dX6_cell_66 : decode cX6_cell 66 = .ok (.goto 8, 3) := by decide +kernel
theorem dX6_cell_69 : decode cX6_cell 69 = .ok (.aload_n 0, 1) := by decide +kernel
theorem dX6_cell_70 : decode cX6_cell 70 = .ok (.iload_n 1, 1) := by decide +kernel
theorem dX6_cell_71 : decode cX6_cell 71 = .ok (.invokevirtual 229, 3) := by decide +kernel
theorem dX6_cell_74 : decode cX6_cell 74 = .ok (.ireturn, 1) := by decide +kernel
theorem dX6_worker_0 : decode cX6_worker 0 = .ok (.aload_n 0, 1) := by decide +kernel
theorem dX6_worker_1 : decode cX6_worker 1 = .ok (.iload_n 1, 1) := by decide +kernel
theorem dX6_worker_2 : decode cX6_worker 2 = .ok (.invokestatic 232, 3) := by decide +kernel
theorem dX6_worker_5 : decode cX6_worker 5 = .ok (.ifCond .ne 7, 3) := by decide +kernel
theorem dX6_worker_8 : decode cX6_worker 8 = .ok (.iconst 1, 1) := by decide +kernel
theorem dX6_worker_9 : decode cX6_worker 9 = .ok (.goto 20, 3) := by decide +kernel
theorem dX6_worker_12 : decode cX6_worker 12 = .ok (.iload_n 2, 1) := by decide +kernel
theorem dX6_worker_13 : decode cX6_worker 13 = .ok (.i2l, 1) := by decide +kernel
theorem dX6_worker_14 : decode cX6_worker 14 = .ok (.lconst 0, 1) := by decide +kernel
theorem dX6_worker_15 : decode cX6_worker 15 = .ok (.ldc2_w 235, 3) := by decide +kernel
theorem dX6_worker_18 : decode cX6_worker 18 = .ok (.invokestatic 92, 3) := by decide +kernel
theorem dX6_worker_21 : decode cX6_worker 21 = .ok (.ifCond .eq 7, 3) := by decide +kernel
theorem dX6_worker_24 : decode cX6_worker 24 = .ok (.iconst 0, 1) := by decide +kernel
theorem dX6_worker_25 : decode cX6_worker 25 = .ok (.goto 4, 3) := by decide +kernel
theorem dX6_worker_28 : decode cX6_worker 28 = .ok (.iconst 2, 1) := by decide +kernel
theorem dX6_worker_29 : decode cX6_worker 29 = .ok (.invokevirtual 118, 3) := by decide +kernel
theorem dX6_worker_32 : decode cX6_worker 32 = .ok (.ifCond .eq 5, 3) := by decide +kernel
theorem dX6_worker_35 : decode cX6_worker 35 = .ok (.iconst 0, 1) := by decide +kernel
theorem dX6_worker_36 : decode cX6_worker 36 = .ok (.ireturn, 1) := by decide +kernel
theorem dX6_worker_37 : decode cX6_worker 37 = .ok (.iload_n 2, 1) := by decide +kernel
theorem dX6_worker_38 : decode cX6_worker 38 = .ok (.tableswitch 87 0 4 #[34, 45, 56, 65, 76], 34) := by decide +kernel
theorem dX6_worker_72 : decode cX6_worker 72 = .ok (.aload_n 0, 1) := by decide +kernel
theorem dX6_worker_73 : decode cX6_worker 73 = .ok (.getfield 16, 3) := by decide +kernel
theorem dX6_worker_76 : decode cX6_worker 76 = .ok (.iload_n 1, 1) := by decide +kernel
theorem dX6_worker_77 : decode cX6_worker 77 = .ok (.iconst 0, 1) := by decide +kernel
theorem dX6_worker_78 : decode cX6_worker 78 = .ok (.invokestatic 65, 3) := by decide +kernel
theorem dX6_worker_81 : decode cX6_worker 81 = .ok (.iaload, 1) := by decide +kernel
theorem dX6_worker_82 : decode cX6_worker 82 = .ok (.ireturn, 1) := by decide +kernel
theorem dX6_worker_83 : decode cX6_worker 83 = .ok (.aload_n 0, 1) := by decide +kernel
theorem dX6_worker_84 : decode cX6_worker 84 = .ok (.getfield 16, 3) := by decide +kernel
theorem dX6_worker_87 : decode cX6_worker 87 = .ok (.iload_n 1, 1) := by decide +kernel
theorem dX6_worker_88 : decode cX6_worker 88 = .ok (.iconst 1, 1) := by decide +kernel
theorem dX6_worker_89 : decode cX6_worker 89 = .ok (.invokestatic 65, 3) := by decide +kernel
theorem dX6_worker_92 : decode cX6_worker 92 = .ok (.iaload, 1) := by decide +kernel
theorem dX6_worker_93 : decode cX6_worker 93 = .ok (.ireturn, 1) := by decide +kernel
theorem dX6_worker_94 : decode cX6_worker 94 = .ok (.aload_n 0, 1) := by decide +kernel
theorem dX6_worker_95 : decode cX6_worker 95 = .ok (.getfield 16, 3) := by decide +kernel
theorem dX6_worker_98 : decode cX6_worker 98 = .ok (.iload_n 1, 1) := by decide +kernel
theorem dX6_worker_99 : decode cX6_worker 99 = .ok (.invokestatic 213, 3) := by decide +kernel
theorem dX6_worker_102 : decode cX6_worker 102 = .ok (.ireturn, 1) := by decide +kernel
theorem dX6_worker_103 : decode cX6_worker 103 = .ok (.aload_n 0, 1) := by decide +kernel
theorem dX6_worker_104 : decode cX6_worker 104 = .ok (.getfield 16, 3) := by decide +kernel
theorem dX6_worker_107 : decode cX6_worker 107 = .ok (.iload_n 1, 1) := by decide +kernel
theorem dX6_worker_108 : decode cX6_worker 108 = .ok (.iconst 3, 1) := by decide +kernel
theorem dX6_worker_109 : decode cX6_worker 109 = .ok (.invokestatic 65, 3) := by decide +kernel
theorem dX6_worker_112 : decode cX6_worker 112 = .ok (.iaload, 1) := by decide +kernel
theorem dX6_worker_113 : decode cX6_worker 113 = .ok (.ireturn, 1) := by decide +kernel
theorem dX6_worker_114 : decode cX6_worker 114 = .ok (.aload_n 0, 1) := by decide +kernel
theorem dX6_worker_115 : decode cX6_worker 115 = .ok (.getfield 16, 3) := by decide +kernel
theorem dX6_worker_118 : decode cX6_worker 118 = .ok (.iload_n 1, 1) := by decide +kernel
theorem dX6_worker_119 : decode cX6_worker 119 = .ok (.iconst 4, 1) := by decide +kernel
theorem dX6_worker_120 : decode cX6_worker 120 = .ok (.invokestatic 65, 3) := by decide +kernel
theorem dX6_worker_123 : decode cX6_worker 123 = .ok (.iaload, 1) := by decide +kernel
theorem dX6_worker_124 : decode cX6_worker 124 = .ok (.ireturn, 1) := by decide +kernel
theorem dX6_worker_125 : decode cX6_worker 125 = .ok (.aload_n 0, 1) := by decide +kernel
theorem dX6_worker_126 : decode cX6_worker 126 = .ok (.getfield 16, 3) := by decide +kernel
theorem dX6_worker_129 : decode cX6_worker 129 = .ok (.iload_n 1, 1) := by decide +kernel
theorem dX6_worker_130 : decode cX6_worker 130 = .ok (.invokestatic 81, 3) := by decide +kernel
theorem dX6_worker_133 : decode cX6_worker 133 = .ok (.ifCond .eq 7, 3) := by decide +kernel
theorem dX6_worker_136 : decode cX6_worker 136 = .ok (.iconst 1, 1) := by decide +kernel
theorem dX6_worker_137 : decode cX6_worker 137 = .ok (.goto 4, 3) := by decide +kernel
theorem dX6_worker_140 : decode cX6_worker 140 = .ok (.iconst 0, 1) := by decide +kernel
theorem dX6_worker_141 : decode cX6_worker 141 = .ok (.ireturn, 1) := by decide +kernel
theorem dX6_work_0 : decode cX6_work 0 = .ok (.iload_n 1, 1) := by decide +kernel
theorem dX6_work_1 : decode cX6_work 1 = .ok (.invokestatic 232, 3) := by decide +kernel
theorem dX6_work_4 : decode cX6_work 4 = .ok (.ifCond .eq 27, 3) := by decide +kernel
theorem dX6_work_7 : decode cX6_work 7 = .ok (.iload_n 2, 1) := by decide +kernel
theorem dX6_work_8 : decode cX6_work 8 = .ok (.i2l, 1) := by decide +kernel
theorem dX6_work_9 : decode cX6_work 9 = .ok (.lconst 0, 1) := by decide +kernel
theorem dX6_work_10 : decode cX6_work 10 = .ok (.aload_n 0, 1) := by decide +kernel
theorem dX6_work_11 : decode cX6_work 11 = .ok (.getfield 16, 3) := by decide +kernel
theorem dX6_work_14 : decode cX6_work 14 = .ok (.iload_n 1, 1) := by decide +kernel
theorem dX6_work_15 : decode cX6_work 15 = .ok (.invokestatic 69, 3) := by decide +kernel
theorem dX6_work_18 : decode cX6_work 18 = .ok (.iconst 1, 1) := by decide +kernel
theorem dX6_work_19 : decode cX6_work 19 = .ok (.isub, 1) := by decide +kernel
theorem dX6_work_20 : decode cX6_work 20 = .ok (.i2l, 1) := by decide +kernel
theorem dX6_work_21 : decode cX6_work 21 = .ok (.invokestatic 92, 3) := by decide +kernel
theorem dX6_work_24 : decode cX6_work 24 = .ok (.ifCond .eq 7, 3) := by decide +kernel
theorem dX6_work_27 : decode cX6_work 27 = .ok (.iconst 1, 1) := by decide +kernel
theorem dX6_work_28 : decode cX6_work 28 = .ok (.goto 4, 3) := by decide +kernel
theorem dX6_work_31 : decode cX6_work 31 = .ok (.iconst 0, 1) := by decide +kernel
theorem dX6_work_32 : decode cX6_work 32 = .ok (.istore 4, 2) := by decide +kernel
theorem dX6_work_34 : decode cX6_work 34 = .ok (.aload_n 0, 1) := by decide +kernel
theorem dX6_work_35 : decode cX6_work 35 = .ok (.iload 4, 2) := by decide +kernel
theorem dX6_work_37 : decode cX6_work 37 = .ok (.ifCond .ne 7, 3) := by decide +kernel
theorem dX6_work_40 : decode cX6_work 40 = .ok (.iconst 1, 1) := by decide +kernel
theorem dX6_work_41 : decode cX6_work 41 = .ok (.goto 20, 3) := by decide +kernel
theorem dX6_work_44 : decode cX6_work 44 = .ok (.iload_n 3, 1) := by decide +kernel
theorem dX6_work_45 : decode cX6_work 45 = .ok (.i2l, 1) := by decide +kernel
theorem dX6_work_46 : decode cX6_work 46 = .ok (.lconst 0, 1) := by decide +kernel
theorem dX6_work_47 : decode cX6_work 47 = .ok (.ldc2_w 237, 3) := by decide +kernel
theorem dX6_work_50 : decode cX6_work 50 = .ok (.invokestatic 92, 3) := by decide +kernel
theorem dX6_work_53 : decode cX6_work 53 = .ok (.ifCond .eq 7, 3) := by decide +kernel
theorem dX6_work_56 : decode cX6_work 56 = .ok (.iconst 0, 1) := by decide +kernel
theorem dX6_work_57 : decode cX6_work 57 = .ok (.goto 4, 3) := by decide +kernel
theorem dX6_work_60 : decode cX6_work 60 = .ok (.iconst 2, 1) := by decide +kernel
theorem dX6_work_61 : decode cX6_work 61 = .ok (.invokevirtual 118, 3) := by decide +kernel
theorem dX6_work_64 : decode cX6_work 64 = .ok (.ifCond .eq 5, 3) := by decide +kernel
theorem dX6_work_67 : decode cX6_work 67 = .ok (.iconst 0, 1) := by decide +kernel
theorem dX6_work_68 : decode cX6_work 68 = .ok (.ireturn, 1) := by decide +kernel
theorem dX6_work_69 : decode cX6_work 69 = .ok (.iload_n 3, 1) := by decide +kernel
theorem dX6_work_70 : decode cX6_work 70 = .ok (.tableswitch 76 0 3 #[30, 42, 54, 64], 30) := by decide +kernel
theorem dX6_work_100 : decode cX6_work 100 = .ok (.aload_n 0, 1) := by decide +kernel
theorem dX6_work_101 : decode cX6_work 101 = .ok (.getfield 16, 3) := by decide +kernel
theorem dX6_work_104 : decode cX6_work 104 = .ok (.iload_n 1, 1) := by decide +kernel
theorem dX6_work_105 : decode cX6_work 105 = .ok (.iload_n 2, 1) := by decide +kernel
theorem dX6_work_106 : decode cX6_work 106 = .ok (.iconst 0, 1) := by decide +kernel
theorem dX6_work_107 : decode cX6_work 107 = .ok (.invokestatic 73, 3) := by decide +kernel
theorem dX6_work_110 : decode cX6_work 110 = .ok (.iaload, 1) := by decide +kernel
theorem dX6_work_111 : decode cX6_work 111 = .ok (.ireturn, 1) := by decide +kernel
theorem dX6_work_112 : decode cX6_work 112 = .ok (.aload_n 0, 1) := by decide +kernel
theorem dX6_work_113 : decode cX6_work 113 = .ok (.getfield 16, 3) := by decide +kernel
theorem dX6_work_116 : decode cX6_work 116 = .ok (.iload_n 1, 1) := by decide +kernel
theorem dX6_work_117 : decode cX6_work 117 = .ok (.iload_n 2, 1) := by decide +kernel
theorem dX6_work_118 : decode cX6_work 118 = .ok (.iconst 2, 1) := by decide +kernel
theorem dX6_work_119 : decode cX6_work 119 = .ok (.invokestatic 73, 3) := by decide +kernel
theorem dX6_work_122 : decode cX6_work 122 = .ok (.iaload, 1) := by decide +kernel
theorem dX6_work_123 : decode cX6_work 123 = .ok (.ireturn, 1) := by decide +kernel
theorem dX6_work_124 : decode cX6_work 124 = .ok (.aload_n 0, 1) := by decide +kernel
theorem dX6_work_125 : decode cX6_work 125 = .ok (.getfield 16, 3) := by decide +kernel
theorem dX6_work_128 : decode cX6_work 128 = .ok (.iload_n 1, 1) := by decide +kernel
theorem dX6_work_129 : decode cX6_work 129 = .ok (.iload_n 2, 1) := by decide +kernel
theorem dX6_work_130 : decode cX6_work 130 = .ok (.invokestatic 102, 3) := by decide +kernel
theorem dX6_work_133 : decode cX6_work 133 = .ok (.ireturn, 1) := by decide +kernel
theorem dX6_work_134 : decode cX6_work 134 = .ok (.aload_n 0, 1) := by decide +kernel
theorem dX6_work_135 : decode cX6_work 135 = .ok (.getfield 16, 3) := by decide +kernel
theorem dX6_work_138 : decode cX6_work 138 = .ok (.iload_n 1, 1) := by decide +kernel
theorem dX6_work_139 : decode cX6_work 139 = .ok (.iload_n 2, 1) := by decide +kernel
theorem dX6_work_140 : decode cX6_work 140 = .ok (.iconst 3, 1) := by decide +kernel
theorem dX6_work_141 : decode cX6_work 141 = .ok (.invokestatic 73, 3) := by decide +kernel
theorem dX6_work_144 : decode cX6_work 144 = .ok (.iaload, 1) := by decide +kernel
theorem dX6_work_145 : decode cX6_work 145 = .ok (.ireturn, 1) := by decide +kernel
theorem dX6_work_146 : decode cX6_work 146 = .ok (.aload_n 0, 1) := by decide +kernel
theorem dX6_work_147 : decode cX6_work 147 = .ok (.getfield 16, 3) := by decide +kernel
theorem dX6_work_150 : decode cX6_work 150 = .ok (.iload_n 1, 1) := by decide +kernel
theorem dX6_work_151 : decode cX6_work 151 = .ok (.iload_n 2, 1) := by decide +kernel
theorem dX6_work_152 : decode cX6_work 152 = .ok (.iconst 4, 1) := by decide +kernel
theorem dX6_work_153 : decode cX6_work 153 = .ok (.invokestatic 73, 3) := by decide +kernel
theorem dX6_work_156 : decode cX6_work 156 = .ok (.iaload, 1) := by decide +kernel
theorem dX6_work_157 : decode cX6_work 157 = .ok (.ireturn, 1) := by decide +kernel
theorem dX6_entry_0 : decode cX6_entry 0 = .ok (.aload_n 0, 1) := by decide +kernel
theorem dX6_entry_1 : decode cX6_entry 1 = .ok (.iload_n 1, 1) := by decide +kernel
theorem dX6_entry_2 : decode cX6_entry 2 = .ok (.invokestatic 232, 3) := by decide +kernel
theorem dX6_entry_5 : decode cX6_entry 5 = .ok (.ifCond .ne 7, 3) := by decide +kernel
theorem dX6_entry_8 : decode cX6_entry 8 = .ok (.iconst 1, 1) := by decide +kernel
theorem dX6_entry_9 : decode cX6_entry 9 = .ok (.goto 12, 3) := by decide +kernel
theorem dX6_entry_12 : decode cX6_entry 12 = .ok (.iload_n 2, 1) := by decide +kernel
theorem dX6_entry_13 : decode cX6_entry 13 = .ok (.ifCond .ge 7, 3) := by decide +kernel
theorem dX6_entry_16 : decode cX6_entry 16 = .ok (.iconst 2, 1) := by decide +kernel
theorem dX6_entry_17 : decode cX6_entry 17 = .ok (.goto 4, 3) := by decide +kernel
theorem dX6_entry_20 : decode cX6_entry 20 = .ok (.iconst 0, 1) := by decide +kernel
theorem dX6_entry_21 : decode cX6_entry 21 = .ok (.invokevirtual 118, 3) := by decide +kernel
theorem dX6_entry_24 : decode cX6_entry 24 = .ok (.ifCond .eq 5, 3) := by decide +kernel
theorem dX6_entry_27 : decode cX6_entry 27 = .ok (.iconst 0, 1) := by decide +kernel
theorem dX6_entry_28 : decode cX6_entry 28 = .ok (.ireturn, 1) := by decide +kernel
theorem dX6_entry_29 : decode cX6_entry 29 = .ok (.aload_n 0, 1) := by decide +kernel
theorem dX6_entry_30 : decode cX6_entry 30 = .ok (.getfield 16, 3) := by decide +kernel
theorem dX6_entry_33 : decode cX6_entry 33 = .ok (.iload_n 1, 1) := by decide +kernel
theorem dX6_entry_34 : decode cX6_entry 34 = .ok (.iconst 1, 1) := by decide +kernel
theorem dX6_entry_35 : decode cX6_entry 35 = .ok (.invokestatic 65, 3) := by decide +kernel
theorem dX6_entry_38 : decode cX6_entry 38 = .ok (.iaload, 1) := by decide +kernel
theorem dX6_entry_39 : decode cX6_entry 39 = .ok (.istore_n 3, 1) := by decide +kernel
theorem dX6_entry_40 : decode cX6_entry 40 = .ok (.iload_n 2, 1) := by decide +kernel
theorem dX6_entry_41 : decode cX6_entry 41 = .ok (.iload_n 3, 1) := by decide +kernel
theorem dX6_entry_42 : decode cX6_entry 42 = .ok (.if_icmp .ge 23, 3) := by decide +kernel
theorem dX6_entry_45 : decode cX6_entry 45 = .ok (.aload_n 0, 1) := by decide +kernel
theorem dX6_entry_46 : decode cX6_entry 46 = .ok (.getfield 16, 3) := by decide +kernel
theorem dX6_entry_49 : decode cX6_entry 49 = .ok (.iload_n 1, 1) := by decide +kernel
theorem dX6_entry_50 : decode cX6_entry 50 = .ok (.bipush 70, 2) := by decide +kernel
theorem dX6_entry_52 : decode cX6_entry 52 = .ok (.iload_n 3, 1) := by decide +kernel
theorem dX6_entry_53 : decode cX6_entry 53 = .ok (.iadd, 1) := by decide +kernel
theorem dX6_entry_54 : decode cX6_entry 54 = .ok (.iconst 1, 1) := by decide +kernel
theorem dX6_entry_55 : decode cX6_entry 55 = .ok (.isub, 1) := by decide +kernel
theorem dX6_entry_56 : decode cX6_entry 56 = .ok (.iload_n 2, 1) := by decide +kernel
theorem dX6_entry_57 : decode cX6_entry 57 = .ok (.isub, 1) := by decide +kernel
theorem dX6_entry_58 : decode cX6_entry 58 = .ok (.invokestatic 65, 3) := by decide +kernel
theorem dX6_entry_61 : decode cX6_entry 61 = .ok (.iaload, 1) := by decide +kernel
theorem dX6_entry_62 : decode cX6_entry 62 = .ok (.goto 4, 3) := by decide +kernel
theorem dX6_entry_65 : decode cX6_entry 65 = .ok (.iconst (-1), 1) := by decide +kernel
theorem dX6_entry_66 : decode cX6_entry 66 = .ok (.ireturn, 1) := by decide +kernel
theorem dX6_begin_0 : decode cX6_begin 0 = .ok (.iload_n 1, 1) := by decide +kernel
theorem dX6_begin_1 : decode cX6_begin 1 = .ok (.invokestatic 232, 3) := by decide +kernel
theorem dX6_begin_4 : decode cX6_begin 4 = .ok (.istore_n 2, 1) := by decide +kernel
theorem dX6_begin_5 : decode cX6_begin 5 = .ok (.aload_n 0, 1) := by decide +kernel
theorem dX6_begin_6 : decode cX6_begin 6 = .ok (.iload_n 2, 1) := by decide +kernel
theorem dX6_begin_7 : decode cX6_begin 7 = .ok (.ifCond .ne 7, 3) := by decide +kernel
theorem dX6_begin_10 : decode cX6_begin 10 = .ok (.iconst 1, 1) := by decide +kernel
theorem dX6_begin_11 : decode cX6_begin 11 = .ok (.goto 19, 3) := by decide +kernel
theorem dX6_begin_14 : decode cX6_begin 14 = .ok (.aload_n 0, 1) := by decide +kernel
theorem dX6_begin_15 : decode cX6_begin 15 = .ok (.getfield 16, 3) := by decide +kernel
theorem dX6_begin_18 : decode cX6_begin 18 = .ok (.iload_n 1, 1) := by decide +kernel
theorem dX6_begin_19 : decode cX6_begin 19 = .ok (.invokestatic 169, 3) := by decide +kernel
theorem dX6_begin_22 : decode cX6_begin 22 = .ok (.ifCond .eq 7, 3) := by decide +kernel
theorem dX6_begin_25 : decode cX6_begin 25 = .ok (.iconst 0, 1) := by decide +kernel
theorem dX6_begin_26 : decode cX6_begin 26 = .ok (.goto 4, 3) := by decide +kernel
theorem dX6_begin_29 : decode cX6_begin 29 = .ok (.iconst 2, 1) := by decide +kernel
theorem dX6_begin_30 : decode cX6_begin 30 = .ok (.invokevirtual 118, 3) := by decide +kernel
theorem dX6_begin_33 : decode cX6_begin 33 = .ok (.ifCond .eq 5, 3) := by decide +kernel
theorem dX6_begin_36 : decode cX6_begin 36 = .ok (.iconst 0, 1) := by decide +kernel
theorem dX6_begin_37 : decode cX6_begin 37 = .ok (.ireturn, 1) := by decide +kernel
theorem dX6_begin_38 : decode cX6_begin 38 = .ok (.aload_n 0, 1) := by decide +kernel
theorem dX6_begin_39 : decode cX6_begin 39 = .ok (.invokevirtual 239, 3) := by decide +kernel
theorem dX6_begin_42 : decode cX6_begin 42 = .ok (.aload_n 0, 1) := by decide +kernel
theorem dX6_begin_43 : decode cX6_begin 43 = .ok (.getfield 16, 3) := by decide +kernel
theorem dX6_begin_46 : decode cX6_begin 46 = .ok (.iload_n 1, 1) := by decide +kernel
theorem dX6_begin_47 : decode cX6_begin 47 = .ok (.invokestatic 175, 3) := by decide +kernel
theorem dX6_begin_50 : decode cX6_begin 50 = .ok (.aload_n 0, 1) := by decide +kernel
theorem dX6_begin_51 : decode cX6_begin 51 = .ok (.getfield 16, 3) := by decide +kernel
theorem dX6_begin_54 : decode cX6_begin 54 = .ok (.iload_n 1, 1) := by decide +kernel
theorem dX6_begin_55 : decode cX6_begin 55 = .ok (.invokestatic 69, 3) := by decide +kernel
theorem dX6_begin_58 : decode cX6_begin 58 = .ok (.ireturn, 1) := by decide +kernel
theorem dX6_write_0 : decode cX6_write 0 = .ok (.iload_n 1, 1) := by decide +kernel
theorem dX6_write_1 : decode cX6_write 1 = .ok (.invokestatic 232, 3) := by decide +kernel
theorem dX6_write_4 : decode cX6_write 4 = .ok (.ifCond .eq 14, 3) := by decide +kernel
theorem dX6_write_7 : decode cX6_write 7 = .ok (.iload_n 2, 1) := by decide +kernel
theorem dX6_write_8 : decode cX6_write 8 = .ok (.invokestatic 226, 3) := by decide +kernel
theorem dX6_write_11 : decode cX6_write 11 = .ok (.ifCond .eq 7, 3) := by decide +kernel
theorem dX6_write_14 : decode cX6_write 14 = .ok (.iconst 1, 1) := by decide +kernel
theorem dX6_write_15 : decode cX6_write 15 = .ok (.goto 4, 3) := by decide +kernel
theorem dX6_write_18 : decode cX6_write 18 = .ok (.iconst 0, 1) := by decide +kernel
theorem dX6_write_19 : decode cX6_write 19 = .ok (.istore 4, 2) := by decide +kernel
theorem dX6_write_21 : decode cX6_write 21 = .ok (.aload_n 0, 1) := by decide +kernel
theorem dX6_write_22 : decode cX6_write 22 = .ok (.iload 4, 2) := by decide +kernel
theorem dX6_write_24 : decode cX6_write 24 = .ok (.ifCond .ne 7, 3) := by decide +kernel
theorem dX6_write_27 : decode cX6_write 27 = .ok (.iconst 1, 1) := by decide +kernel
theorem dX6_write_28 : decode cX6_write 28 = .ok (.goto 36, 3) := by decide +kernel
theorem dX6_write_31 : decode cX6_write 31 = .ok (.iload_n 3, 1) := by decide +kernel
theorem dX6_write_32 : decode cX6_write 32 = .ok (.i2l, 1) := by decide +kernel
theorem dX6_write_33 : decode cX6_write 33 = .ok (.lconst 0, 1) := by decide +kernel
theorem dX6_write_34 : decode cX6_write 34 = .ok (.ldc2_w 242, 3) := by decide +kernel
theorem dX6_write_37 : decode cX6_write 37 = .ok (.invokestatic 92, 3) := by decide +kernel
theorem dX6_write_40 : decode cX6_write 40 = .ok (.ifCond .ne 7, 3) := by decide +kernel
theorem dX6_write_43 : decode cX6_write 43 = .ok (.iconst 2, 1) := by decide +kernel
theorem dX6_write_44 : decode cX6_write 44 = .ok (.goto 20, 3) := by decide +kernel
theorem dX6_write_47 : decode cX6_write 47 = .ok (.aload_n 0, 1) := by decide +kernel
theorem dX6_write_48 : decode cX6_write 48 = .ok (.getfield 16, 3) := by decide +kernel
theorem dX6_write_51 : decode cX6_write 51 = .ok (.iload_n 1, 1) := by decide +kernel
theorem dX6_write_52 : decode cX6_write 52 = .ok (.iload_n 2, 1) := by decide +kernel
theorem dX6_write_53 : decode cX6_write 53 = .ok (.invokestatic 99, 3) := by decide +kernel
theorem dX6_write_56 : decode cX6_write 56 = .ok (.ifCond .ne 7, 3) := by decide +kernel
theorem dX6_write_59 : decode cX6_write 59 = .ok (.iconst 0, 1) := by decide +kernel
theorem dX6_write_60 : decode cX6_write 60 = .ok (.goto 4, 3) := by decide +kernel
theorem dX6_write_63 : decode cX6_write 63 = .ok (.iconst 3, 1) := by decide +kernel
theorem dX6_write_64 : decode cX6_write 64 = .ok (.invokevirtual 118, 3) := by decide +kernel
theorem dX6_write_67 : decode cX6_write 67 = .ok (.ifCond .eq 5, 3) := by decide +kernel
theorem dX6_write_70 : decode cX6_write 70 = .ok (.iconst 0, 1) := by decide +kernel
theorem dX6_write_71 : decode cX6_write 71 = .ok (.ireturn, 1) := by decide +kernel
theorem dX6_write_72 : decode cX6_write 72 = .ok (.aload_n 0, 1) := by decide +kernel
theorem dX6_write_73 : decode cX6_write 73 = .ok (.invokevirtual 239, 3) := by decide +kernel
theorem dX6_write_76 : decode cX6_write 76 = .ok (.aload_n 0, 1) := by decide +kernel
theorem dX6_write_77 : decode cX6_write 77 = .ok (.getfield 16, 3) := by decide +kernel
theorem dX6_write_80 : decode cX6_write 80 = .ok (.iload_n 1, 1) := by decide +kernel
theorem dX6_write_81 : decode cX6_write 81 = .ok (.iload_n 2, 1) := by decide +kernel
theorem dX6_write_82 : decode cX6_write 82 = .ok (.iload_n 3, 1) := by decide +kernel
theorem dX6_write_83 : decode cX6_write 83 = .ok (.invokestatic 152, 3) := by decide +kernel
theorem dX6_write_86 : decode cX6_write 86 = .ok (.ireturn, 1) := by decide +kernel
theorem dX6_point_0 : decode cX6_point 0 = .ok (.iload_n 1, 1) := by decide +kernel
theorem dX6_point_1 : decode cX6_point 1 = .ok (.invokestatic 232, 3) := by decide +kernel
theorem dX6_point_4 : decode cX6_point 4 = .ok (.istore_n 2, 1) := by decide +kernel
theorem dX6_point_5 : decode cX6_point 5 = .ok (.aload_n 0, 1) := by decide +kernel
theorem dX6_point_6 : decode cX6_point 6 = .ok (.iload_n 2, 1) := by decide +kernel
theorem dX6_point_7 : decode cX6_point 7 = .ok (.ifCond .ne 7, 3) := by decide +kernel
theorem dX6_point_10 : decode cX6_point 10 = .ok (.iconst 1, 1) := by decide +kernel
theorem dX6_point_11 : decode cX6_point 11 = .ok (.goto 19, 3) := by decide +kernel
theorem dX6_point_14 : decode cX6_point 14 = .ok (.aload_n 0, 1) := by decide +kernel
theorem dX6_point_15 : decode cX6_point 15 = .ok (.getfield 16, 3) := by decide +kernel
theorem dX6_point_18 : decode cX6_point 18 = .ok (.iload_n 1, 1) := by decide +kernel
theorem dX6_point_19 : decode cX6_point 19 = .ok (.invokestatic 172, 3) := by decide +kernel
theorem dX6_point_22 : decode cX6_point 22 = .ok (.ifCond .eq 7, 3) := by decide +kernel
theorem dX6_point_25 : decode cX6_point 25 = .ok (.iconst 0, 1) := by decide +kernel
theorem dX6_point_26 : decode cX6_point 26 = .ok (.goto 4, 3) := by decide +kernel
theorem dX6_point_29 : decode cX6_point 29 = .ok (.iconst 2, 1) := by decide +kernel
theorem dX6_point_30 : decode cX6_point 30 = .ok (.invokevirtual 118, 3) := by decide +kernel
theorem dX6_point_33 : decode cX6_point 33 = .ok (.ifCond .eq 5, 3) := by decide +kernel
theorem dX6_point_36 : decode cX6_point 36 = .ok (.iconst 0, 1) := by decide +kernel
theorem dX6_point_37 : decode cX6_point 37 = .ok (.ireturn, 1) := by decide +kernel
theorem dX6_point_38 : decode cX6_point 38 = .ok (.aload_n 0, 1) := by decide +kernel
theorem dX6_point_39 : decode cX6_point 39 = .ok (.invokevirtual 239, 3) := by decide +kernel
theorem dX6_point_42 : decode cX6_point 42 = .ok (.aload_n 0, 1) := by decide +kernel
theorem dX6_point_43 : decode cX6_point 43 = .ok (.getfield 16, 3) := by decide +kernel
theorem dX6_point_46 : decode cX6_point 46 = .ok (.iload_n 1, 1) := by decide +kernel
theorem dX6_point_47 : decode cX6_point 47 = .ok (.invokestatic 178, 3) := by decide +kernel
theorem dX6_point_50 : decode cX6_point 50 = .ok (.ireturn, 1) := by decide +kernel
theorem dX6_back_0 : decode cX6_back 0 = .ok (.iload_n 1, 1) := by decide +kernel
theorem dX6_back_1 : decode cX6_back 1 = .ok (.invokestatic 232, 3) := by decide +kernel
theorem dX6_back_4 : decode cX6_back 4 = .ok (.ifCond .eq 19, 3) := by decide +kernel
theorem dX6_back_7 : decode cX6_back 7 = .ok (.aload_n 0, 1) := by decide +kernel
theorem dX6_back_8 : decode cX6_back 8 = .ok (.getfield 16, 3) := by decide +kernel
theorem dX6_back_11 : decode cX6_back 11 = .ok (.iload_n 1, 1) := by decide +kernel
theorem dX6_back_12 : decode cX6_back 12 = .ok (.iload_n 2, 1) := by decide +kernel
theorem dX6_back_13 : decode cX6_back 13 = .ok (.invokestatic 163, 3) := by decide +kernel
theorem dX6_back_16 : decode cX6_back 16 = .ok (.ifCond .eq 7, 3) := by decide +kernel
theorem dX6_back_19 : decode cX6_back 19 = .ok (.iconst 1, 1) := by decide +kernel
theorem dX6_back_20 : decode cX6_back 20 = .ok (.goto 4, 3) := by decide +kernel
theorem dX6_back_23 : decode cX6_back 23 = .ok (.iconst 0, 1) := by decide +kernel
theorem dX6_back_24 : decode cX6_back 24 = .ok (.istore_n 3, 1) := by decide +kernel
theorem dX6_back_25 : decode cX6_back 25 = .ok (.aload_n 0, 1) := by decide +kernel
theorem dX6_back_26 : decode cX6_back 26 = .ok (.iload_n 3, 1) := by decide +kernel
theorem dX6_back_27 : decode cX6_back 27 = .ok (.ifCond .ne 7, 3) := by decide +kernel
theorem dX6_back_30 : decode cX6_back 30 = .ok (.iconst 1, 1) := by decide +kernel
theorem dX6_back_31 : decode cX6_back 31 = .ok (.goto 19, 3) := by decide +kernel
theorem dX6_back_34 : decode cX6_back 34 = .ok (.aload_n 0, 1) := by decide +kernel
theorem dX6_back_35 : decode cX6_back 35 = .ok (.getfield 16, 3) := by decide +kernel
theorem dX6_back_38 : decode cX6_back 38 = .ok (.iload_n 1, 1) := by decide +kernel
theorem dX6_back_39 : decode cX6_back 39 = .ok (.invokestatic 81, 3) := by decide +kernel
theorem dX6_back_42 : decode cX6_back 42 = .ok (.ifCond .eq 7, 3) := by decide +kernel
theorem dX6_back_45 : decode cX6_back 45 = .ok (.iconst 2, 1) := by decide +kernel
theorem dX6_back_46 : decode cX6_back 46 = .ok (.goto 4, 3) := by decide +kernel
theorem dX6_back_49 : decode cX6_back 49 = .ok (.iconst 0, 1) := by decide +kernel
theorem dX6_back_50 : decode cX6_back 50 = .ok (.invokevirtual 118, 3) := by decide +kernel
theorem dX6_back_53 : decode cX6_back 53 = .ok (.ifCond .eq 5, 3) := by decide +kernel
theorem dX6_back_56 : decode cX6_back 56 = .ok (.iconst 0, 1) := by decide +kernel
theorem dX6_back_57 : decode cX6_back 57 = .ok (.ireturn, 1) := by decide +kernel
theorem dX6_back_58 : decode cX6_back 58 = .ok (.aload_n 0, 1) := by decide +kernel
theorem dX6_back_59 : decode cX6_back 59 = .ok (.invokevirtual 239, 3) := by decide +kernel
theorem dX6_back_62 : decode cX6_back 62 = .ok (.aload_n 0, 1) := by decide +kernel
theorem dX6_back_63 : decode cX6_back 63 = .ok (.getfield 16, 3) := by decide +kernel
theorem dX6_back_66 : decode cX6_back 66 = .ok (.iload_n 1, 1) := by decide +kernel
theorem dX6_back_67 : decode cX6_back 67 = .ok (.iload_n 2, 1) := by decide +kernel
theorem dX6_back_68 : decode cX6_back 68 = .ok (.invokestatic 166, 3) := by decide +kernel
theorem dX6_back_71 : decode cX6_back 71 = .ok (.ireturn, 1) := by decide +kernel
theorem dX6_regret_0 : decode cX6_regret 0 = .ok (.iload_n 1, 1) := by decide +kernel
theorem dX6_regret_1 : decode cX6_regret 1 = .ok (.invokestatic 232, 3) := by decide +kernel
theorem dX6_regret_4 : decode cX6_regret 4 = .ok (.ifCond .eq 14, 3) := by decide +kernel
theorem dX6_regret_7 : decode cX6_regret 7 = .ok (.iload_n 2, 1) := by decide +kernel
theorem dX6_regret_8 : decode cX6_regret 8 = .ok (.invokestatic 226, 3) := by decide +kernel
theorem dX6_regret_11 : decode cX6_regret 11 = .ok (.ifCond .eq 7, 3) := by decide +kernel
theorem dX6_regret_14 : decode cX6_regret 14 = .ok (.iconst 1, 1) := by decide +kernel
theorem dX6_regret_15 : decode cX6_regret 15 = .ok (.goto 4, 3) := by decide +kernel
theorem dX6_regret_18 : decode cX6_regret 18 = .ok (.iconst 0, 1) := by decide +kernel
theorem dX6_regret_19 : decode cX6_regret 19 = .ok (.istore 4, 2) := by decide +kernel
theorem dX6_regret_21 : decode cX6_regret 21 = .ok (.aload_n 0, 1) := by decide +kernel
theorem dX6_regret_22 : decode cX6_regret 22 = .ok (.iload 4, 2) := by decide +kernel
theorem dX6_regret_24 : decode cX6_regret 24 = .ok (.ifCond .ne 7, 3) := by decide +kernel
theorem dX6_regret_27 : decode cX6_regret 27 = .ok (.iconst 1, 1) := by decide +kernel
theorem dX6_regret_28 : decode cX6_regret 28 = .ok (.goto 36, 3) := by decide +kernel
theorem dX6_regret_31 : decode cX6_regret 31 = .ok (.iload_n 3, 1) := by decide +kernel
theorem dX6_regret_32 : decode cX6_regret 32 = .ok (.i2l, 1) := by decide +kernel
theorem dX6_regret_33 : decode cX6_regret 33 = .ok (.lconst 1, 1) := by decide +kernel
theorem dX6_regret_34 : decode cX6_regret 34 = .ok (.ldc2_w 242, 3) := by decide +kernel
theorem dX6_regret_37 : decode cX6_regret 37 = .ok (.invokestatic 92, 3) := by decide +kernel
theorem dX6_regret_40 : decode cX6_regret 40 = .ok (.ifCond .ne 7, 3) := by decide +kernel
theorem dX6_regret_43 : decode cX6_regret 43 = .ok (.iconst 2, 1) := by decide +kernel
theorem dX6_regret_44 : decode cX6_regret 44 = .ok (.goto 20, 3) := by decide +kernel
theorem dX6_regret_47 : decode cX6_regret 47 = .ok (.aload_n 0, 1) := by decide +kernel
theorem dX6_regret_48 : decode cX6_regret 48 = .ok (.getfield 16, 3) := by decide +kernel
theorem dX6_regret_51 : decode cX6_regret 51 = .ok (.iload_n 1, 1) := by decide +kernel
theorem dX6_regret_52 : decode cX6_regret 52 = .ok (.iload_n 2, 1) := by decide +kernel
theorem dX6_regret_53 : decode cX6_regret 53 = .ok (.invokestatic 156, 3) := by decide +kernel
theorem dX6_regret_56 : decode cX6_regret 56 = .ok (.ifCond .eq 7, 3) := by decide +kernel
theorem dX6_regret_59 : decode cX6_regret 59 = .ok (.iconst 0, 1) := by decide +kernel
theorem dX6_regret_60 : decode cX6_regret 60 = .ok (.goto 4, 3) := by decide +kernel
theorem dX6_regret_63 : decode cX6_regret 63 = .ok (.iconst 3, 1) := by decide +kernel
theorem dX6_regret_64 : decode cX6_regret 64 = .ok (.invokevirtual 118, 3) := by decide +kernel
theorem dX6_regret_67 : decode cX6_regret 67 = .ok (.ifCond .eq 5, 3) := by decide +kernel
theorem dX6_regret_70 : decode cX6_regret 70 = .ok (.iconst 0, 1) := by decide +kernel
theorem dX6_regret_71 : decode cX6_regret 71 = .ok (.ireturn, 1) := by decide +kernel
theorem dX6_regret_72 : decode cX6_regret 72 = .ok (.aload_n 0, 1) := by decide +kernel
theorem dX6_regret_73 : decode cX6_regret 73 = .ok (.invokevirtual 239, 3) := by decide +kernel
theorem dX6_regret_76 : decode cX6_regret 76 = .ok (.aload_n 0, 1) := by decide +kernel
theorem dX6_regret_77 : decode cX6_regret 77 = .ok (.getfield 16, 3) := by decide +kernel
theorem dX6_regret_80 : decode cX6_regret 80 = .ok (.iload_n 1, 1) := by decide +kernel
theorem dX6_regret_81 : decode cX6_regret 81 = .ok (.iload_n 2, 1) := by decide +kernel
theorem dX6_regret_82 : decode cX6_regret 82 = .ok (.iload_n 3, 1) := by decide +kernel
theorem dX6_regret_83 : decode cX6_regret 83 = .ok (.invokestatic 160, 3) := by decide +kernel
theorem dX6_regret_86 : decode cX6_regret 86 = .ok (.ireturn, 1) := by decide +kernel
theorem dX6_done_0 : decode cX6_done 0 = .ok (.iload_n 1, 1) := by decide +kernel
theorem dX6_done_1 : decode cX6_done 1 = .ok (.invokestatic 232, 3) := by decide +kernel
theorem dX6_done_4 : decode cX6_done 4 = .ok (.istore_n 2, 1) := by decide +kernel
theorem dX6_done_5 : decode cX6_done 5 = .ok (.aload_n 0, 1) := by decide +kernel
theorem dX6_done_6 : decode cX6_done 6 = .ok (.iload_n 2, 1) := by decide +kernel
theorem dX6_done_7 : decode cX6_done 7 = .ok (.ifCond .ne 7, 3) := by decide +kernel
theorem dX6_done_10 : decode cX6_done 10 = .ok (.iconst 1, 1) := by decide +kernel
theorem dX6_done_11 : decode cX6_done 11 = .ok (.goto 19, 3) := by decide +kernel
theorem dX6_done_14 : decode cX6_done 14 = .ok (.aload_n 0, 1) := by decide +kernel
theorem dX6_done_15 : decode cX6_done 15 = .ok (.getfield 16, 3) := by decide +kernel
theorem dX6_done_18 : decode cX6_done 18 = .ok (.iload_n 1, 1) := by decide +kernel
theorem dX6_done_19 : decode cX6_done 19 = .ok (.invokestatic 89, 3) := by decide +kernel
theorem dX6_done_22 : decode cX6_done 22 = .ok (.ifCond .eq 7, 3) := by decide +kernel
theorem dX6_done_25 : decode cX6_done 25 = .ok (.iconst 0, 1) := by decide +kernel
theorem dX6_done_26 : decode cX6_done 26 = .ok (.goto 4, 3) := by decide +kernel
theorem dX6_done_29 : decode cX6_done 29 = .ok (.iconst 2, 1) := by decide +kernel
theorem dX6_done_30 : decode cX6_done 30 = .ok (.invokevirtual 118, 3) := by decide +kernel
theorem dX6_done_33 : decode cX6_done 33 = .ok (.ifCond .eq 5, 3) := by decide +kernel
theorem dX6_done_36 : decode cX6_done 36 = .ok (.iconst 0, 1) := by decide +kernel
theorem dX6_done_37 : decode cX6_done 37 = .ok (.ireturn, 1) := by decide +kernel
theorem dX6_done_38 : decode cX6_done 38 = .ok (.aload_n 0, 1) := by decide +kernel
theorem dX6_done_39 : decode cX6_done 39 = .ok (.invokevirtual 239, 3) := by decide +kernel
theorem dX6_done_42 : decode cX6_done 42 = .ok (.aload_n 0, 1) := by decide +kernel
theorem dX6_done_43 : decode cX6_done 43 = .ok (.getfield 16, 3) := by decide +kernel
theorem dX6_done_46 : decode cX6_done 46 = .ok (.iload_n 1, 1) := by decide +kernel
theorem dX6_done_47 : decode cX6_done 47 = .ok (.invokestatic 181, 3) := by decide +kernel
theorem dX6_done_50 : decode cX6_done 50 = .ok (.ireturn, 1) := by decide +kernel
theorem dX6_fail_0 : decode cX6_fail 0 = .ok (.iload_n 1, 1) := by decide +kernel
theorem dX6_fail_1 : decode cX6_fail 1 = .ok (.invokestatic 232, 3) := by decide +kernel
theorem dX6_fail_4 : decode cX6_fail 4 = .ok (.istore_n 2, 1) := by decide +kernel
theorem dX6_fail_5 : decode cX6_fail 5 = .ok (.aload_n 0, 1) := by decide +kernel
theorem dX6_fail_6 : decode cX6_fail 6 = .ok (.iload_n 2, 1) := by decide +kernel
theorem dX6_fail_7 : decode cX6_fail 7 = .ok (.ifCond .ne 7, 3) := by decide +kernel
theorem dX6_fail_10 : decode cX6_fail 10 = .ok (.iconst 1, 1) := by decide +kernel
theorem dX6_fail_11 : decode cX6_fail 11 = .ok (.goto 19, 3) := by decide +kernel
theorem dX6_fail_14 : decode cX6_fail 14 = .ok (.aload_n 0, 1) := by decide +kernel
theorem dX6_fail_15 : decode cX6_fail 15 = .ok (.getfield 16, 3) := by decide +kernel
theorem dX6_fail_18 : decode cX6_fail 18 = .ok (.iload_n 1, 1) := by decide +kernel
theorem dX6_fail_19 : decode cX6_fail 19 = .ok (.invokestatic 69, 3) := by decide +kernel
theorem dX6_fail_22 : decode cX6_fail 22 = .ok (.ifCond .le 7, 3) := by decide +kernel
theorem dX6_fail_25 : decode cX6_fail 25 = .ok (.iconst 0, 1) := by decide +kernel
theorem dX6_fail_26 : decode cX6_fail 26 = .ok (.goto 4, 3) := by decide +kernel
theorem dX6_fail_29 : decode cX6_fail 29 = .ok (.iconst 2, 1) := by decide +kernel
theorem dX6_fail_30 : decode cX6_fail 30 = .ok (.invokevirtual 118, 3) := by decide +kernel
theorem dX6_fail_33 : decode cX6_fail 33 = .ok (.ifCond .eq 5, 3) := by decide +kernel
theorem dX6_fail_36 : decode cX6_fail 36 = .ok (.iconst 0, 1) := by decide +kernel
theorem dX6_fail_37 : decode cX6_fail 37 = .ok (.ireturn, 1) := by decide +kernel
theorem dX6_fail_38 : decode cX6_fail 38 = .ok (.aload_n 0, 1) := by decide +kernel
theorem dX6_fail_39 : decode cX6_fail 39 = .ok (.invokevirtual 239, 3) := by decide +kernel
theorem dX6_fail_42 : decode cX6_fail 42 = .ok (.aload_n 0, 1) := by decide +kernel
theorem dX6_fail_43 : decode cX6_fail 43 = .ok (.getfield 16, 3) := by decide +kernel
theorem dX6_fail_46 : decode cX6_fail 46 = .ok (.iload_n 1, 1) := by decide +kernel
theorem dX6_fail_47 : decode cX6_fail 47 = .ok (.invokestatic 184, 3) := by decide +kernel
theorem dX6_fail_50 : decode cX6_fail 50 = .ok (.ireturn, 1) := by decide +kernel
theorem dX6_setMercy_0 : decode cX6_setMercy 0 = .ok (.aload_n 0, 1) := by decide +kernel
theorem dX6_setMercy_1 : decode cX6_setMercy 1 = .ok (.iload_n 1, 1) := by decide +kernel
theorem dX6_setMercy_2 : decode cX6_setMercy 2 = .ok (.i2l, 1) := by decide +kernel
theorem dX6_setMercy_3 : decode cX6_setMercy 3 = .ok (.lconst 0, 1) := by decide +kernel
theorem dX6_setMercy_4 : decode cX6_setMercy 4 = .ok (.ldc2_w 244, 3) := by decide +kernel
theorem dX6_setMercy_7 : decode cX6_setMercy 7 = .ok (.invokestatic 92, 3) := by decide +kernel
theorem dX6_setMercy_10 : decode cX6_setMercy 10 = .ok (.ifCond .eq 7, 3) := by decide +kernel
theorem dX6_setMercy_13 : decode cX6_setMercy 13 = .ok (.iconst 0, 1) := by decide +kernel
theorem dX6_setMercy_14 : decode cX6_setMercy 14 = .ok (.goto 4, 3) := by decide +kernel
theorem dX6_setMercy_17 : decode cX6_setMercy 17 = .ok (.iconst 1, 1) := by decide +kernel
theorem dX6_setMercy_18 : decode cX6_setMercy 18 = .ok (.invokevirtual 118, 3) := by decide +kernel
theorem dX6_setMercy_21 : decode cX6_setMercy 21 = .ok (.ifCond .eq 5, 3) := by decide +kernel
theorem dX6_setMercy_24 : decode cX6_setMercy 24 = .ok (.iconst 0, 1) := by decide +kernel
theorem dX6_setMercy_25 : decode cX6_setMercy 25 = .ok (.ireturn, 1) := by decide +kernel
theorem dX6_setMercy_26 : decode cX6_setMercy 26 = .ok (.aload_n 0, 1) := by decide +kernel
theorem dX6_setMercy_27 : decode cX6_setMercy 27 = .ok (.invokevirtual 239, 3) := by decide +kernel
theorem dX6_setMercy_30 : decode cX6_setMercy 30 = .ok (.aload_n 0, 1) := by decide +kernel
theorem dX6_setMercy_31 : decode cX6_setMercy 31 = .ok (.getfield 16, 3) := by decide +kernel
theorem dX6_setMercy_34 : decode cX6_setMercy 34 = .ok (.bipush 32, 2) := by decide +kernel
theorem dX6_setMercy_36 : decode cX6_setMercy 36 = .ok (.iaload, 1) := by decide +kernel
theorem dX6_setMercy_37 : decode cX6_setMercy 37 = .ok (.istore_n 2, 1) := by decide +kernel
theorem dX6_setMercy_38 : decode cX6_setMercy 38 = .ok (.aload_n 0, 1) := by decide +kernel
theorem dX6_setMercy_39 : decode cX6_setMercy 39 = .ok (.getfield 16, 3) := by decide +kernel
theorem dX6_setMercy_42 : decode cX6_setMercy 42 = .ok (.bipush 32, 2) := by decide +kernel
theorem dX6_setMercy_44 : decode cX6_setMercy 44 = .ok (.iload_n 1, 1) := by decide +kernel
theorem dX6_setMercy_45 : decode cX6_setMercy 45 = .ok (.iastore, 1) := by decide +kernel
theorem dX6_setMercy_46 : decode cX6_setMercy 46 = .ok (.iload_n 2, 1) := by decide +kernel
theorem dX6_setMercy_47 : decode cX6_setMercy 47 = .ok (.ireturn, 1) := by decide +kernel
theorem dX6_undo_0 : decode cX6_undo 0 = .ok (.aload_n 0, 1) := by decide +kernel
theorem dX6_undo_1 : decode cX6_undo 1 = .ok (.aload_n 0, 1) := by decide +kernel
theorem dX6_undo_2 : decode cX6_undo 2 = .ok (.getfield 58, 3) := by decide +kernel
theorem dX6_undo_5 : decode cX6_undo 5 = .ok (.ifCond .ne 7, 3) := by decide +kernel
theorem dX6_undo_8 : decode cX6_undo 8 = .ok (.iconst 1, 1) := by decide +kernel
theorem dX6_undo_9 : decode cX6_undo 9 = .ok (.goto 4, 3) := by decide +kernel
theorem dX6_undo_12 : decode cX6_undo 12 = .ok (.iconst 0, 1) := by decide +kernel
theorem dX6_undo_13 : decode cX6_undo 13 = .ok (.invokevirtual 118, 3) := by decide +kernel
theorem dX6_undo_16 : decode cX6_undo 16 = .ok (.ifCond .eq 5, 3) := by decide +kernel
theorem dX6_undo_19 : decode cX6_undo 19 = .ok (.iconst 0, 1) := by decide +kernel
theorem dX6_undo_20 : decode cX6_undo 20 = .ok (.ireturn, 1) := by decide +kernel
theorem dX6_undo_21 : decode cX6_undo 21 = .ok (.aload_n 0, 1) := by decide +kernel
theorem dX6_undo_22 : decode cX6_undo 22 = .ok (.dup, 1) := by decide +kernel
theorem dX6_undo_23 : decode cX6_undo 23 = .ok (.getfield 58, 3) := by decide +kernel
theorem dX6_undo_26 : decode cX6_undo 26 = .ok (.iconst 1, 1) := by decide +kernel
theorem dX6_undo_27 : decode cX6_undo 27 = .ok (.isub, 1) := by decide +kernel
theorem dX6_undo_28 : decode cX6_undo 28 = .ok (.putfield 58, 3) := by decide +kernel
theorem dX6_undo_31 : decode cX6_undo 31 = .ok (.aload_n 0, 1) := by decide +kernel
theorem dX6_undo_32 : decode cX6_undo 32 = .ok (.aload_n 0, 1) := by decide +kernel
theorem dX6_undo_33 : decode cX6_undo 33 = .ok (.getfield 58, 3) := by decide +kernel
theorem dX6_undo_36 : decode cX6_undo 36 = .ok (.invokevirtual 246, 3) := by decide +kernel
theorem dX6_undo_39 : decode cX6_undo 39 = .ok (.aload_n 0, 1) := by decide +kernel
theorem dX6_undo_40 : decode cX6_undo 40 = .ok (.getfield 58, 3) := by decide +kernel
theorem dX6_undo_43 : decode cX6_undo 43 = .ok (.ireturn, 1) := by decide +kernel
theorem dX6_whyNot_0 : decode cX6_whyNot 0 = .ok (.iload_n 1, 1) := by decide +kernel
theorem dX6_whyNot_1 : decode cX6_whyNot 1 = .ok (.invokestatic 232, 3) := by decide +kernel
theorem dX6_whyNot_4 : decode cX6_whyNot 4 = .ok (.ifCond .eq 14, 3) := by decide +kernel
theorem dX6_whyNot_7 : decode cX6_whyNot 7 = .ok (.iload_n 2, 1) := by decide +kernel
theorem dX6_whyNot_8 : decode cX6_whyNot 8 = .ok (.invokestatic 226, 3) := by decide +kernel
theorem dX6_whyNot_11 : decode cX6_whyNot 11 = .ok (.ifCond .eq 7, 3) := by decide +kernel
theorem dX6_whyNot_14 : decode cX6_whyNot 14 = .ok (.iconst 1, 1) := by decide +kernel
theorem dX6_whyNot_15 : decode cX6_whyNot 15 = .ok (.goto 4, 3) := by decide +kernel
theorem dX6_whyNot_18 : decode cX6_whyNot 18 = .ok (.iconst 0, 1) := by decide +kernel
theorem dX6_whyNot_19 : decode cX6_whyNot 19 = .ok (.istore_n 3, 1) := by decide +kernel
theorem dX6_whyNot_20 : decode cX6_whyNot 20 = .ok (.aload_n 0, 1) := by decide +kernel
theorem dX6_whyNot_21 : decode cX6_whyNot 21 = .ok (.iload_n 3, 1) := by decide +kernel
theorem dX6_whyNot_22 : decode cX6_whyNot 22 = .ok (.ifCond .eq 7, 3) := by decide +kernel
theorem dX6_whyNot_25 : decode cX6_whyNot 25 = .ok (.iconst 0, 1) := by decide +kernel
theorem dX6_whyNot_26 : decode cX6_whyNot 26 = .ok (.goto 4, 3) := by decide +kernel
theorem dX6_whyNot_29 : decode cX6_whyNot 29 = .ok (.iconst 1, 1) := by decide +kernel
theorem dX6_whyNot_30 : decode cX6_whyNot 30 = .ok (.invokevirtual 118, 3) := by decide +kernel
theorem dX6_whyNot_33 : decode cX6_whyNot 33 = .ok (.ifCond .eq 7, 3) := by decide +kernel
theorem dX6_whyNot_36 : decode cX6_whyNot 36 = .ok (.iconst 0, 1) := by decide +kernel
theorem dX6_whyNot_37 : decode cX6_whyNot 37 = .ok (.goto 12, 3) := by decide +kernel
theorem dX6_whyNot_40 : decode cX6_whyNot 40 = .ok (.aload_n 0, 1) := by decide +kernel
theorem dX6_whyNot_41 : decode cX6_whyNot 41 = .ok (.getfield 16, 3) := by decide +kernel
theorem dX6_whyNot_44 : decode cX6_whyNot 44 = .ok (.iload_n 1, 1) := by decide +kernel
theorem dX6_whyNot_45 : decode cX6_whyNot 45 = .ok (.iload_n 2, 1) := by decide +kernel
theorem dX6_whyNot_46 : decode cX6_whyNot 46 = .ok (.invokestatic 99, 3) := by decide +kernel
theorem dX6_whyNot_49 : decode cX6_whyNot 49 = .ok (.ireturn, 1) := by decide +kernel
theorem dX6_failed_0 : decode cX6_failed 0 = .ok (.iload_n 1, 1) := by decide +kernel
theorem dX6_failed_1 : decode cX6_failed 1 = .ok (.invokestatic 232, 3) := by decide +kernel
theorem dX6_failed_4 : decode cX6_failed 4 = .ok (.ifCond .eq 14, 3) := by decide +kernel
theorem dX6_failed_7 : decode cX6_failed 7 = .ok (.iload_n 2, 1) := by decide +kernel
theorem dX6_failed_8 : decode cX6_failed 8 = .ok (.invokestatic 226, 3) := by decide +kernel
theorem dX6_failed_11 : decode cX6_failed 11 = .ok (.ifCond .eq 7, 3) := by decide +kernel
theorem dX6_failed_14 : decode cX6_failed 14 = .ok (.iconst 1, 1) := by decide +kernel
theorem dX6_failed_15 : decode cX6_failed 15 = .ok (.goto 4, 3) := by decide +kernel
theorem dX6_failed_18 : decode cX6_failed 18 = .ok (.iconst 0, 1) := by decide +kernel
theorem dX6_failed_19 : decode cX6_failed 19 = .ok (.istore 4, 2) := by decide +kernel
theorem dX6_failed_21 : decode cX6_failed 21 = .ok (.aload_n 0, 1) := by decide +kernel
theorem dX6_failed_22 : decode cX6_failed 22 = .ok (.iload 4, 2) := by decide +kernel
theorem dX6_failed_24 : decode cX6_failed 24 = .ok (.ifCond .ne 7, 3) := by decide +kernel
theorem dX6_failed_27 : decode cX6_failed 27 = .ok (.iconst 1, 1) := by decide +kernel
theorem dX6_failed_28 : decode cX6_failed 28 = .ok (.goto 20, 3) := by decide +kernel
theorem dX6_failed_31 : decode cX6_failed 31 = .ok (.iload_n 3, 1) := by decide +kernel
theorem dX6_failed_32 : decode cX6_failed 32 = .ok (.i2l, 1) := by decide +kernel
theorem dX6_failed_33 : decode cX6_failed 33 = .ok (.lconst 0, 1) := by decide +kernel
theorem dX6_failed_34 : decode cX6_failed 34 = .ok (.ldc2_w 235, 3) := by decide +kernel
theorem dX6_failed_37 : decode cX6_failed 37 = .ok (.invokestatic 92, 3) := by decide +kernel
theorem dX6_failed_40 : decode cX6_failed 40 = .ok (.ifCond .eq 7, 3) := by decide +kernel
theorem dX6_failed_43 : decode cX6_failed 43 = .ok (.iconst 0, 1) := by decide +kernel
theorem dX6_failed_44 : decode cX6_failed 44 = .ok (.goto 4, 3) := by decide +kernel
theorem dX6_failed_47 : decode cX6_failed 47 = .ok (.iconst 2, 1) := by decide +kernel
theorem dX6_failed_48 : decode cX6_failed 48 = .ok (.invokevirtual 118, 3) := by decide +kernel
theorem dX6_failed_51 : decode cX6_failed 51 = .ok (.ifCond .eq 5, 3) := by decide +kernel
theorem dX6_failed_54 : decode cX6_failed 54 = .ok (.iconst 0, 1) := by decide +kernel
theorem dX6_failed_55 : decode cX6_failed 55 = .ok (.ireturn, 1) := by decide +kernel
theorem dX6_failed_56 : decode cX6_failed 56 = .ok (.aload_n 0, 1) := by decide +kernel
theorem dX6_failed_57 : decode cX6_failed 57 = .ok (.invokevirtual 249, 3) := by decide +kernel
theorem dX6_failed_60 : decode cX6_failed 60 = .ok (.iconst 0, 1) := by decide +kernel
theorem dX6_failed_61 : decode cX6_failed 61 = .ok (.istore 5, 2) := by decide +kernel
theorem dX6_failed_63 : decode cX6_failed 63 = .ok (.iload 5, 2) := by decide +kernel
theorem dX6_failed_65 : decode cX6_failed 65 = .ok (.iload_n 3, 1) := by decide +kernel
theorem dX6_failed_66 : decode cX6_failed 66 = .ok (.if_icmp .ge 29, 3) := by decide +kernel
theorem dX6_failed_69 : decode cX6_failed 69 = .ok (.aload_n 0, 1) := by decide +kernel
theorem dX6_failed_70 : decode cX6_failed 70 = .ok (.getfield 19, 3) := by decide +kernel
theorem dX6_failed_73 : decode cX6_failed 73 = .ok (.iload_n 1, 1) := by decide +kernel
theorem dX6_failed_74 : decode cX6_failed 74 = .ok (.invokestatic 69, 3) := by decide +kernel
theorem dX6_failed_77 : decode cX6_failed 77 = .ok (.ifCond .le 18, 3) := by decide +kernel
theorem dX6_failed_80 : decode cX6_failed 80 = .ok (.aload_n 0, 1) := by decide +kernel
theorem dX6_failed_81 : decode cX6_failed 81 = .ok (.getfield 19, 3) := by decide +kernel
theorem dX6_failed_84 : decode cX6_failed 84 = .ok (.iload_n 1, 1) := by decide +kernel
theorem dX6_failed_85 : decode cX6_failed 85 = .ok (.invokestatic 184, 3) := by decide +kernel
theorem dX6_failed_88 : decode cX6_failed 88 = .ok (.pop, 1) := by decide +kernel
theorem dX6_failed_89 : decode cX6_failed 89 = .ok (.iinc 5 1, 3) := by decide +kernel
theorem dX6_failed_92 : decode cX6_failed 92 = .ok (.goto (-29), 3) := by decide +kernel
theorem dX6_failed_95 : decode cX6_failed 95 = .ok (.aload_n 0, 1) := by decide +kernel
theorem dX6_failed_96 : decode cX6_failed 96 = .ok (.getfield 19, 3) := by decide +kernel
theorem dX6_failed_99 : decode cX6_failed 99 = .ok (.iload_n 2, 1) := by decide +kernel
theorem dX6_failed_100 : decode cX6_failed 100 = .ok (.iaload, 1) := by decide +kernel
theorem dX6_failed_101 : decode cX6_failed 101 = .ok (.ireturn, 1) := by decide +kernel
theorem dX6_other_0 : decode cX6_other 0 = .ok (.iconst 0, 1) := by decide +kernel
theorem dX6_other_1 : decode cX6_other 1 = .ok (.istore_n 1, 1) := by decide +kernel
theorem dX6_other_2 : decode cX6_other 2 = .ok (.iconst 0, 1) := by decide +kernel
theorem dX6_other_3 : decode cX6_other 3 = .ok (.istore_n 2, 1) := by decide +kernel
theorem dX6_other_4 : decode cX6_other 4 = .ok (.iload_n 2, 1) := by decide +kernel
theorem dX6_other_5 : decode cX6_other 5 = .ok (.bipush 16, 2) := by decide +kernel
theorem dX6_other_7 : decode cX6_other 7 = .ok (.if_icmp .ge 32, 3) := by decide +kernel
theorem dX6_other_10 : decode cX6_other 10 = .ok (.iload_n 1, 1) := by decide +kernel
theorem dX6_other_11 : decode cX6_other 11 = .ok (.aload_n 0, 1) := by decide +kernel
theorem dX6_other_12 : decode cX6_other 12 = .ok (.getfield 19, 3) := by decide +kernel
theorem dX6_other_15 : decode cX6_other 15 = .ok (.iload_n 2, 1) := by decide +kernel
theorem dX6_other_16 : decode cX6_other 16 = .ok (.iaload, 1) := by decide +kernel
theorem dX6_other_17 : decode cX6_other 17 = .ok (.aload_n 0, 1) := by decide +kernel
theorem dX6_other_18 : decode cX6_other 18 = .ok (.getfield 16, 3) := by decide +kernel
theorem dX6_other_21 : decode cX6_other 21 = .ok (.iload_n 2, 1) := by decide +kernel
theorem dX6_other_22 : decode cX6_other 22 = .ok (.iaload, 1) := by decide +kernel
theorem dX6_other_23 : decode cX6_other 23 = .ok (.if_icmp .eq 7, 3) := by decide +kernel
theorem dX6_other_26 : decode cX6_other 26 = .ok (.iconst 1, 1) := by decide +kernel
theorem dX6_other_27 : decode cX6_other 27 = .ok (.goto 4, 3) := by decide +kernel
theorem dX6_other_30 : decode cX6_other 30 = .ok (.iconst 0, 1) := by decide +kernel
theorem dX6_other_31 : decode cX6_other 31 = .ok (.iadd, 1) := by decide +kernel
theorem dX6_other_32 : decode cX6_other 32 = .ok (.istore_n 1, 1) := by decide +kernel
theorem dX6_other_33 : decode cX6_other 33 = .ok (.iinc 2 1, 3) := by decide +kernel
theorem dX6_other_36 : decode cX6_other 36 = .ok (.goto (-32), 3) := by decide +kernel
theorem dX6_other_39 : decode cX6_other 39 = .ok (.iload_n 1, 1) := by decide +kernel
theorem dX6_other_40 : decode cX6_other 40 = .ok (.ireturn, 1) := by decide +kernel
theorem dX6_changes_0 : decode cX6_changes 0 = .ok (.aload_n 0, 1) := by decide +kernel
theorem dX6_changes_1 : decode cX6_changes 1 = .ok (.iload_n 1, 1) := by decide +kernel
theorem dX6_changes_2 : decode cX6_changes 2 = .ok (.invokestatic 232, 3) := by decide +kernel
theorem dX6_changes_5 : decode cX6_changes 5 = .ok (.ifCond .eq 7, 3) := by decide +kernel
theorem dX6_changes_8 : decode cX6_changes 8 = .ok (.iconst 0, 1) := by decide +kernel
theorem dX6_changes_9 : decode cX6_changes 9 = .ok (.goto 4, 3) := by decide +kernel
theorem dX6_changes_12 : decode cX6_changes 12 = .ok (.iconst 1, 1) := by decide +kernel
theorem dX6_changes_13 : decode cX6_changes 13 = .ok (.invokevirtual 118, 3) := by decide +kernel
theorem dX6_changes_16 : decode cX6_changes 16 = .ok (.ifCond .eq 5, 3) := by decide +kernel
theorem dX6_changes_19 : decode cX6_changes 19 = .ok (.iconst 0, 1) := by decide +kernel
theorem dX6_changes_20 : decode cX6_changes 20 = .ok (.ireturn, 1) := by decide +kernel
theorem dX6_changes_21 : decode cX6_changes 21 = .ok (.aload_n 0, 1) := by decide +kernel
theorem dX6_changes_22 : decode cX6_changes 22 = .ok (.getfield 16, 3) := by decide +kernel
theorem dX6_changes_25 : decode cX6_changes 25 = .ok (.iload_n 1, 1) := by decide +kernel
theorem dX6_changes_26 : decode cX6_changes 26 = .ok (.invokestatic 69, 3) := by decide +kernel
theorem dX6_changes_29 : decode cX6_changes 29 = .ok (.ifCond .ne 5, 3) := by decide +kernel
theorem dX6_changes_32 : decode cX6_changes 32 = .ok (.iconst (-1), 1) := by decide +kernel
theorem dX6_changes_33 : decode cX6_changes 33 = .ok (.ireturn, 1) := by decide +kernel
theorem dX6_changes_34 : decode cX6_changes 34 = .ok (.aload_n 0, 1) := by decide +kernel
theorem dX6_changes_35 : decode cX6_changes 35 = .ok (.invokevirtual 249, 3) := by decide +kernel
theorem dX6_changes_38 : decode cX6_changes 38 = .ok (.aload_n 0, 1) := by decide +kernel
theorem dX6_changes_39 : decode cX6_changes 39 = .ok (.getfield 19, 3) := by decide +kernel
theorem dX6_changes_42 : decode cX6_changes 42 = .ok (.iload_n 1, 1) := by decide +kernel
theorem dX6_changes_43 : decode cX6_changes 43 = .ok (.invokestatic 184, 3) := by decide +kernel
theorem dX6_changes_46 : decode cX6_changes 46 = .ok (.pop, 1) := by decide +kernel
theorem dX6_changes_47 : decode cX6_changes 47 = .ok (.aload_n 0, 1) := by decide +kernel
theorem dX6_changes_48 : decode cX6_changes 48 = .ok (.invokevirtual 252, 3) := by decide +kernel
theorem dX6_changes_51 : decode cX6_changes 51 = .ok (.ireturn, 1) := by decide +kernel
theorem dX6_lost_0 : decode cX6_lost 0 = .ok (.iload_n 1, 1) := by decide +kernel
theorem dX6_lost_1 : decode cX6_lost 1 = .ok (.invokestatic 232, 3) := by decide +kernel
theorem dX6_lost_4 : decode cX6_lost 4 = .ok (.ifCond .eq 19, 3) := by decide +kernel
theorem dX6_lost_7 : decode cX6_lost 7 = .ok (.aload_n 0, 1) := by decide +kernel
theorem dX6_lost_8 : decode cX6_lost 8 = .ok (.getfield 16, 3) := by decide +kernel
theorem dX6_lost_11 : decode cX6_lost 11 = .ok (.iload_n 1, 1) := by decide +kernel
theorem dX6_lost_12 : decode cX6_lost 12 = .ok (.iload_n 2, 1) := by decide +kernel
theorem dX6_lost_13 : decode cX6_lost 13 = .ok (.invokestatic 163, 3) := by decide +kernel
theorem dX6_lost_16 : decode cX6_lost 16 = .ok (.ifCond .eq 7, 3) := by decide +kernel
theorem dX6_lost_19 : decode cX6_lost 19 = .ok (.iconst 1, 1) := by decide +kernel
theorem dX6_lost_20 : decode cX6_lost 20 = .ok (.goto 4, 3) := by decide +kernel
theorem dX6_lost_23 : decode cX6_lost 23 = .ok (.iconst 0, 1) := by decide +kernel
theorem dX6_lost_24 : decode cX6_lost 24 = .ok (.istore_n 3, 1) := by decide +kernel
theorem dX6_lost_25 : decode cX6_lost 25 = .ok (.aload_n 0, 1) := by decide +kernel
theorem dX6_lost_26 : decode cX6_lost 26 = .ok (.iload_n 3, 1) := by decide +kernel
theorem dX6_lost_27 : decode cX6_lost 27 = .ok (.ifCond .eq 7, 3) := by decide +kernel
theorem dX6_lost_30 : decode cX6_lost 30 = .ok (.iconst 0, 1) := by decide +kernel
theorem dX6_lost_31 : decode cX6_lost 31 = .ok (.goto 4, 3) := by decide +kernel
theorem dX6_lost_34 : decode cX6_lost 34 = .ok (.iconst 1, 1) := by decide +kernel
theorem dX6_lost_35 : decode cX6_lost 35 = .ok (.invokevirtual 118, 3) := by decide +kernel
theorem dX6_lost_38 : decode cX6_lost 38 = .ok (.ifCond .eq 5, 3) := by decide +kernel
theorem dX6_lost_41 : decode cX6_lost 41 = .ok (.iconst 0, 1) := by decide +kernel
theorem dX6_lost_42 : decode cX6_lost 42 = .ok (.ireturn, 1) := by decide +kernel
theorem dX6_lost_43 : decode cX6_lost 43 = .ok (.aload_n 0, 1) := by decide +kernel
theorem dX6_lost_44 : decode cX6_lost 44 = .ok (.invokevirtual 249, 3) := by decide +kernel
theorem dX6_lost_47 : decode cX6_lost 47 = .ok (.aload_n 0, 1) := by decide +kernel
theorem dX6_lost_48 : decode cX6_lost 48 = .ok (.getfield 19, 3) := by decide +kernel
theorem dX6_lost_51 : decode cX6_lost 51 = .ok (.iload_n 1, 1) := by decide +kernel
theorem dX6_lost_52 : decode cX6_lost 52 = .ok (.iload_n 2, 1) := by decide +kernel
theorem dX6_lost_53 : decode cX6_lost 53 = .ok (.invokestatic 166, 3) := by decide +kernel
theorem dX6_lost_56 : decode cX6_lost 56 = .ok (.pop, 1) := by decide +kernel
theorem dX6_lost_57 : decode cX6_lost 57 = .ok (.aload_n 0, 1) := by decide +kernel
theorem dX6_lost_58 : decode cX6_lost 58 = .ok (.invokevirtual 252, 3) := by decide +kernel
theorem dX6_lost_61 : decode cX6_lost 61 = .ok (.ireturn, 1) := by decide +kernel
theorem dX6_mercyLeft_0 : decode cX6_mercyLeft 0 = .ok (.aload_n 0, 1) := by decide +kernel
theorem dX6_mercyLeft_1 : decode cX6_mercyLeft 1 = .ok (.iload_n 1, 1) := by decide +kernel
theorem dX6_mercyLeft_2 : decode cX6_mercyLeft 2 = .ok (.invokestatic 232, 3) := by decide +kernel
theorem dX6_mercyLeft_5 : decode cX6_mercyLeft 5 = .ok (.ifCond .eq 7, 3) := by decide +kernel
theorem dX6_mercyLeft_8 : decode cX6_mercyLeft 8 = .ok (.iconst 0, 1) := by decide +kernel
theorem dX6_mercyLeft_9 : decode cX6_mercyLeft 9 = .ok (.goto 4, 3) := by decide +kernel
theorem dX6_mercyLeft_12 : decode cX6_mercyLeft 12 = .ok (.iconst 1, 1) := by decide +kernel
theorem dX6_mercyLeft_13 : decode cX6_mercyLeft 13 = .ok (.invokevirtual 118, 3) := by decide +kernel
theorem dX6_mercyLeft_16 : decode cX6_mercyLeft 16 = .ok (.ifCond .eq 5, 3) := by decide +kernel
theorem dX6_mercyLeft_19 : decode cX6_mercyLeft 19 = .ok (.iconst 0, 1) := by decide +kernel
theorem dX6_mercyLeft_20 : decode cX6_mercyLeft 20 = .ok (.ireturn, 1) := by decide +kernel
theorem dX6_mercyLeft_21 : decode cX6_mercyLeft 21 = .ok (.aload_n 0, 1) := by decide +kernel
theorem dX6_mercyLeft_22 : decode cX6_mercyLeft 22 = .ok (.getfield 16, 3) := by decide +kernel
theorem dX6_mercyLeft_25 : decode cX6_mercyLeft 25 = .ok (.iload_n 1, 1) := by decide +kernel
theorem dX6_mercyLeft_26 : decode cX6_mercyLeft 26 = .ok (.invokestatic 89, 3) := by decide +kernel
theorem dX6_mercyLeft_29 : decode cX6_mercyLeft 29 = .ok (.ifCond .eq 14, 3) := by decide +kernel
theorem dX6_mercyLeft_32 : decode cX6_mercyLeft 32 = .ok (.aload_n 0, 1) := by decide +kernel
theorem dX6_mercyLeft_33 : decode cX6_mercyLeft 33 = .ok (.getfield 16, 3) := by decide +kernel
theorem dX6_mercyLeft_36 : decode cX6_mercyLeft 36 = .ok (.iload_n 1, 1) := by decide +kernel
theorem dX6_mercyLeft_37 : decode cX6_mercyLeft 37 = .ok (.invokestatic 169, 3) := by decide +kernel
theorem dX6_mercyLeft_40 : decode cX6_mercyLeft 40 = .ok (.ifCond .ne 5, 3) := by decide +kernel
theorem dX6_mercyLeft_43 : decode cX6_mercyLeft 43 = .ok (.iconst (-1), 1) := by decide +kernel
theorem dX6_mercyLeft_44 : decode cX6_mercyLeft 44 = .ok (.ireturn, 1) := by decide +kernel
theorem dX6_mercyLeft_45 : decode cX6_mercyLeft 45 = .ok (.aload_n 0, 1) := by decide +kernel
theorem dX6_mercyLeft_46 : decode cX6_mercyLeft 46 = .ok (.getfield 16, 3) := by decide +kernel
theorem dX6_mercyLeft_49 : decode cX6_mercyLeft 49 = .ok (.bipush 32, 2) := by decide +kernel
theorem dX6_mercyLeft_51 : decode cX6_mercyLeft 51 = .ok (.iaload, 1) := by decide +kernel
theorem dX6_mercyLeft_52 : decode cX6_mercyLeft 52 = .ok (.aload_n 0, 1) := by decide +kernel
theorem dX6_mercyLeft_53 : decode cX6_mercyLeft 53 = .ok (.getfield 16, 3) := by decide +kernel
theorem dX6_mercyLeft_56 : decode cX6_mercyLeft 56 = .ok (.aload_n 0, 1) := by decide +kernel
theorem dX6_mercyLeft_57 : decode cX6_mercyLeft 57 = .ok (.getfield 16, 3) := by decide +kernel
theorem dX6_mercyLeft_60 : decode cX6_mercyLeft 60 = .ok (.iload_n 1, 1) := by decide +kernel
theorem dX6_mercyLeft_61 : decode cX6_mercyLeft 61 = .ok (.iconst 3, 1) := by decide +kernel
theorem dX6_mercyLeft_62 : decode cX6_mercyLeft 62 = .ok (.invokestatic 77, 3) := by decide +kernel
theorem dX6_mercyLeft_65 : decode cX6_mercyLeft 65 = .ok (.iaload, 1) := by decide +kernel
theorem dX6_mercyLeft_66 : decode cX6_mercyLeft 66 = .ok (.isub, 1) := by decide +kernel
theorem dX6_mercyLeft_67 : decode cX6_mercyLeft 67 = .ok (.istore_n 2, 1) := by decide +kernel
theorem dX6_mercyLeft_68 : decode cX6_mercyLeft 68 = .ok (.iload_n 2, 1) := by decide +kernel
theorem dX6_mercyLeft_69 : decode cX6_mercyLeft 69 = .ok (.ifCond .ge 7, 3) := by decide +kernel
theorem dX6_mercyLeft_72 : decode cX6_mercyLeft 72 = .ok (.iconst 1, 1) := by decide +kernel
theorem dX6_mercyLeft_73 : decode cX6_mercyLeft 73 = .ok (.goto 6, 3) := by decide +kernel
theorem dX6_mercyLeft_76 : decode cX6_mercyLeft 76 = .ok (.iload_n 2, 1) := by decide +kernel
theorem dX6_mercyLeft_77 : decode cX6_mercyLeft 77 = .ok (.iconst 1, 1) := by decide +kernel
theorem dX6_mercyLeft_78 : decode cX6_mercyLeft 78 = .ok (.iadd, 1) := by decide +kernel
theorem dX6_mercyLeft_79 : decode cX6_mercyLeft 79 = .ok (.ireturn, 1) := by decide +kernel
theorem dX6_bare_0 : decode cX6_bare 0 = .ok (.iload_n 2, 1) := by decide +kernel
theorem dX6_bare_1 : decode cX6_bare 1 = .ok (.tableswitch 126 0 3 #[31, 54, 78, 102], 31) := by decide +kernel
theorem dX6_bare_32 : decode cX6_bare 32 = .ok (.aload_n 0, 1) := by decide +kernel
theorem dX6_bare_33 : decode cX6_bare 33 = .ok (.getfield 19, 3) := by decide +kernel
theorem dX6_bare_36 : decode cX6_bare 36 = .ok (.iload_n 1, 1) := by decide +kernel
theorem dX6_bare_37 : decode cX6_bare 37 = .ok (.invokestatic 169, 3) := by decide +kernel
theorem dX6_bare_40 : decode cX6_bare 40 = .ok (.ifCond .ne 5, 3) := by decide +kernel
theorem dX6_bare_43 : decode cX6_bare 43 = .ok (.iconst 0, 1) := by decide +kernel
theorem dX6_bare_44 : decode cX6_bare 44 = .ok (.ireturn, 1) := by decide +kernel
theorem dX6_bare_45 : decode cX6_bare 45 = .ok (.aload_n 0, 1) := by decide +kernel
theorem dX6_bare_46 : decode cX6_bare 46 = .ok (.getfield 19, 3) := by decide +kernel
theorem dX6_bare_49 : decode cX6_bare 49 = .ok (.iload_n 1, 1) := by decide +kernel
theorem dX6_bare_50 : decode cX6_bare 50 = .ok (.invokestatic 175, 3) := by decide +kernel
theorem dX6_bare_53 : decode cX6_bare 53 = .ok (.iconst 1, 1) := by decide +kernel
theorem dX6_bare_54 : decode cX6_bare 54 = .ok (.ireturn, 1) := by decide +kernel
theorem dX6_bare_55 : decode cX6_bare 55 = .ok (.aload_n 0, 1) := by decide +kernel
theorem dX6_bare_56 : decode cX6_bare 56 = .ok (.getfield 19, 3) := by decide +kernel
theorem dX6_bare_59 : decode cX6_bare 59 = .ok (.iload_n 1, 1) := by decide +kernel
theorem dX6_bare_60 : decode cX6_bare 60 = .ok (.invokestatic 89, 3) := by decide +kernel
theorem dX6_bare_63 : decode cX6_bare 63 = .ok (.ifCond .ne 5, 3) := by decide +kernel
theorem dX6_bare_66 : decode cX6_bare 66 = .ok (.iconst 0, 1) := by decide +kernel
theorem dX6_bare_67 : decode cX6_bare 67 = .ok (.ireturn, 1) := by decide +kernel
theorem dX6_bare_68 : decode cX6_bare 68 = .ok (.aload_n 0, 1) := by decide +kernel
theorem dX6_bare_69 : decode cX6_bare 69 = .ok (.getfield 19, 3) := by decide +kernel
theorem dX6_bare_72 : decode cX6_bare 72 = .ok (.iload_n 1, 1) := by decide +kernel
theorem dX6_bare_73 : decode cX6_bare 73 = .ok (.invokestatic 181, 3) := by decide +kernel
theorem dX6_bare_76 : decode cX6_bare 76 = .ok (.pop, 1) := by decide +kernel
theorem dX6_bare_77 : decode cX6_bare 77 = .ok (.iconst 1, 1) := by decide +kernel
theorem dX6_bare_78 : decode cX6_bare 78 = .ok (.ireturn, 1) := by decide +kernel
theorem dX6_bare_79 : decode cX6_bare 79 = .ok (.aload_n 0, 1) := by decide +kernel
theorem dX6_bare_80 : decode cX6_bare 80 = .ok (.getfield 19, 3) := by decide +kernel
theorem dX6_bare_83 : decode cX6_bare 83 = .ok (.iload_n 1, 1) := by decide +kernel
theorem dX6_bare_84 : decode cX6_bare 84 = .ok (.invokestatic 69, 3) := by decide +kernel
theorem dX6_bare_87 : decode cX6_bare 87 = .ok (.ifCond .ne 5, 3) := by decide +kernel
theorem dX6_bare_90 : decode cX6_bare 90 = .ok (.iconst 0, 1) := by decide +kernel
theorem dX6_bare_91 : decode cX6_bare 91 = .ok (.ireturn, 1) := by decide +kernel
theorem dX6_bare_92 : decode cX6_bare 92 = .ok (.aload_n 0, 1) := by decide +kernel
theorem dX6_bare_93 : decode cX6_bare 93 = .ok (.getfield 19, 3) := by decide +kernel
theorem dX6_bare_96 : decode cX6_bare 96 = .ok (.iload_n 1, 1) := by decide +kernel
theorem dX6_bare_97 : decode cX6_bare 97 = .ok (.invokestatic 184, 3) := by decide +kernel
theorem dX6_bare_100 : decode cX6_bare 100 = .ok (.pop, 1) := by decide +kernel
theorem dX6_bare_101 : decode cX6_bare 101 = .ok (.iconst 1, 1) := by decide +kernel
theorem dX6_bare_102 : decode cX6_bare 102 = .ok (.ireturn, 1) := by decide +kernel
theorem dX6_bare_103 : decode cX6_bare 103 = .ok (.aload_n 0, 1) := by decide +kernel
theorem dX6_bare_104 : decode cX6_bare 104 = .ok (.getfield 19, 3) := by decide +kernel
theorem dX6_bare_107 : decode cX6_bare 107 = .ok (.iload_n 1, 1) := by decide +kernel
theorem dX6_bare_108 : decode cX6_bare 108 = .ok (.invokestatic 172, 3) := by decide +kernel
theorem dX6_bare_111 : decode cX6_bare 111 = .ok (.ifCond .ne 5, 3) := by decide +kernel
theorem dX6_bare_114 : decode cX6_bare 114 = .ok (.iconst 0, 1) := by decide +kernel
theorem dX6_bare_115 : decode cX6_bare 115 = .ok (.ireturn, 1) := by decide +kernel
theorem dX6_bare_116 : decode cX6_bare 116 = .ok (.aload_n 0, 1) := by decide +kernel
theorem dX6_bare_117 : decode cX6_bare 117 = .ok (.getfield 19, 3) := by decide +kernel
theorem dX6_bare_120 : decode cX6_bare 120 = .ok (.iload_n 1, 1) := by decide +kernel
theorem dX6_bare_121 : decode cX6_bare 121 = .ok (.invokestatic 178, 3) := by decide +kernel
theorem dX6_bare_124 : decode cX6_bare 124 = .ok (.pop, 1) := by decide +kernel
theorem dX6_bare_125 : decode cX6_bare 125 = .ok (.iconst 1, 1) := by decide +kernel
theorem dX6_bare_126 : decode cX6_bare 126 = .ok (.ireturn, 1) := by decide +kernel
theorem dX6_bare_127 : decode cX6_bare 127 = .ok (.iconst 0, 1) := by decide +kernel
theorem dX6_bare_128 : decode cX6_bare 128 = .ok (.ireturn, 1) := by decide +kernel
theorem dX6_writes_0 : decode cX6_writes 0 = .ok (.iload_n 2, 1) := by decide +kernel
theorem dX6_writes_1 : decode cX6_writes 1 = .ok (.invokestatic 226, 3) := by decide +kernel
theorem dX6_writes_4 : decode cX6_writes 4 = .ok (.ifCond .eq 15, 3) := by decide +kernel
theorem dX6_writes_7 : decode cX6_writes 7 = .ok (.aload_n 0, 1) := by decide +kernel
theorem dX6_writes_8 : decode cX6_writes 8 = .ok (.getfield 19, 3) := by decide +kernel
theorem dX6_writes_11 : decode cX6_writes 11 = .ok (.iload_n 1, 1) := by decide +kernel
theorem dX6_writes_12 : decode cX6_writes 12 = .ok (.iload_n 2, 1) := by decide +kernel
theorem dX6_writes_13 : decode cX6_writes 13 = .ok (.invokestatic 99, 3) := by decide +kernel
theorem dX6_writes_16 : decode cX6_writes 16 = .ok (.ifCond .eq 5, 3) := by decide +kernel
theorem dX6_writes_19 : decode cX6_writes 19 = .ok (.iconst 0, 1) := by decide +kernel
theorem dX6_writes_20 : decode cX6_writes 20 = .ok (.ireturn, 1) := by decide +kernel
theorem dX6_writes_21 : decode cX6_writes 21 = .ok (.aload_n 0, 1) := by decide +kernel
theorem dX6_writes_22 : decode cX6_writes 22 = .ok (.getfield 19, 3) := by decide +kernel
theorem dX6_writes_25 : decode cX6_writes 25 = .ok (.iload_n 1, 1) := by decide +kernel
theorem dX6_writes_26 : decode cX6_writes 26 = .ok (.iload_n 2, 1) := by decide +kernel
theorem dX6_writes_27 : decode cX6_writes 27 = .ok (.iload_n 3, 1) := by decide +kernel
theorem dX6_writes_28 : decode cX6_writes 28 = .ok (.invokestatic 152, 3) := by decide +kernel
theorem dX6_writes_31 : decode cX6_writes 31 = .ok (.pop, 1) := by decide +kernel
theorem dX6_writes_32 : decode cX6_writes 32 = .ok (.iconst 1, 1) := by decide +kernel
theorem dX6_writes_33 : decode cX6_writes 33 = .ok (.ireturn, 1) := by decide +kernel
theorem dX6_goesBack_0 : decode cX6_goesBack 0 = .ok (.aload_n 0, 1) := by decide +kernel
theorem dX6_goesBack_1 : decode cX6_goesBack 1 = .ok (.getfield 19, 3) := by decide +kernel
theorem dX6_goesBack_4 : decode cX6_goesBack 4 = .ok (.iload_n 1, 1) := by decide +kernel
theorem dX6_goesBack_5 : decode cX6_goesBack 5 = .ok (.iload_n 2, 1) := by decide +kernel
theorem dX6_goesBack_6 : decode cX6_goesBack 6 = .ok (.invokestatic 163, 3) := by decide +kernel
theorem dX6_goesBack_9 : decode cX6_goesBack 9 = .ok (.ifCond .eq 14, 3) := by decide +kernel
theorem dX6_goesBack_12 : decode cX6_goesBack 12 = .ok (.aload_n 0, 1) := by decide +kernel
theorem dX6_goesBack_13 : decode cX6_goesBack 13 = .ok (.getfield 19, 3) := by decide +kernel
theorem dX6_goesBack_16 : decode cX6_goesBack 16 = .ok (.iload_n 1, 1) := by decide +kernel
theorem dX6_goesBack_17 : decode cX6_goesBack 17 = .ok (.invokestatic 81, 3) := by decide +kernel
theorem dX6_goesBack_20 : decode cX6_goesBack 20 = .ok (.ifCond .eq 5, 3) := by decide +kernel
theorem dX6_goesBack_23 : decode cX6_goesBack 23 = .ok (.iconst 0, 1) := by decide +kernel
theorem dX6_goesBack_24 : decode cX6_goesBack 24 = .ok (.ireturn, 1) := by decide +kernel
theorem dX6_goesBack_25 : decode cX6_goesBack 25 = .ok (.aload_n 0, 1) := by decide +kernel
theorem dX6_goesBack_26 : decode cX6_goesBack 26 = .ok (.getfield 19, 3) := by decide +kernel
theorem dX6_goesBack_29 : decode cX6_goesBack 29 = .ok (.iload_n 1, 1) := by decide +kernel
theorem dX6_goesBack_30 : decode cX6_goesBack 30 = .ok (.iload_n 2, 1) := by decide +kernel
theorem dX6_goesBack_31 : decode cX6_goesBack 31 = .ok (.invokestatic 166, 3) := by decide +kernel
theorem dX6_goesBack_34 : decode cX6_goesBack 34 = .ok (.pop, 1) := by decide +kernel
theorem dX6_goesBack_35 : decode cX6_goesBack 35 = .ok (.iconst 1, 1) := by decide +kernel
theorem dX6_goesBack_36 : decode cX6_goesBack 36 = .ok (.ireturn, 1) := by decide +kernel
theorem dX6_regrets_0 : decode cX6_regrets 0 = .ok (.iload_n 2, 1) := by decide +kernel
theorem dX6_regrets_1 : decode cX6_regrets 1 = .ok (.invokestatic 226, 3) := by decide +kernel
theorem dX6_regrets_4 : decode cX6_regrets 4 = .ok (.ifCond .eq 19, 3) := by decide +kernel
theorem dX6_regrets_7 : decode cX6_regrets 7 = .ok (.iload_n 3, 1) := by decide +kernel
theorem dX6_regrets_8 : decode cX6_regrets 8 = .ok (.ifCond .eq 15, 3) := by decide +kernel
theorem dX6_regrets_11 : decode cX6_regrets 11 = .ok (.aload_n 0, 1) := by decide +kernel
theorem dX6_regrets_12 : decode cX6_regrets 12 = .ok (.getfield 19, 3) := by decide +kernel
theorem dX6_regrets_15 : decode cX6_regrets 15 = .ok (.iload_n 1, 1) := by decide +kernel
theorem dX6_regrets_16 : decode cX6_regrets 16 = .ok (.iload_n 2, 1) := by decide +kernel
theorem dX6_regrets_17 : decode cX6_regrets 17 = .ok (.invokestatic 156, 3) := by decide +kernel
theorem dX6_regrets_20 : decode cX6_regrets 20 = .ok (.ifCond .ne 5, 3) := by decide +kernel
theorem dX6_regrets_23 : decode cX6_regrets 23 = .ok (.iconst 0, 1) := by decide +kernel
theorem dX6_regrets_24 : decode cX6_regrets 24 = .ok (.ireturn, 1) := by decide +kernel
theorem dX6_regrets_25 : decode cX6_regrets 25 = .ok (.aload_n 0, 1) := by decide +kernel
theorem dX6_regrets_26 : decode cX6_regrets 26 = .ok (.getfield 19, 3) := by decide +kernel
theorem dX6_regrets_29 : decode cX6_regrets 29 = .ok (.iload_n 1, 1) := by decide +kernel
theorem dX6_regrets_30 : decode cX6_regrets 30 = .ok (.iload_n 2, 1) := by decide +kernel
theorem dX6_regrets_31 : decode cX6_regrets 31 = .ok (.iload_n 3, 1) := by decide +kernel
theorem dX6_regrets_32 : decode cX6_regrets 32 = .ok (.invokestatic 160, 3) := by decide +kernel
theorem dX6_regrets_35 : decode cX6_regrets 35 = .ok (.pop, 1) := by decide +kernel
theorem dX6_regrets_36 : decode cX6_regrets 36 = .ok (.iconst 1, 1) := by decide +kernel
theorem dX6_regrets_37 : decode cX6_regrets 37 = .ok (.ireturn, 1) := by decide +kernel
theorem dX6_does_0 : decode cX6_does 0 = .ok (.iload_n 1, 1) := by decide +kernel
theorem dX6_does_1 : decode cX6_does 1 = .ok (.sipush 10000, 3) := by decide +kernel
theorem dX6_does_4 : decode cX6_does 4 = .ok (.idiv, 1) := by decide +kernel
theorem dX6_does_5 : decode cX6_does 5 = .ok (.istore_n 2, 1) := by decide +kernel
theorem dX6_does_6 : decode cX6_does 6 = .ok (.iload_n 1, 1) := by decide +kernel
theorem dX6_does_7 : decode cX6_does 7 = .ok (.sipush 1000, 3) := by decide +kernel
theorem dX6_does_10 : decode cX6_does 10 = .ok (.idiv, 1) := by decide +kernel
theorem dX6_does_11 : decode cX6_does 11 = .ok (.bipush 10, 2) := by decide +kernel
theorem dX6_does_13 : decode cX6_does 13 = .ok (.irem, 1) := by decide +kernel
theorem dX6_does_14 : decode cX6_does 14 = .ok (.istore_n 3, 1) := by decide +kernel
theorem dX6_does_15 : decode cX6_does 15 = .ok (.iload_n 1, 1) := by decide +kernel
theorem dX6_does_16 : decode cX6_does 16 = .ok (.bipush 10, 2) := by decide +kernel
theorem dX6_does_18 : decode cX6_does 18 = .ok (.idiv, 1) := by decide +kernel
theorem dX6_does_19 : decode cX6_does 19 = .ok (.bipush 100, 2) := by decide +kernel
theorem dX6_does_21 : decode cX6_does 21 = .ok (.irem, 1) := by decide +kernel
theorem dX6_does_22 : decode cX6_does 22 = .ok (.istore 4, 2) := by decide +kernel
theorem dX6_does_24 : decode cX6_does 24 = .ok (.iload_n 1, 1) := by decide +kernel
theorem dX6_does_25 : decode cX6_does 25 = .ok (.bipush 10, 2) := by decide +kernel
theorem dX6_does_27 : decode cX6_does 27 = .ok (.irem, 1) := by decide +kernel
theorem dX6_does_28 : decode cX6_does 28 = .ok (.istore 5, 2) := by decide +kernel
theorem dX6_does_30 : decode cX6_does 30 = .ok (.iload_n 3, 1) := by decide +kernel
theorem dX6_does_31 : decode cX6_does 31 = .ok (.iconst 3, 1) := by decide +kernel
theorem dX6_does_32 : decode cX6_does 32 = .ok (.if_icmp .ge 12, 3) := by decide +kernel
theorem dX6_does_35 : decode cX6_does 35 = .ok (.iload_n 2, 1) := by decide +kernel
theorem dX6_does_36 : decode cX6_does 36 = .ok (.iconst 5, 1) := by decide +kernel
theorem dX6_does_37 : decode cX6_does 37 = .ok (.if_icmp .ne 9, 3) := by decide +kernel
theorem dX6_does_40 : decode cX6_does 40 = .ok (.iload_n 3, 1) := by decide +kernel
theorem dX6_does_41 : decode cX6_does 41 = .ok (.ifCond .eq 5, 3) := by decide +kernel
theorem dX6_does_44 : decode cX6_does 44 = .ok (.iconst 0, 1) := by decide +kernel
theorem dX6_does_45 : decode cX6_does 45 = .ok (.ireturn, 1) := by decide +kernel
theorem dX6_does_46 : decode cX6_does 46 = .ok (.iload_n 2, 1) := by decide +kernel
theorem dX6_does_47 : decode cX6_does 47 = .ok (.tableswitch 256 1 9 #[49, 70, 80, 101, 111, 137, 172, 196, 223], 49) := by decide +kernel
theorem dX6_does_96 : decode cX6_does 96 = .ok (.iload 4, 2) := by decide +kernel
theorem dX6_does_98 : decode cX6_does 98 = .ok (.ifCond .ne 17, 3) := by decide +kernel
theorem dX6_does_101 : decode cX6_does 101 = .ok (.aload_n 0, 1) := by decide +kernel
theorem dX6_does_102 : decode cX6_does 102 = .ok (.iload_n 3, 1) := by decide +kernel
theorem dX6_does_103 : decode cX6_does 103 = .ok (.iload 5, 2) := by decide +kernel
theorem dX6_does_105 : decode cX6_does 105 = .ok (.invokevirtual 255, 3) := by decide +kernel
theorem dX6_does_108 : decode cX6_does 108 = .ok (.ifCond .eq 7, 3) := by decide +kernel
theorem dX6_does_111 : decode cX6_does 111 = .ok (.iconst 1, 1) := by decide +kernel
theorem dX6_does_112 : decode cX6_does 112 = .ok (.goto 4, 3) := by decide +kernel
theorem dX6_does_115 : decode cX6_does 115 = .ok (.iconst 0, 1) := by decide +kernel
theorem dX6_does_116 : decode cX6_does 116 = .ok (.ireturn, 1) := by decide +kernel
theorem dX6_does_117 : decode cX6_does 117 = .ok (.aload_n 0, 1) := by decide +kernel
theorem dX6_does_118 : decode cX6_does 118 = .ok (.iload_n 3, 1) := by decide +kernel
theorem dX6_does_119 : decode cX6_does 119 = .ok (.iload 4, 2) := by decide +kernel
theorem dX6_does_121 : decode cX6_does 121 = .ok (.iload 5, 2) := by decide +kernel
theorem dX6_does_123 : decode cX6_does 123 = .ok (.invokevirtual 259, 3) := by decide +kernel
theorem dX6_does_126 : decode cX6_does 126 = .ok (.ireturn, 1) := by decide +kernel
theorem dX6_does_127 : decode cX6_does 127 = .ok (.iload 4, 2) := by decide +kernel
theorem dX6_does_129 : decode cX6_does 129 = .ok (.ifCond .ne 17, 3) := by decide +kernel
theorem dX6_does_132 : decode cX6_does 132 = .ok (.aload_n 0, 1) := by decide +kernel
theorem dX6_does_133 : decode cX6_does 133 = .ok (.iload_n 3, 1) := by decide +kernel
theorem dX6_does_134 : decode cX6_does 134 = .ok (.iload 5, 2) := by decide +kernel
theorem dX6_does_136 : decode cX6_does 136 = .ok (.invokevirtual 263, 3) := by decide +kernel
theorem dX6_does_139 : decode cX6_does 139 = .ok (.ifCond .eq 7, 3) := by decide +kernel
theorem dX6_does_142 : decode cX6_does 142 = .ok (.iconst 1, 1) := by decide +kernel
theorem dX6_does_143 : decode cX6_does 143 = .ok (.goto 4, 3) := by decide +kernel
theorem dX6_does_146 : decode cX6_does 146 = .ok (.iconst 0, 1) := by decide +kernel
theorem dX6_does_147 : decode cX6_does 147 = .ok (.ireturn, 1) := by decide +kernel
theorem dX6_does_148 : decode cX6_does 148 = .ok (.aload_n 0, 1) := by decide +kernel
theorem dX6_does_149 : decode cX6_does 149 = .ok (.iload_n 3, 1) := by decide +kernel
theorem dX6_does_150 : decode cX6_does 150 = .ok (.iload 4, 2) := by decide +kernel
theorem dX6_does_152 : decode cX6_does 152 = .ok (.iload 5, 2) := by decide +kernel
theorem dX6_does_154 : decode cX6_does 154 = .ok (.invokevirtual 266, 3) := by decide +kernel
theorem dX6_does_157 : decode cX6_does 157 = .ok (.ireturn, 1) := by decide +kernel
theorem dX6_does_158 : decode cX6_does 158 = .ok (.iload 4, 2) := by decide +kernel
theorem dX6_does_160 : decode cX6_does 160 = .ok (.invokestatic 226, 3) := by decide +kernel
theorem dX6_does_163 : decode cX6_does 163 = .ok (.ifCond .eq 19, 3) := by decide +kernel
theorem dX6_does_166 : decode cX6_does 166 = .ok (.aload_n 0, 1) := by decide +kernel
theorem dX6_does_167 : decode cX6_does 167 = .ok (.getfield 19, 3) := by decide +kernel
theorem dX6_does_170 : decode cX6_does 170 = .ok (.iload 4, 2) := by decide +kernel
theorem dX6_does_172 : decode cX6_does 172 = .ok (.iaload, 1) := by decide +kernel
theorem dX6_does_173 : decode cX6_does 173 = .ok (.iload 5, 2) := by decide +kernel
theorem dX6_does_175 : decode cX6_does 175 = .ok (.if_icmp .ne 7, 3) := by decide +kernel
theorem dX6_does_178 : decode cX6_does 178 = .ok (.iconst 1, 1) := by decide +kernel
theorem dX6_does_179 : decode cX6_does 179 = .ok (.goto 4, 3) := by decide +kernel
theorem dX6_does_182 : decode cX6_does 182 = .ok (.iconst 0, 1) := by decide +kernel
theorem dX6_does_183 : decode cX6_does 183 = .ok (.ireturn, 1) := by decide +kernel
theorem dX6_does_184 : decode cX6_does 184 = .ok (.iload 4, 2) := by decide +kernel
theorem dX6_does_186 : decode cX6_does 186 = .ok (.invokestatic 226, 3) := by decide +kernel
theorem dX6_does_189 : decode cX6_does 189 = .ok (.ifCond .eq 28, 3) := by decide +kernel
theorem dX6_does_192 : decode cX6_does 192 = .ok (.iload 5, 2) := by decide +kernel
theorem dX6_does_194 : decode cX6_does 194 = .ok (.ifCond .ne 23, 3) := by decide +kernel
theorem dX6_does_197 : decode cX6_does 197 = .ok (.aload_n 0, 1) := by decide +kernel
theorem dX6_does_198 : decode cX6_does 198 = .ok (.getfield 19, 3) := by decide +kernel
theorem dX6_does_201 : decode cX6_does 201 = .ok (.bipush 16, 2) := by decide +kernel
theorem dX6_does_203 : decode cX6_does 203 = .ok (.iload 4, 2) := by decide +kernel
theorem dX6_does_205 : decode cX6_does 205 = .ok (.iadd, 1) := by decide +kernel
theorem dX6_does_206 : decode cX6_does 206 = .ok (.iaload, 1) := by decide +kernel
theorem dX6_does_207 : decode cX6_does 207 = .ok (.iload_n 3, 1) := by decide +kernel
theorem dX6_does_208 : decode cX6_does 208 = .ok (.iconst 1, 1) := by decide +kernel
theorem dX6_does_209 : decode cX6_does 209 = .ok (.iadd, 1) := by decide +kernel
theorem dX6_does_210 : decode cX6_does 210 = .ok (.if_icmp .ne 7, 3) := by decide +kernel
theorem dX6_does_213 : decode cX6_does 213 = .ok (.iconst 1, 1) := by decide +kernel
theorem dX6_does_214 : decode cX6_does 214 = .ok (.goto 4, 3) := by decide +kernel
theorem dX6_does_217 : decode cX6_does 217 = .ok (.iconst 0, 1) := by decide +kernel
theorem dX6_does_218 : decode cX6_does 218 = .ok (.ireturn, 1) := by decide +kernel
theorem dX6_does_219 : decode cX6_does 219 = .ok (.iload 4, 2) := by decide +kernel
theorem dX6_does_221 : decode cX6_does 221 = .ok (.ifCond .ne 20, 3) := by decide +kernel
theorem dX6_does_224 : decode cX6_does 224 = .ok (.aload_n 0, 1) := by decide +kernel
theorem dX6_does_225 : decode cX6_does 225 = .ok (.getfield 19, 3) := by decide +kernel
theorem dX6_does_228 : decode cX6_does 228 = .ok (.iload_n 3, 1) := by decide +kernel
theorem dX6_does_229 : decode cX6_does 229 = .ok (.invokestatic 69, 3) := by decide +kernel
theorem dX6_does_232 : decode cX6_does 232 = .ok (.iload 5, 2) := by decide +kernel
theorem dX6_does_234 : decode cX6_does 234 = .ok (.if_icmp .ne 7, 3) := by decide +kernel
theorem dX6_does_237 : decode cX6_does 237 = .ok (.iconst 1, 1) := by decide +kernel
theorem dX6_does_238 : decode cX6_does 238 = .ok (.goto 4, 3) := by decide +kernel
theorem dX6_does_241 : decode cX6_does 241 = .ok (.iconst 0, 1) := by decide +kernel
theorem dX6_does_242 : decode cX6_does 242 = .ok (.ireturn, 1) := by decide +kernel
theorem dX6_does_243 : decode cX6_does 243 = .ok (.iload 4, 2) := by decide +kernel
theorem dX6_does_245 : decode cX6_does 245 = .ok (.ifCond .ne 23, 3) := by decide +kernel
theorem dX6_does_248 : decode cX6_does 248 = .ok (.iload 5, 2) := by decide +kernel
theorem dX6_does_250 : decode cX6_does 250 = .ok (.ifCond .ne 18, 3) := by decide +kernel
theorem dX6_does_253 : decode cX6_does 253 = .ok (.aload_n 0, 1) := by decide +kernel
theorem dX6_does_254 : decode cX6_does 254 = .ok (.getfield 19, 3) := by decide +kernel
theorem dX6_does_257 : decode cX6_does 257 = .ok (.iload_n 3, 1) := by decide +kernel
theorem dX6_does_258 : decode cX6_does 258 = .ok (.invokestatic 81, 3) := by decide +kernel
theorem dX6_does_261 : decode cX6_does 261 = .ok (.ifCond .eq 7, 3) := by decide +kernel
theorem dX6_does_264 : decode cX6_does 264 = .ok (.iconst 1, 1) := by decide +kernel
theorem dX6_does_265 : decode cX6_does 265 = .ok (.goto 4, 3) := by decide +kernel
theorem dX6_does_268 : decode cX6_does 268 = .ok (.iconst 0, 1) := by decide +kernel
theorem dX6_does_269 : decode cX6_does 269 = .ok (.ireturn, 1) := by decide +kernel
theorem dX6_does_270 : decode cX6_does 270 = .ok (.iload_n 1, 1) := by decide +kernel
theorem dX6_does_271 : decode cX6_does 271 = .ok (.bipush 100, 2) := by decide +kernel
theorem dX6_does_273 : decode cX6_does 273 = .ok (.idiv, 1) := by decide +kernel
theorem dX6_does_274 : decode cX6_does 274 = .ok (.bipush 10, 2) := by decide +kernel
theorem dX6_does_276 : decode cX6_does 276 = .ok (.irem, 1) := by decide +kernel
theorem dX6_does_277 : decode cX6_does 277 = .ok (.ifCond .ne 24, 3) := by decide +kernel
theorem dX6_does_280 : decode cX6_does 280 = .ok (.aload_n 0, 1) := by decide +kernel
theorem dX6_does_281 : decode cX6_does 281 = .ok (.getfield 19, 3) := by decide +kernel
theorem dX6_does_284 : decode cX6_does 284 = .ok (.iload_n 3, 1) := by decide +kernel
theorem dX6_does_285 : decode cX6_does 285 = .ok (.iconst 1, 1) := by decide +kernel
theorem dX6_does_286 : decode cX6_does 286 = .ok (.invokestatic 65, 3) := by decide +kernel
theorem dX6_does_289 : decode cX6_does 289 = .ok (.iaload, 1) := by decide +kernel
theorem dX6_does_290 : decode cX6_does 290 = .ok (.iload_n 1, 1) := by decide +kernel
theorem dX6_does_291 : decode cX6_does 291 = .ok (.bipush 100, 2) := by decide +kernel
theorem dX6_does_293 : decode cX6_does 293 = .ok (.irem, 1) := by decide +kernel
theorem dX6_does_294 : decode cX6_does 294 = .ok (.if_icmp .gt 7, 3) := by decide +kernel
theorem dX6_does_297 : decode cX6_does 297 = .ok (.iconst 1, 1) := by decide +kernel
theorem dX6_does_298 : decode cX6_does 298 = .ok (.goto 4, 3) := by decide +kernel
theorem dX6_does_301 : decode cX6_does 301 = .ok (.iconst 0, 1) := by decide +kernel
theorem dX6_does_302 : decode cX6_does 302 = .ok (.ireturn, 1) := by decide +kernel
theorem dX6_does_303 : decode cX6_does 303 = .ok (.iconst 0, 1) := by decide +kernel
theorem dX6_does_304 : decode cX6_does 304 = .ok (.ireturn, 1) := by decide +kernel
theorem dX6_runScript_0 : decode cX6_runScript 0 = .ok (.iload_n 1, 1) := by decide +kernel
theorem dX6_runScript_1 : decode cX6_runScript 1 = .ok (.i2l, 1) := by decide +kernel
theorem dX6_runScript_2 : decode cX6_runScript 2 = .ok (.lconst 1, 1) := by decide +kernel
theorem dX6_runScript_3 : decode cX6_runScript 3 = .ok (.ldc2_w 244, 3) := by decide +kernel
theorem dX6_runScript_6 : decode cX6_runScript 6 = .ok (.invokestatic 92, 3) := by decide +kernel
theorem dX6_runScript_9 : decode cX6_runScript 9 = .ok (.istore 4, 2) := by decide +kernel
theorem dX6_runScript_11 : decode cX6_runScript 11 = .ok (.aload_n 0, 1) := by decide +kernel
theorem dX6_runScript_12 : decode cX6_runScript 12 = .ok (.iload 4, 2) := by decide +kernel
theorem dX6_runScript_14 : decode cX6_runScript 14 = .ok (.ifCond .eq 32, 3) := by decide +kernel
theorem dX6_runScript_17 : decode cX6_runScript 17 = .ok (.lload_n 2, 1) := by decide +kernel
theorem dX6_runScript_18 : decode cX6_runScript 18 = .ok (.lconst 0, 1) := by decide +kernel
theorem dX6_runScript_19 : decode cX6_runScript 19 = .ok (.iload 4, 2) := by decide +kernel
theorem dX6_runScript_21 : decode cX6_runScript 21 = .ok (.ifCond .eq 9, 3) := by decide +kernel
theorem dX6_runScript_24 : decode cX6_runScript 24 = .ok (.iconst 5, 1) := by decide +kernel
theorem dX6_runScript_25 : decode cX6_runScript 25 = .ok (.iload_n 1, 1) := by decide +kernel
theorem dX6_runScript_26 : decode cX6_runScript 26 = .ok (.imul, 1) := by decide +kernel
theorem dX6_runScript_27 : decode cX6_runScript 27 = .ok (.goto 4, 3) := by decide +kernel
theorem dX6_runScript_30 : decode cX6_runScript 30 = .ok (.iconst 0, 1) := by decide +kernel
theorem dX6_runScript_31 : decode cX6_runScript 31 = .ok (.invokestatic 269, 3) := by decide +kernel
theorem dX6_runScript_34 : decode cX6_runScript 34 = .ok (.lconst 1, 1) := by decide +kernel
theorem dX6_runScript_35 : decode cX6_runScript 35 = .ok (.lsub, 1) := by decide +kernel
theorem dX6_runScript_36 : decode cX6_runScript 36 = .ok (.invokestatic 92, 3) := by decide +kernel
theorem dX6_runScript_39 : decode cX6_runScript 39 = .ok (.ifCond .eq 7, 3) := by decide +kernel
theorem dX6_runScript_42 : decode cX6_runScript 42 = .ok (.iconst 0, 1) := by decide +kernel
theorem dX6_runScript_43 : decode cX6_runScript 43 = .ok (.goto 4, 3) := by decide +kernel
theorem dX6_runScript_46 : decode cX6_runScript 46 = .ok (.iconst 1, 1) := by decide +kernel
theorem dX6_runScript_47 : decode cX6_runScript 47 = .ok (.invokevirtual 118, 3) := by decide +kernel
theorem dX6_runScript_50 : decode cX6_runScript 50 = .ok (.ifCond .eq 5, 3) := by decide +kernel
theorem dX6_runScript_53 : decode cX6_runScript 53 = .ok (.iconst 0, 1) := by decide +kernel
theorem dX6_runScript_54 : decode cX6_runScript 54 = .ok (.ireturn, 1) := by decide +kernel
theorem dX6_runScript_55 : decode cX6_runScript 55 = .ok (.aload_n 0, 1) := by decide +kernel
theorem dX6_runScript_56 : decode cX6_runScript 56 = .ok (.invokevirtual 249, 3) := by decide +kernel
theorem dX6_runScript_59 : decode cX6_runScript 59 = .ok (.iconst 0, 1) := by decide +kernel
theorem dX6_runScript_60 : decode cX6_runScript 60 = .ok (.istore 5, 2) := by decide +kernel
theorem dX6_runScript_62 : decode cX6_runScript 62 = .ok (.iload 5, 2) := by decide +kernel
theorem dX6_runScript_64 : decode cX6_runScript 64 = .ok (.iload_n 1, 1) := by decide +kernel
theorem dX6_runScript_65 : decode cX6_runScript 65 = .ok (.if_icmp .ge 37, 3) := by decide +kernel
theorem dX6_runScript_68 : decode cX6_runScript 68 = .ok (.aload_n 0, 1) := by decide +kernel
theorem dX6_runScript_69 : decode cX6_runScript 69 = .ok (.lload_n 2, 1) := by decide +kernel
theorem dX6_runScript_70 : decode cX6_runScript 70 = .ok (.iconst 5, 1) := by decide +kernel
theorem dX6_runScript_71 : decode cX6_runScript 71 = .ok (.iload_n 1, 1) := by decide +kernel
theorem dX6_runScript_72 : decode cX6_runScript 72 = .ok (.iconst 1, 1) := by decide +kernel
theorem dX6_runScript_73 : decode cX6_runScript 73 = .ok (.isub, 1) := by decide +kernel
theorem dX6_runScript_74 : decode cX6_runScript 74 = .ok (.iload 5, 2) := by decide +kernel
theorem dX6_runScript_76 : decode cX6_runScript 76 = .ok (.isub, 1) := by decide +kernel
theorem dX6_runScript_77 : decode cX6_runScript 77 = .ok (.imul, 1) := by decide +kernel
theorem dX6_runScript_78 : decode cX6_runScript 78 = .ok (.invokestatic 269, 3) := by decide +kernel
theorem dX6_runScript_81 : decode cX6_runScript 81 = .ok (.ldiv, 1) := by decide +kernel
theorem dX6_runScript_82 : decode cX6_runScript 82 = .ok (.ldc2_w 273, 3) := by decide +kernel
theorem dX6_runScript_85 : decode cX6_runScript 85 = .ok (.lrem, 1) := by decide +kernel
theorem dX6_runScript_86 : decode cX6_runScript 86 = .ok (.l2i, 1) := by decide +kernel
theorem dX6_runScript_87 : decode cX6_runScript 87 = .ok (.invokevirtual 275, 3) := by decide +kernel
theorem dX6_runScript_90 : decode cX6_runScript 90 = .ok (.ifCond .ne 6, 3) := by decide +kernel
theorem dX6_runScript_93 : decode cX6_runScript 93 = .ok (.iload 5, 2) := by decide +kernel
theorem dX6_runScript_95 : decode cX6_runScript 95 = .ok (.ireturn, 1) := by decide +kernel
theorem dX6_runScript_96 : decode cX6_runScript 96 = .ok (.iinc 5 1, 3) := by decide +kernel
theorem dX6_runScript_99 : decode cX6_runScript 99 = .ok (.goto (-37), 3) := by decide +kernel
theorem dX6_runScript_102 : decode cX6_runScript 102 = .ok (.iconst (-1), 1) := by decide +kernel
theorem dX6_runScript_103 : decode cX6_runScript 103 = .ok (.ireturn, 1) := by decide +kernel
theorem dX6_stir_0 : decode cX6_stir 0 = .ok (.iload_n 1, 1) := by decide +kernel
theorem dX6_stir_1 : decode cX6_stir 1 = .ok (.bipush 16, 2) := by decide +kernel
theorem dX6_stir_3 : decode cX6_stir 3 = .ok (.idiv, 1) := by decide +kernel
theorem dX6_stir_4 : decode cX6_stir 4 = .ok (.iconst 3, 1) := by decide +kernel
theorem dX6_stir_5 : decode cX6_stir 5 = .ok (.irem, 1) := by decide +kernel
theorem dX6_stir_6 : decode cX6_stir 6 = .ok (.istore_n 2, 1) := by decide +kernel
theorem dX6_stir_7 : decode cX6_stir 7 = .ok (.iload_n 1, 1) := by decide +kernel
theorem dX6_stir_8 : decode cX6_stir 8 = .ok (.bipush 64, 2) := by decide +kernel
theorem dX6_stir_10 : decode cX6_stir 10 = .ok (.idiv, 1) := by decide +kernel
theorem dX6_stir_11 : decode cX6_stir 11 = .ok (.bipush 16, 2) := by decide +kernel
theorem dX6_stir_13 : decode cX6_stir 13 = .ok (.irem, 1) := by decide +kernel
theorem dX6_stir_14 : decode cX6_stir 14 = .ok (.istore_n 3, 1) := by decide +kernel
theorem dX6_stir_15 : decode cX6_stir 15 = .ok (.iload_n 1, 1) := by decide +kernel
theorem dX6_stir_16 : decode cX6_stir 16 = .ok (.bipush 16, 2) := by decide +kernel
theorem dX6_stir_18 : decode cX6_stir 18 = .ok (.irem, 1) := by decide +kernel
theorem dX6_stir_19 : decode cX6_stir 19 = .ok (.tableswitch 128 0 9 #[53, 53, 53, 63, 63, 73, 73, 83, 93, 108], 53) := by decide +kernel
theorem dX6_stir_72 : decode cX6_stir 72 = .ok (.aload_n 0, 1) := by decide +kernel
theorem dX6_stir_73 : decode cX6_stir 73 = .ok (.iload_n 2, 1) := by decide +kernel
theorem dX6_stir_74 : decode cX6_stir 74 = .ok (.iconst 0, 1) := by decide +kernel
theorem dX6_stir_75 : decode cX6_stir 75 = .ok (.invokevirtual 255, 3) := by decide +kernel
theorem dX6_stir_78 : decode cX6_stir 78 = .ok (.pop, 1) := by decide +kernel
theorem dX6_stir_79 : decode cX6_stir 79 = .ok (.goto 83, 3) := by decide +kernel
theorem dX6_stir_82 : decode cX6_stir 82 = .ok (.aload_n 0, 1) := by decide +kernel
theorem dX6_stir_83 : decode cX6_stir 83 = .ok (.iload_n 2, 1) := by decide +kernel
theorem dX6_stir_84 : decode cX6_stir 84 = .ok (.iconst 1, 1) := by decide +kernel
theorem dX6_stir_85 : decode cX6_stir 85 = .ok (.invokevirtual 255, 3) := by decide +kernel
theorem dX6_stir_88 : decode cX6_stir 88 = .ok (.pop, 1) := by decide +kernel
theorem dX6_stir_89 : decode cX6_stir 89 = .ok (.goto 73, 3) := by decide +kernel
theorem dX6_stir_92 : decode cX6_stir 92 = .ok (.aload_n 0, 1) := by decide +kernel
theorem dX6_stir_93 : decode cX6_stir 93 = .ok (.iload_n 2, 1) := by decide +kernel
theorem dX6_stir_94 : decode cX6_stir 94 = .ok (.iconst 2, 1) := by decide +kernel
theorem dX6_stir_95 : decode cX6_stir 95 = .ok (.invokevirtual 255, 3) := by decide +kernel
theorem dX6_stir_98 : decode cX6_stir 98 = .ok (.pop, 1) := by decide +kernel
theorem dX6_stir_99 : decode cX6_stir 99 = .ok (.goto 63, 3) := by decide +kernel
theorem dX6_stir_102 : decode cX6_stir 102 = .ok (.aload_n 0, 1) := by decide +kernel
theorem dX6_stir_103 : decode cX6_stir 103 = .ok (.iload_n 2, 1) := by decide +kernel
theorem dX6_stir_104 : decode cX6_stir 104 = .ok (.iconst 3, 1) := by decide +kernel
theorem dX6_stir_105 : decode cX6_stir 105 = .ok (.invokevirtual 255, 3) := by decide +kernel
theorem dX6_stir_108 : decode cX6_stir 108 = .ok (.pop, 1) := by decide +kernel
theorem dX6_stir_109 : decode cX6_stir 109 = .ok (.goto 53, 3) := by decide +kernel
theorem dX6_stir_112 : decode cX6_stir 112 = .ok (.aload_n 0, 1) := by decide +kernel
theorem dX6_stir_113 : decode cX6_stir 113 = .ok (.iload_n 2, 1) := by decide +kernel
theorem dX6_stir_114 : decode cX6_stir 114 = .ok (.iload_n 1, 1) := by decide +kernel
theorem dX6_stir_115 : decode cX6_stir 115 = .ok (.bipush 64, 2) := by decide +kernel
theorem dX6_stir_117 : decode cX6_stir 117 = .ok (.idiv, 1) := by decide +kernel
theorem dX6_stir_118 : decode cX6_stir 118 = .ok (.iconst 4, 1) := by decide +kernel
theorem dX6_stir_119 : decode cX6_stir 119 = .ok (.irem, 1) := by decide +kernel
theorem dX6_stir_120 : decode cX6_stir 120 = .ok (.invokevirtual 263, 3) := by decide +kernel
theorem dX6_stir_123 : decode cX6_stir 123 = .ok (.pop, 1) := by decide +kernel
theorem dX6_stir_124 : decode cX6_stir 124 = .ok (.goto 38, 3) := by decide +kernel
theorem dX6_stir_127 : decode cX6_stir 127 = .ok (.aload_n 0, 1) := by decide +kernel
theorem dX6_stir_128 : decode cX6_stir 128 = .ok (.iload_n 2, 1) := by decide +kernel
theorem dX6_stir_129 : decode cX6_stir 129 = .ok (.iload_n 3, 1) := by decide +kernel
theorem dX6_stir_130 : decode cX6_stir 130 = .ok (.iconst 1, 1) := by decide +kernel
theorem dX6_stir_131 : decode cX6_stir 131 = .ok (.iload_n 1, 1) := by decide +kernel
theorem dX6_stir_132 : decode cX6_stir 132 = .ok (.sipush 1024, 3) := by decide +kernel
theorem dX6_stir_135 : decode cX6_stir 135 = .ok (.idiv, 1) := by decide +kernel
theorem dX6_stir_136 : decode cX6_stir 136 = .ok (.bipush 99, 2) := by decide +kernel
theorem dX6_stir_138 : decode cX6_stir 138 = .ok (.irem, 1) := by decide +kernel
theorem dX6_stir_139 : decode cX6_stir 139 = .ok (.iadd, 1) := by decide +kernel
theorem dX6_stir_140 : decode cX6_stir 140 = .ok (.invokevirtual 266, 3) := by decide +kernel
theorem dX6_stir_143 : decode cX6_stir 143 = .ok (.pop, 1) := by decide +kernel
theorem dX6_stir_144 : decode cX6_stir 144 = .ok (.goto 18, 3) := by decide +kernel
theorem dX6_stir_147 : decode cX6_stir 147 = .ok (.aload_n 0, 1) := by decide +kernel
theorem dX6_stir_148 : decode cX6_stir 148 = .ok (.iload_n 2, 1) := by decide +kernel
theorem dX6_stir_149 : decode cX6_stir 149 = .ok (.iload_n 3, 1) := by decide +kernel
theorem dX6_stir_150 : decode cX6_stir 150 = .ok (.iload_n 1, 1) := by decide +kernel
theorem dX6_stir_151 : decode cX6_stir 151 = .ok (.sipush 1024, 3) := by decide +kernel
theorem dX6_stir_154 : decode cX6_stir 154 = .ok (.idiv, 1) := by decide +kernel
theorem dX6_stir_155 : decode cX6_stir 155 = .ok (.bipush 100, 2) := by decide +kernel
theorem dX6_stir_157 : decode cX6_stir 157 = .ok (.irem, 1) := by decide +kernel
theorem dX6_stir_158 : decode cX6_stir 158 = .ok (.invokevirtual 259, 3) := by decide +kernel
theorem dX6_stir_161 : decode cX6_stir 161 = .ok (.pop, 1) := by decide +kernel
theorem dX6_stir_162 : decode cX6_stir 162 = .ok (.return_, 1) := by decide +kernel
theorem dX6_simulate_0 : decode cX6_simulate 0 = .ok (.aload_n 0, 1) := by decide +kernel
theorem dX6_simulate_1 : decode cX6_simulate 1 = .ok (.iload_n 3, 1) := by decide +kernel
theorem dX6_simulate_2 : decode cX6_simulate 2 = .ok (.i2l, 1) := by decide +kernel
theorem dX6_simulate_3 : decode cX6_simulate 3 = .ok (.lconst 1, 1) := by decide +kernel
theorem dX6_simulate_4 : decode cX6_simulate 4 = .ok (.ldc2_w 242, 3) := by decide +kernel
theorem dX6_simulate_7 : decode cX6_simulate 7 = .ok (.invokestatic 92, 3) := by decide +kernel
theorem dX6_simulate_10 : decode cX6_simulate 10 = .ok (.ifCond .eq 7, 3) := by decide +kernel
theorem dX6_simulate_13 : decode cX6_simulate 13 = .ok (.iconst 0, 1) := by decide +kernel
theorem dX6_simulate_14 : decode cX6_simulate 14 = .ok (.goto 4, 3) := by decide +kernel
theorem dX6_simulate_17 : decode cX6_simulate 17 = .ok (.iconst 1, 1) := by decide +kernel
theorem dX6_simulate_18 : decode cX6_simulate 18 = .ok (.invokevirtual 118, 3) := by decide +kernel
theorem dX6_simulate_21 : decode cX6_simulate 21 = .ok (.ifCond .eq 5, 3) := by decide +kernel
theorem dX6_simulate_24 : decode cX6_simulate 24 = .ok (.iconst 0, 1) := by decide +kernel
theorem dX6_simulate_25 : decode cX6_simulate 25 = .ok (.ireturn, 1) := by decide +kernel
theorem dX6_simulate_26 : decode cX6_simulate 26 = .ok (.aload_n 0, 1) := by decide +kernel
theorem dX6_simulate_27 : decode cX6_simulate 27 = .ok (.invokevirtual 249, 3) := by decide +kernel
theorem dX6_simulate_30 : decode cX6_simulate 30 = .ok (.lload_n 1, 1) := by decide +kernel
theorem dX6_simulate_31 : decode cX6_simulate 31 = .ok (.lstore 4, 2) := by decide +kernel
theorem dX6_simulate_33 : decode cX6_simulate 33 = .ok (.iconst 0, 1) := by decide +kernel
theorem dX6_simulate_34 : decode cX6_simulate 34 = .ok (.istore 6, 2) := by decide +kernel
theorem dX6_simulate_36 : decode cX6_simulate 36 = .ok (.iload 6, 2) := by decide +kernel
theorem dX6_simulate_38 : decode cX6_simulate 38 = .ok (.iload_n 3, 1) := by decide +kernel
theorem dX6_simulate_39 : decode cX6_simulate 39 = .ok (.if_icmp .ge 31, 3) := by decide +kernel
theorem dX6_simulate_42 : decode cX6_simulate 42 = .ok (.lload 4, 2) := by decide +kernel
theorem dX6_simulate_44 : decode cX6_simulate 44 = .ok (.ldc2_w 278, 3) := by decide +kernel
theorem dX6_simulate_47 : decode cX6_simulate 47 = .ok (.lmul, 1) := by decide +kernel
theorem dX6_simulate_48 : decode cX6_simulate 48 = .ok (.ldc2_w 280, 3) := by decide +kernel
theorem dX6_simulate_51 : decode cX6_simulate 51 = .ok (.ladd, 1) := by decide +kernel
theorem dX6_simulate_52 : decode cX6_simulate 52 = .ok (.lstore 4, 2) := by decide +kernel
theorem dX6_simulate_54 : decode cX6_simulate 54 = .ok (.aload_n 0, 1) := by decide +kernel
theorem dX6_simulate_55 : decode cX6_simulate 55 = .ok (.lload 4, 2) := by decide +kernel
theorem dX6_simulate_57 : decode cX6_simulate 57 = .ok (.bipush 33, 2) := by decide +kernel
theorem dX6_simulate_59 : decode cX6_simulate 59 = .ok (.lushr, 1) := by decide +kernel
theorem dX6_simulate_60 : decode cX6_simulate 60 = .ok (.l2i, 1) := by decide +kernel
theorem dX6_simulate_61 : decode cX6_simulate 61 = .ok (.invokevirtual 282, 3) := by decide +kernel
theorem dX6_simulate_64 : decode cX6_simulate 64 = .ok (.iinc 6 1, 3) := by decide +kernel
theorem dX6_simulate_67 : decode cX6_simulate 67 = .ok (.goto (-31), 3) := by decide +kernel
theorem dX6_simulate_70 : decode cX6_simulate 70 = .ok (.sipush 1000, 3) := by decide +kernel
theorem dX6_simulate_73 : decode cX6_simulate 73 = .ok (.aload_n 0, 1) := by decide +kernel
theorem dX6_simulate_74 : decode cX6_simulate 74 = .ok (.getfield 19, 3) := by decide +kernel
theorem dX6_simulate_77 : decode cX6_simulate 77 = .ok (.bipush 33, 2) := by decide +kernel
theorem dX6_simulate_79 : decode cX6_simulate 79 = .ok (.iaload, 1) := by decide +kernel
theorem dX6_simulate_80 : decode cX6_simulate 80 = .ok (.aload_n 0, 1) := by decide +kernel
theorem dX6_simulate_81 : decode cX6_simulate 81 = .ok (.getfield 16, 3) := by decide +kernel
theorem dX6_simulate_84 : decode cX6_simulate 84 = .ok (.bipush 33, 2) := by decide +kernel
theorem dX6_simulate_86 : decode cX6_simulate 86 = .ok (.iaload, 1) := by decide +kernel
theorem dX6_simulate_87 : decode cX6_simulate 87 = .ok (.isub, 1) := by decide +kernel
theorem dX6_simulate_88 : decode cX6_simulate 88 = .ok (.imul, 1) := by decide +kernel
theorem dX6_simulate_89 : decode cX6_simulate 89 = .ok (.aload_n 0, 1) := by decide +kernel
theorem dX6_simulate_90 : decode cX6_simulate 90 = .ok (.getfield 19, 3) := by decide +kernel
theorem dX6_simulate_93 : decode cX6_simulate 93 = .ok (.bipush 34, 2) := by decide +kernel
theorem dX6_simulate_95 : decode cX6_simulate 95 = .ok (.iaload, 1) := by decide +kernel
theorem dX6_simulate_96 : decode cX6_simulate 96 = .ok (.iadd, 1) := by decide +kernel
theorem dX6_simulate_97 : decode cX6_simulate 97 = .ok (.aload_n 0, 1) := by decide +kernel
theorem dX6_simulate_98 : decode cX6_simulate 98 = .ok (.getfield 16, 3) := by decide +kernel
theorem dX6_simulate_101 : decode cX6_simulate 101 = .ok (.bipush 34, 2) := by decide +kernel
theorem dX6_simulate_103 : decode cX6_simulate 103 = .ok (.iaload, 1) := by decide +kernel
theorem dX6_simulate_104 : decode cX6_simulate 104 = .ok (.isub, 1) := by decide +kernel
theorem dX6_simulate_105 : decode cX6_simulate 105 = .ok (.ireturn, 1) := by decide +kernel
theorem dX6_save_0 : decode cX6_save 0 = .ok (.aload_n 0, 1) := by decide +kernel
theorem dX6_save_1 : decode cX6_save 1 = .ok (.iload_n 1, 1) := by decide +kernel
theorem dX6_save_2 : decode cX6_save 2 = .ok (.i2l, 1) := by decide +kernel
theorem dX6_save_3 : decode cX6_save 3 = .ok (.lconst 0, 1) := by decide +kernel
theorem dX6_save_4 : decode cX6_save 4 = .ok (.lconst 1, 1) := by decide +kernel
theorem dX6_save_5 : decode cX6_save 5 = .ok (.invokestatic 92, 3) := by decide +kernel
theorem dX6_save_8 : decode cX6_save 8 = .ok (.ifCond .eq 7, 3) := by decide +kernel
theorem dX6_save_11 : decode cX6_save 11 = .ok (.iconst 0, 1) := by decide +kernel
theorem dX6_save_12 : decode cX6_save 12 = .ok (.goto 4, 3) := by decide +kernel
theorem dX6_save_15 : decode cX6_save 15 = .ok (.iconst 1, 1) := by decide +kernel
theorem dX6_save_16 : decode cX6_save 16 = .ok (.invokevirtual 118, 3) := by decide +kernel
theorem dX6_save_19 : decode cX6_save 19 = .ok (.ifCond .eq 5, 3) := by decide +kernel
theorem dX6_save_22 : decode cX6_save 22 = .ok (.iconst 0, 1) := by decide +kernel
theorem dX6_save_23 : decode cX6_save 23 = .ok (.ireturn, 1) := by decide +kernel
theorem dX6_save_24 : decode cX6_save 24 = .ok (.aload_n 0, 1) := by decide +kernel
theorem dX6_save_25 : decode cX6_save 25 = .ok (.getfield 16, 3) := by decide +kernel
theorem dX6_save_28 : decode cX6_save 28 = .ok (.iconst 0, 1) := by decide +kernel
theorem dX6_save_29 : decode cX6_save 29 = .ok (.aload_n 0, 1) := by decide +kernel
theorem dX6_save_30 : decode cX6_save 30 = .ok (.getfield 34, 3) := by decide +kernel
theorem dX6_save_33 : decode cX6_save 33 = .ok (.sipush 4086, 3) := by decide +kernel
theorem dX6_save_36 : decode cX6_save 36 = .ok (.iload_n 1, 1) := by decide +kernel
theorem dX6_save_37 : decode cX6_save 37 = .ok (.imul, 1) := by decide +kernel
theorem dX6_save_38 : decode cX6_save 38 = .ok (.sipush 4086, 3) := by decide +kernel
theorem dX6_save_41 : decode cX6_save 41 = .ok (.invokestatic 54, 3) := by decide +kernel
theorem dX6_save_44 : decode cX6_save 44 = .ok (.aload_n 0, 1) := by decide +kernel
theorem dX6_save_45 : decode cX6_save 45 = .ok (.getfield 37, 3) := by decide +kernel
theorem dX6_save_48 : decode cX6_save 48 = .ok (.iload_n 1, 1) := by decide +kernel
theorem dX6_save_49 : decode cX6_save 49 = .ok (.iconst 1, 1) := by decide +kernel
theorem dX6_save_50 : decode cX6_save 50 = .ok (.bastore, 1) := by decide +kernel
theorem dX6_save_51 : decode cX6_save 51 = .ok (.aload_n 0, 1) := by decide +kernel
theorem dX6_save_52 : decode cX6_save 52 = .ok (.getfield 16, 3) := by decide +kernel
theorem dX6_save_55 : decode cX6_save 55 = .ok (.invokestatic 209, 3) := by decide +kernel
theorem dX6_save_58 : decode cX6_save 58 = .ok (.ireturn, 1) := by decide +kernel
theorem dX6_restore_0 : decode cX6_restore 0 = .ok (.aload_n 0, 1) := by decide +kernel
theorem dX6_restore_1 : decode cX6_restore 1 = .ok (.iload_n 1, 1) := by decide +kernel
theorem dX6_restore_2 : decode cX6_restore 2 = .ok (.i2l, 1) := by decide +kernel
theorem dX6_restore_3 : decode cX6_restore 3 = .ok (.lconst 0, 1) := by decide +kernel
theorem dX6_restore_4 : decode cX6_restore 4 = .ok (.lconst 1, 1) := by decide +kernel
theorem dX6_restore_5 : decode cX6_restore 5 = .ok (.invokestatic 92, 3) := by decide +kernel
theorem dX6_restore_8 : decode cX6_restore 8 = .ok (.ifCond .ne 7, 3) := by decide +kernel
theorem dX6_restore_11 : decode cX6_restore 11 = .ok (.iconst 1, 1) := by decide +kernel
theorem dX6_restore_12 : decode cX6_restore 12 = .ok (.goto 17, 3) := by decide +kernel
theorem dX6_restore_15 : decode cX6_restore 15 = .ok (.aload_n 0, 1) := by decide +kernel
theorem dX6_restore_16 : decode cX6_restore 16 = .ok (.getfield 37, 3) := by decide +kernel
theorem dX6_restore_19 : decode cX6_restore 19 = .ok (.iload_n 1, 1) := by decide +kernel
theorem dX6_restore_20 : decode cX6_restore 20 = .ok (.baload, 1) := by decide +kernel
theorem dX6_restore_21 : decode cX6_restore 21 = .ok (.ifCond .eq 7, 3) := by decide +kernel
theorem dX6_restore_24 : decode cX6_restore 24 = .ok (.iconst 0, 1) := by decide +kernel
theorem dX6_restore_25 : decode cX6_restore 25 = .ok (.goto 4, 3) := by decide +kernel
theorem dX6_restore_28 : decode cX6_restore 28 = .ok (.iconst 2, 1) := by decide +kernel
theorem dX6_restore_29 : decode cX6_restore 29 = .ok (.invokevirtual 118, 3) := by decide +kernel
theorem dX6_restore_32 : decode cX6_restore 32 = .ok (.ifCond .eq 5, 3) := by decide +kernel
theorem dX6_restore_35 : decode cX6_restore 35 = .ok (.iconst 0, 1) := by decide +kernel
theorem dX6_restore_36 : decode cX6_restore 36 = .ok (.ireturn, 1) := by decide +kernel
theorem dX6_restore_37 : decode cX6_restore 37 = .ok (.aload_n 0, 1) := by decide +kernel
theorem dX6_restore_38 : decode cX6_restore 38 = .ok (.getfield 34, 3) := by decide +kernel
theorem dX6_restore_41 : decode cX6_restore 41 = .ok (.sipush 4086, 3) := by decide +kernel
theorem dX6_restore_44 : decode cX6_restore 44 = .ok (.iload_n 1, 1) := by decide +kernel
theorem dX6_restore_45 : decode cX6_restore 45 = .ok (.imul, 1) := by decide +kernel
theorem dX6_restore_46 : decode cX6_restore 46 = .ok (.aload_n 0, 1) := by decide +kernel
theorem dX6_restore_47 : decode cX6_restore 47 = .ok (.getfield 16, 3) := by decide +kernel
theorem dX6_restore_50 : decode cX6_restore 50 = .ok (.iconst 0, 1) := by decide +kernel
theorem dX6_restore_51 : decode cX6_restore 51 = .ok (.sipush 4086, 3) := by decide +kernel
theorem dX6_restore_54 : decode cX6_restore 54 = .ok (.invokestatic 54, 3) := by decide +kernel
theorem dX6_restore_57 : decode cX6_restore 57 = .ok (.aload_n 0, 1) := by decide +kernel
theorem dX6_restore_58 : decode cX6_restore 58 = .ok (.iconst 0, 1) := by decide +kernel
theorem dX6_restore_59 : decode cX6_restore 59 = .ok (.putfield 58, 3) := by decide +kernel
theorem dX6_restore_62 : decode cX6_restore 62 = .ok (.aload_n 0, 1) := by decide +kernel
theorem dX6_restore_63 : decode cX6_restore 63 = .ok (.getfield 16, 3) := by decide +kernel
theorem dX6_restore_66 : decode cX6_restore 66 = .ok (.invokestatic 209, 3) := by decide +kernel
theorem dX6_restore_69 : decode cX6_restore 69 = .ok (.ireturn, 1) := by decide +kernel
end
section
theorem dJ9_max_7cf53_0 : decode cJ9_max_7cf53 0 = .ok (.iload_n 0, 1) := by decide +kernel
theorem dJ9_max_7cf53_1 : decode cJ9_max_7cf53 1 = .ok (.iload_n 1, 1) := by decide +kernel
theorem dJ9_max_7cf53_2 : decode cJ9_max_7cf53 2 = .ok (.if_icmp .lt 7, 3) := by decide +kernel
theorem dJ9_max_7cf53_5 : decode cJ9_max_7cf53 5 = .ok (.iload_n 0, 1) := by decide +kernel
theorem dJ9_max_7cf53_6 : decode cJ9_max_7cf53 6 = .ok (.goto 4, 3) := by decide +kernel
theorem dJ9_max_7cf53_9 : decode cJ9_max_7cf53 9 = .ok (.iload_n 1, 1) := by decide +kernel
theorem dJ9_max_7cf53_10 : decode cJ9_max_7cf53 10 = .ok (.ireturn, 1) := by decide +kernel
theorem dJ9_min_7cf53_0 : decode cJ9_min_7cf53 0 = .ok (.iload_n 0, 1) := by decide +kernel
theorem dJ9_min_7cf53_1 : decode cJ9_min_7cf53 1 = .ok (.iload_n 1, 1) := by decide +kernel
theorem dJ9_min_7cf53_2 : decode cJ9_min_7cf53 2 = .ok (.if_icmp .gt 7, 3) := by decide +kernel
theorem dJ9_min_7cf53_5 : decode cJ9_min_7cf53 5 = .ok (.iload_n 0, 1) := by decide +kernel
theorem dJ9_min_7cf53_6 : decode cJ9_min_7cf53 6 = .ok (.goto 4, 3) := by decide +kernel
theorem dJ9_min_7cf53_9 : decode cJ9_min_7cf53 9 = .ok (.iload_n 1, 1) := by decide +kernel
theorem dJ9_min_7cf53_10 : decode cJ9_min_7cf53 10 = .ok (.ireturn, 1) := by decide +kernel
theorem dJ0_length_8abf5_0 : decode cJ0_length_8abf5 0 = .ok (.aload_n 0, 1) := by decide +kernel
theorem dJ0_length_8abf5_1 : decode cJ0_length_8abf5 1 = .ok (.getfield 9, 3) := by decide +kernel
theorem dJ0_length_8abf5_4 : decode cJ0_length_8abf5 4 = .ok (.arraylength, 1) := by decide +kernel
theorem dJ0_length_8abf5_5 : decode cJ0_length_8abf5 5 = .ok (.aload_n 0, 1) := by decide +kernel
theorem dJ0_length_8abf5_6 : decode cJ0_length_8abf5 6 = .ok (.invokevirtual 335, 3) := by decide +kernel
theorem dJ0_length_8abf5_9 : decode cJ0_length_8abf5 9 = .ok (.ishr, 1) := by decide +kernel
theorem dJ0_length_8abf5_10 : decode cJ0_length_8abf5 10 = .ok (.ireturn, 1) := by decide +kernel
theorem dJ0_isEmpty_aae02_0 : decode cJ0_isEmpty_aae02 0 = .ok (.aload_n 0, 1) := by decide +kernel
theorem dJ0_isEmpty_aae02_1 : decode cJ0_isEmpty_aae02 1 = .ok (.getfield 9, 3) := by decide +kernel
theorem dJ0_isEmpty_aae02_4 : decode cJ0_isEmpty_aae02 4 = .ok (.arraylength, 1) := by decide +kernel
theorem dJ0_isEmpty_aae02_5 : decode cJ0_isEmpty_aae02 5 = .ok (.ifCond .ne 7, 3) := by decide +kernel
theorem dJ0_isEmpty_aae02_8 : decode cJ0_isEmpty_aae02 8 = .ok (.iconst 1, 1) := by decide +kernel
theorem dJ0_isEmpty_aae02_9 : decode cJ0_isEmpty_aae02 9 = .ok (.goto 4, 3) := by decide +kernel
theorem dJ0_isEmpty_aae02_12 : decode cJ0_isEmpty_aae02 12 = .ok (.iconst 0, 1) := by decide +kernel
theorem dJ0_isEmpty_aae02_13 : decode cJ0_isEmpty_aae02 13 = .ok (.ireturn, 1) := by decide +kernel
theorem dJ0_charAt_5068e_0 : decode cJ0_charAt_5068e 0 = .ok (.aload_n 0, 1) := by decide +kernel
theorem dJ0_charAt_5068e_1 : decode cJ0_charAt_5068e 1 = .ok (.invokevirtual 492, 3) := by decide +kernel
theorem dJ0_charAt_5068e_4 : decode cJ0_charAt_5068e 4 = .ok (.ifCond .eq 12, 3) := by decide +kernel
theorem dJ0_charAt_5068e_7 : decode cJ0_charAt_5068e 7 = .ok (.aload_n 0, 1) := by decide +kernel
theorem dJ0_charAt_5068e_8 : decode cJ0_charAt_5068e 8 = .ok (.getfield 9, 3) := by decide +kernel
theorem dJ0_charAt_5068e_11 : decode cJ0_charAt_5068e 11 = .ok (.iload_n 1, 1) := by decide +kernel
theorem dJ0_charAt_5068e_12 : decode cJ0_charAt_5068e 12 = .ok (.invokestatic 495, 3) := by decide +kernel
theorem dJ0_charAt_5068e_15 : decode cJ0_charAt_5068e 15 = .ok (.ireturn, 1) := by decide +kernel
theorem dJ0_charAt_5068e_16 : decode cJ0_charAt_5068e 16 = .ok (.aload_n 0, 1) := by decide +kernel
theorem dJ0_charAt_5068e_17 : decode cJ0_charAt_5068e 17 = .ok (.getfield 9, 3) := by decide +kernel
theorem dJ0_charAt_5068e_20 : decode cJ0_charAt_5068e 20 = .ok (.iload_n 1, 1) := by decide +kernel
theorem dJ0_charAt_5068e_21 : decode cJ0_charAt_5068e 21 = .ok (.invokestatic 498, 3) := by decide +kernel
theorem dJ0_charAt_5068e_24 : decode cJ0_charAt_5068e 24 = .ok (.ireturn, 1) := by decide +kernel
theorem dJ0_coder_7d493_0 : decode cJ0_coder_7d493 0 = .ok (.getstatic 38, 3) := by decide +kernel
theorem dJ0_coder_7d493_3 : decode cJ0_coder_7d493 3 = .ok (.ifCond .eq 10, 3) := by decide +kernel
theorem dJ0_coder_7d493_6 : decode cJ0_coder_7d493 6 = .ok (.aload_n 0, 1) := by decide +kernel
theorem dJ0_coder_7d493_7 : decode cJ0_coder_7d493 7 = .ok (.getfield 15, 3) := by decide +kernel
theorem dJ0_coder_7d493_10 : decode cJ0_coder_7d493 10 = .ok (.goto 4, 3) := by decide +kernel
theorem dJ0_coder_7d493_13 : decode cJ0_coder_7d493 13 = .ok (.iconst 1, 1) := by decide +kernel
theorem dJ0_coder_7d493_14 : decode cJ0_coder_7d493 14 = .ok (.ireturn, 1) := by decide +kernel
theorem dJ0_isLatin1_aae02_0 : decode cJ0_isLatin1_aae02 0 = .ok (.getstatic 38, 3) := by decide +kernel
theorem dJ0_isLatin1_aae02_3 : decode cJ0_isLatin1_aae02 3 = .ok (.ifCond .eq 14, 3) := by decide +kernel
theorem dJ0_isLatin1_aae02_6 : decode cJ0_isLatin1_aae02 6 = .ok (.aload_n 0, 1) := by decide +kernel
theorem dJ0_isLatin1_aae02_7 : decode cJ0_isLatin1_aae02 7 = .ok (.getfield 15, 3) := by decide +kernel
theorem dJ0_isLatin1_aae02_10 : decode cJ0_isLatin1_aae02 10 = .ok (.ifCond .ne 7, 3) := by decide +kernel
theorem dJ0_isLatin1_aae02_13 : decode cJ0_isLatin1_aae02 13 = .ok (.iconst 1, 1) := by decide +kernel
theorem dJ0_isLatin1_aae02_14 : decode cJ0_isLatin1_aae02 14 = .ok (.goto 4, 3) := by decide +kernel
theorem dJ0_isLatin1_aae02_17 : decode cJ0_isLatin1_aae02 17 = .ok (.iconst 0, 1) := by decide +kernel
theorem dJ0_isLatin1_aae02_18 : decode cJ0_isLatin1_aae02 18 = .ok (.ireturn, 1) := by decide +kernel
theorem dJ0_checkIndex_df160_0 : decode cJ0_checkIndex_df160 0 = .ok (.iload_n 0, 1) := by decide +kernel
theorem dJ0_checkIndex_df160_1 : decode cJ0_checkIndex_df160 1 = .ok (.iload_n 1, 1) := by decide +kernel
theorem dJ0_checkIndex_df160_2 : decode cJ0_checkIndex_df160 2 = .ok (.getstatic 1053, 3) := by decide +kernel
theorem dJ0_checkIndex_df160_5 : decode cJ0_checkIndex_df160 5 = .ok (.invokestatic 1059, 3) := by decide +kernel
theorem dJ0_checkIndex_df160_8 : decode cJ0_checkIndex_df160 8 = .ok (.pop, 1) := by decide +kernel
theorem dJ0_checkIndex_df160_9 : decode cJ0_checkIndex_df160 9 = .ok (.return_, 1) := by decide +kernel
theorem dJ1_charAt_3b067_0 : decode cJ1_charAt_3b067 0 = .ok (.iload_n 1, 1) := by decide +kernel
theorem dJ1_charAt_3b067_1 : decode cJ1_charAt_3b067 1 = .ok (.aload_n 0, 1) := by decide +kernel
theorem dJ1_charAt_3b067_2 : decode cJ1_charAt_3b067 2 = .ok (.arraylength, 1) := by decide +kernel
theorem dJ1_charAt_3b067_3 : decode cJ1_charAt_3b067 3 = .ok (.invokestatic 9, 3) := by decide +kernel
theorem dJ1_charAt_3b067_6 : decode cJ1_charAt_3b067 6 = .ok (.aload_n 0, 1) := by decide +kernel
theorem dJ1_charAt_3b067_7 : decode cJ1_charAt_3b067 7 = .ok (.iload_n 1, 1) := by decide +kernel
theorem dJ1_charAt_3b067_8 : decode cJ1_charAt_3b067 8 = .ok (.baload, 1) := by decide +kernel
theorem dJ1_charAt_3b067_9 : decode cJ1_charAt_3b067 9 = .ok (.sipush 255, 3) := by decide +kernel
theorem dJ1_charAt_3b067_12 : decode cJ1_charAt_3b067 12 = .ok (.iand, 1) := by decide +kernel
theorem dJ1_charAt_3b067_13 : decode cJ1_charAt_3b067 13 = .ok (.i2c, 1) := by decide +kernel
theorem dJ1_charAt_3b067_14 : decode cJ1_charAt_3b067 14 = .ok (.ireturn, 1) := by decide +kernel
theorem dJ2_getChar_3b067_0 : decode cJ2_getChar_3b067 0 = .ok (.getstatic 44, 3) := by decide +kernel
theorem dJ2_getChar_3b067_3 : decode cJ2_getChar_3b067 3 = .ok (.ifCond .ne 25, 3) := by decide +kernel
theorem dJ2_getChar_3b067_6 : decode cJ2_getChar_3b067 6 = .ok (.iload_n 1, 1) := by decide +kernel
theorem dJ2_getChar_3b067_7 : decode cJ2_getChar_3b067 7 = .ok (.ifCond .lt 11, 3) := by decide +kernel
theorem dJ2_getChar_3b067_10 : decode cJ2_getChar_3b067 10 = .ok (.iload_n 1, 1) := by decide +kernel
theorem dJ2_getChar_3b067_11 : decode cJ2_getChar_3b067 11 = .ok (.aload_n 0, 1) := by decide +kernel
theorem dJ2_getChar_3b067_12 : decode cJ2_getChar_3b067 12 = .ok (.invokestatic 48, 3) := by decide +kernel
theorem dJ2_getChar_3b067_15 : decode cJ2_getChar_3b067 15 = .ok (.if_icmp .lt 13, 3) := by decide +kernel
theorem dJ2_getChar_3b067_18 : decode cJ2_getChar_3b067 18 = .ok (.new 52, 3) := by decide +kernel
theorem dJ2_getChar_3b067_21 : decode cJ2_getChar_3b067 21 = .ok (.dup, 1) := by decide +kernel
theorem dJ2_getChar_3b067_22 : decode cJ2_getChar_3b067 22 = .ok (.ldc 54, 2) := by decide +kernel
theorem dJ2_getChar_3b067_24 : decode cJ2_getChar_3b067 24 = .ok (.invokespecial 56, 3) := by decide +kernel
theorem dJ2_getChar_3b067_27 : decode cJ2_getChar_3b067 27 = .ok (.athrow, 1) := by decide +kernel
theorem dJ2_getChar_3b067_28 : decode cJ2_getChar_3b067 28 = .ok (.iload_n 1, 1) := by decide +kernel
theorem dJ2_getChar_3b067_29 : decode cJ2_getChar_3b067 29 = .ok (.iconst 1, 1) := by decide +kernel
theorem dJ2_getChar_3b067_30 : decode cJ2_getChar_3b067 30 = .ok (.ishl, 1) := by decide +kernel
theorem dJ2_getChar_3b067_31 : decode cJ2_getChar_3b067 31 = .ok (.istore_n 1, 1) := by decide +kernel
theorem dJ2_getChar_3b067_32 : decode cJ2_getChar_3b067 32 = .ok (.aload_n 0, 1) := by decide +kernel
theorem dJ2_getChar_3b067_33 : decode cJ2_getChar_3b067 33 = .ok (.iload_n 1, 1) := by decide +kernel
theorem dJ2_getChar_3b067_34 : decode cJ2_getChar_3b067 34 = .ok (.iinc 1 1, 3) := by decide +kernel
theorem dJ2_getChar_3b067_37 : decode cJ2_getChar_3b067 37 = .ok (.baload, 1) := by decide +kernel
theorem dJ2_getChar_3b067_38 : decode cJ2_getChar_3b067 38 = .ok (.sipush 255, 3) := by decide +kernel
theorem dJ2_getChar_3b067_41 : decode cJ2_getChar_3b067 41 = .ok (.iand, 1) := by decide +kernel
theorem dJ2_getChar_3b067_42 : decode cJ2_getChar_3b067 42 = .ok (.getstatic 59, 3) := by decide +kernel
theorem dJ2_getChar_3b067_45 : decode cJ2_getChar_3b067 45 = .ok (.ishl, 1) := by decide +kernel
theorem dJ2_getChar_3b067_46 : decode cJ2_getChar_3b067 46 = .ok (.aload_n 0, 1) := by decide +kernel
theorem dJ2_getChar_3b067_47 : decode cJ2_getChar_3b067 47 = .ok (.iload_n 1, 1) := by decide +kernel
theorem dJ2_getChar_3b067_48 : decode cJ2_getChar_3b067 48 = .ok (.baload, 1) := by decide +kernel
theorem dJ2_getChar_3b067_49 : decode cJ2_getChar_3b067 49 = .ok (.sipush 255, 3) := by decide +kernel
theorem dJ2_getChar_3b067_52 : decode cJ2_getChar_3b067 52 = .ok (.iand, 1) := by decide +kernel
theorem dJ2_getChar_3b067_53 : decode cJ2_getChar_3b067 53 = .ok (.getstatic 63, 3) := by decide +kernel
theorem dJ2_getChar_3b067_56 : decode cJ2_getChar_3b067 56 = .ok (.ishl, 1) := by decide +kernel
theorem dJ2_getChar_3b067_57 : decode cJ2_getChar_3b067 57 = .ok (.ior, 1) := by decide +kernel
theorem dJ2_getChar_3b067_58 : decode cJ2_getChar_3b067 58 = .ok (.i2c, 1) := by decide +kernel
theorem dJ2_getChar_3b067_59 : decode cJ2_getChar_3b067 59 = .ok (.ireturn, 1) := by decide +kernel
theorem dJ2_length_9d52b_0 : decode cJ2_length_9d52b 0 = .ok (.aload_n 0, 1) := by decide +kernel
theorem dJ2_length_9d52b_1 : decode cJ2_length_9d52b 1 = .ok (.arraylength, 1) := by decide +kernel
theorem dJ2_length_9d52b_2 : decode cJ2_length_9d52b 2 = .ok (.iconst 1, 1) := by decide +kernel
theorem dJ2_length_9d52b_3 : decode cJ2_length_9d52b 3 = .ok (.ishr, 1) := by decide +kernel
theorem dJ2_length_9d52b_4 : decode cJ2_length_9d52b 4 = .ok (.ireturn, 1) := by decide +kernel
theorem dJ2_charAt_3b067_0 : decode cJ2_charAt_3b067 0 = .ok (.iload_n 1, 1) := by decide +kernel
theorem dJ2_charAt_3b067_1 : decode cJ2_charAt_3b067 1 = .ok (.aload_n 0, 1) := by decide +kernel
theorem dJ2_charAt_3b067_2 : decode cJ2_charAt_3b067 2 = .ok (.invokestatic 67, 3) := by decide +kernel
theorem dJ2_charAt_3b067_5 : decode cJ2_charAt_3b067 5 = .ok (.aload_n 0, 1) := by decide +kernel
theorem dJ2_charAt_3b067_6 : decode cJ2_charAt_3b067 6 = .ok (.iload_n 1, 1) := by decide +kernel
theorem dJ2_charAt_3b067_7 : decode cJ2_charAt_3b067 7 = .ok (.invokestatic 71, 3) := by decide +kernel
theorem dJ2_charAt_3b067_10 : decode cJ2_charAt_3b067 10 = .ok (.ireturn, 1) := by decide +kernel
theorem dJ2_checkIndex_2214a_0 : decode cJ2_checkIndex_2214a 0 = .ok (.iload_n 0, 1) := by decide +kernel
theorem dJ2_checkIndex_2214a_1 : decode cJ2_checkIndex_2214a 1 = .ok (.aload_n 1, 1) := by decide +kernel
theorem dJ2_checkIndex_2214a_2 : decode cJ2_checkIndex_2214a 2 = .ok (.invokestatic 48, 3) := by decide +kernel
theorem dJ2_checkIndex_2214a_5 : decode cJ2_checkIndex_2214a 5 = .ok (.invokestatic 414, 3) := by decide +kernel
theorem dJ2_checkIndex_2214a_8 : decode cJ2_checkIndex_2214a 8 = .ok (.return_, 1) := by decide +kernel
theorem dJ7_copyOf_59c91_0 : decode cJ7_copyOf_59c91 0 = .ok (.iload_n 1, 1) := by decide +kernel
theorem dJ7_copyOf_59c91_1 : decode cJ7_copyOf_59c91 1 = .ok (.aload_n 0, 1) := by decide +kernel
theorem dJ7_copyOf_59c91_2 : decode cJ7_copyOf_59c91 2 = .ok (.arraylength, 1) := by decide +kernel
theorem dJ7_copyOf_59c91_3 : decode cJ7_copyOf_59c91 3 = .ok (.if_icmp .ne 11, 3) := by decide +kernel
theorem dJ7_copyOf_59c91_6 : decode cJ7_copyOf_59c91 6 = .ok (.aload_n 0, 1) := by decide +kernel
theorem dJ7_copyOf_59c91_7 : decode cJ7_copyOf_59c91 7 = .ok (.invokevirtual 316, 3) := by decide +kernel
theorem dJ7_copyOf_59c91_10 : decode cJ7_copyOf_59c91 10 = .ok (.checkcast 317, 3) := by decide +kernel
theorem dJ7_copyOf_59c91_13 : decode cJ7_copyOf_59c91 13 = .ok (.areturn, 1) := by decide +kernel
theorem dJ7_copyOf_59c91_14 : decode cJ7_copyOf_59c91 14 = .ok (.iload_n 1, 1) := by decide +kernel
theorem dJ7_copyOf_59c91_15 : decode cJ7_copyOf_59c91 15 = .ok (.newarray .int, 2) := by decide +kernel
theorem dJ7_copyOf_59c91_17 : decode cJ7_copyOf_59c91 17 = .ok (.astore_n 2, 1) := by decide +kernel
theorem dJ7_copyOf_59c91_18 : decode cJ7_copyOf_59c91 18 = .ok (.aload_n 0, 1) := by decide +kernel
theorem dJ7_copyOf_59c91_19 : decode cJ7_copyOf_59c91 19 = .ok (.iconst 0, 1) := by decide +kernel
theorem dJ7_copyOf_59c91_20 : decode cJ7_copyOf_59c91 20 = .ok (.aload_n 2, 1) := by decide +kernel
theorem dJ7_copyOf_59c91_21 : decode cJ7_copyOf_59c91 21 = .ok (.iconst 0, 1) := by decide +kernel
theorem dJ7_copyOf_59c91_22 : decode cJ7_copyOf_59c91 22 = .ok (.aload_n 0, 1) := by decide +kernel
theorem dJ7_copyOf_59c91_23 : decode cJ7_copyOf_59c91 23 = .ok (.arraylength, 1) := by decide +kernel
theorem dJ7_copyOf_59c91_24 : decode cJ7_copyOf_59c91 24 = .ok (.iload_n 1, 1) := by decide +kernel
theorem dJ7_copyOf_59c91_25 : decode cJ7_copyOf_59c91 25 = .ok (.invokestatic 304, 3) := by decide +kernel
theorem dJ7_copyOf_59c91_28 : decode cJ7_copyOf_59c91 28 = .ok (.invokestatic 150, 3) := by decide +kernel
theorem dJ7_copyOf_59c91_31 : decode cJ7_copyOf_59c91 31 = .ok (.aload_n 2, 1) := by decide +kernel
theorem dJ7_copyOf_59c91_32 : decode cJ7_copyOf_59c91 32 = .ok (.areturn, 1) := by decide +kernel
theorem dJ3_checkIndex_8e157_0 : decode cJ3_checkIndex_8e157 0 = .ok (.iload_n 0, 1) := by decide +kernel
theorem dJ3_checkIndex_8e157_1 : decode cJ3_checkIndex_8e157 1 = .ok (.ifCond .lt 8, 3) := by decide +kernel
theorem dJ3_checkIndex_8e157_4 : decode cJ3_checkIndex_8e157 4 = .ok (.iload_n 0, 1) := by decide +kernel
theorem dJ3_checkIndex_8e157_5 : decode cJ3_checkIndex_8e157 5 = .ok (.iload_n 1, 1) := by decide +kernel
theorem dJ3_checkIndex_8e157_6 : decode cJ3_checkIndex_8e157 6 = .ok (.if_icmp .lt 10, 3) := by decide +kernel
theorem dJ3_checkIndex_8e157_9 : decode cJ3_checkIndex_8e157 9 = .ok (.aload_n 2, 1) := by decide +kernel
theorem dJ3_checkIndex_8e157_10 : decode cJ3_checkIndex_8e157 10 = .ok (.iload_n 0, 1) := by decide +kernel
theorem dJ3_checkIndex_8e157_11 : decode cJ3_checkIndex_8e157 11 = .ok (.iload_n 1, 1) := by decide +kernel
theorem dJ3_checkIndex_8e157_12 : decode cJ3_checkIndex_8e157 12 = .ok (.invokestatic 95, 3) := by decide +kernel
theorem dJ3_checkIndex_8e157_15 : decode cJ3_checkIndex_8e157 15 = .ok (.athrow, 1) := by decide +kernel
theorem dJ3_checkIndex_8e157_16 : decode cJ3_checkIndex_8e157 16 = .ok (.iload_n 0, 1) := by decide +kernel
theorem dJ3_checkIndex_8e157_17 : decode cJ3_checkIndex_8e157 17 = .ok (.ireturn, 1) := by decide +kernel
end
section
/-! ===== END ===== -/
/-! ===== BEGIN a constructor that throws (launches without stack traces) ===== -/
section VXIA
variable {p : Program} {l : Launch} {e : Env} {R : Room} {s : State} {m : MethodId} {args : Array Value} {below : List Frame} {meth : Method} {c : Code} {T : State} {locs : List Loc} {cells slots : Nat}
theorem vx_callI (X : Stand p l e R s m args below meth c T locs cells slots) (hexec : p.tables.exec = Jvm.exec) {own : String} {index : Nat} {y : MethodName} {bytes : ByteArray} {maxL : Nat}
    (hown : s.vm.findClass own = some m.cls) (hy1 : y.name = "<init>") (hlink : (Cond.methodLink own index y).before args s = true) (hinst : (Cond.instanceMethod y).before args s = true)
    (hcode : (Cond.code y bytes maxL none).before args s = true) (hy : y.cls ≠ "java/lang/invoke/MethodHandle" ∧ y.cls ≠ "java/lang/invoke/VarHandle")
    {W9 : Nat} {Pre : Pt → Array Value → Prop} {Post : Pt → Array Value → Option Value → Pt → Prop} {PostX : Pt → Array Value → Addr → Pt → Prop} (hK : vx_Back l R p e below s args y 3 W9 Pre Post PostX)
    {g : JFrame} (hg : g.method = m) (hsize : g.locals.size = c.maxLocals) {a : Addr} {argsL rest : List Value} (hlen : ∀ sig, parseMethodDescriptor y.desc = some sig → argsL.length = sig.parameters.length)
    (hstack : g.stack = argsL.reverse ++ .ref a :: rest) (hW : 2 * g.monitorRoom + (rest.map fun v => v.category).sum ≤ W9) (hdg : decode c.code g.pc = .ok (.invokespecial index, 3))
    (hpre : ∀ vm₁, s.WarmedH vm₁ → Pre ⟨T.setVm vm₁, locs, cells, slots⟩ (Value.ref a :: argsL).toArray) :
    (∃ (v : Option Value) (vm₁ : Vm) (B : Pt), s.WarmedH vm₁ ∧ Stand p l e R s m args below meth c B.U B.locs B.cells B.slots ∧ Post ⟨T.setVm vm₁, locs, cells, slots⟩ (Value.ref a :: argsL).toArray v B ∧
      ∀ target, Steps p.tables e below (B.U.setTop { g with pc := g.pc + 3, stack := v.toList ++ rest }) target → Steps p.tables e below (T.setTop g) target) ∨
    (∃ (q : Addr) (vm₁ : Vm) (B : Pt), s.WarmedH vm₁ ∧ Stand p l e R s m args below meth c B.U B.locs B.cells B.slots ∧ PostX ⟨T.setVm vm₁, locs, cells, slots⟩ (Value.ref a :: argsL).toArray q B ∧
      Steps p.tables e below (T.setTop g) ((B.U.setTop { g with stack := rest }).pushFrame (.throwing q))) := by
  subst hg
  have hpl : e.platform.magicAccessors = ({} : Platform).magicAccessors := by rw [X.admits.platform]
  obtain ⟨mk, methM, cM, kP, vm₁, hnamed, hmethM, hcodeM, -, hlocalsM, -, hkP, -, hW₁, hstep₁⟩ := Steps.initColdArgs (e := e) X.here hexec X.warmed hpl hown hy1 hy hlink hinst hcode (f := g) rfl hlen hstack hdg
  have X₁ := X.noted hW₁
  rcases hK g.method meth c ⟨T.setVm vm₁, locs, cells, slots⟩ { g with stack := rest } (.invokespecial index) mk (Value.ref a :: argsL).toArray X₁ rfl hsize hdg hW (X₁.named hnamed) (hpre vm₁ X₁.warmed) with ⟨v, B, X', hpost, hsteps⟩ | ⟨q, B, X', hpost, hsteps⟩
  · exact Or.inl ⟨v, vm₁, B, X₁.warmed, X', hpost, fun target h => hstep₁ _ fun acts => by rw [doInvoke_state]; exact hsteps.trans h⟩
  · exact Or.inr ⟨q, vm₁, B, X₁.warmed, X', hpost, hstep₁ _ fun acts => by rw [doInvoke_state]; exact hsteps⟩
end VXIA
section VXIB
variable {p : Program} {l : Launch} {e : Env} {R : Room} {s : State} {m : MethodId} {args : Array Value} {below : List Frame} {meth : Method} {c : Code} {H : Heap} {locs : List Loc} {cells slots : Nat}
variable {y : MethodName} {bytes cc : ByteArray} {maxL nL mc ms n index : Nat} {ret : Option FieldType} {ws : List Cond} {rm : Room} {Pc : Array Value → State → Prop} {Qc : Array Value → State → Outcome → State → Prop} {XC : String → State → State → Prop} {free : Addr → Prop} {Ts : List Cond} {own C : String} {b : Addr} {As rest : List Value} {g : JFrame}
theorem vx_runI (S : CallFix p m c cc nL s args Ts own) (hM : vx_Met l y ws rm Pc Qc XC mc ms free) (cw : CallB R s args own index y bytes maxL none ws rm mc ms n ∧ y.name = "<init>" ∧ (Cond.instanceMethod y).before args s = true) (hp : PreS s H Pc (.ref b :: As))
    (hg : g.method = m) (hn : As.length = n) (hsize : g.locals.size = nL) (hstack : g.stack = As.reverse ++ .ref b :: rest) (hW : 2 * g.monitorRoom + (rest.map fun v => v.category).sum ≤ 8) (hdg : decode cc g.pc = .ok (.invokespecial index, 3)) (hf : cells + mc ≤ R.cells ∧ slots + ms ≤ R.slots) :
    vx_Run p l e R s m args below meth c H locs cells slots mc ms g rest (Qc (Value.ref b :: As).toArray) XC free := by
  have hK : vx_Back l R p e below s args y 3 8 (PreOf R mc ms Pc) (PostOf Qc mc ms free) (vx_Post XC mc ms free) := vx_callBack cw.1 hM hp.1
  obtain ⟨⟨-, -, -, -, -, -, hcode, -, hy, hlen, hl⟩, hy1, hin⟩ := cw
  obtain ⟨hx, hb, hml, ho, -⟩ := S
  have hPc := hp.2
  intro T hT X
  rcases vx_callI X hx (bytes := bytes) (maxL := maxL) ho hy1 hl hin hcode hy hK hg (hsize.trans hml.symm) (a := b) (argsL := As) (rest := rest) (fun sig h => hn.trans (hlen sig h)) hstack hW (by rw [hb]; exact hdg)
    (fun vm₁ hW₁ => ⟨hf.1, hf.2, hPc (T.setVm vm₁) hT hW₁⟩) with ⟨v, vm₁, ⟨U', l2, c2, s2⟩, hW₁, X', ⟨g', mk, t, L, e1, e2, hq, h1, hL, h2, h3⟩, st⟩ | ⟨q, vm₁, ⟨U', l2, c2, s2⟩, hW₁, X', ⟨g', mk, t, L, E, ce, e1, e2, hq, hce, hcv, hcl, h1, hL, h2, h3⟩, st⟩
  · dsimp only [Pt.U, Pt.locs, Pt.cells, Pt.slots] at X' e1 e2 h1 h2 h3 st
    subst h1; subst h2; subst h3
    exact Or.inl ⟨v, (T.setVm vm₁).calling g' mk (Value.ref b :: As).toArray, t, U', L, hT, X', hL, e1, e2, hq, st⟩
  · dsimp only [Pt.U, Pt.locs, Pt.cells, Pt.slots] at X' e1 e2 h1 h2 h3 st hcl
    subst h1; subst h2; subst h3
    exact Or.inr ⟨q, (T.setVm vm₁).calling g' mk (Value.ref b :: As).toArray, t, U', L, E, ce, hT, X', hL, e1, e2, hq, hce, hcv, vx_cls hW₁ hcl, st⟩
end VXIB
/-! ===== END ===== -/
/-! ===== BEGIN a private constructor of a nest mate that throws ===== -/
section VXIC
variable {p : Program} {l : Launch} {e : Env} {R : Room} {s : State} {m : MethodId} {args : Array Value} {below : List Frame} {meth : Method} {c : Code} {T : State} {locs : List Loc} {cells slots : Nat}
theorem vx_callIN (X : Stand p l e R s m args below meth c T locs cells slots) (hexec : p.tables.exec = Jvm.exec) {own : String} {index : Nat} {host : String} {y : MethodName} {bytes : ByteArray} {maxL : Nat}
    (hown : s.vm.findClass own = some m.cls) (hy1 : y.name = "<init>") (hlink : (Cond.methodLinkNest own index y host).before args s = true) (hinst : (Cond.instanceMethod y).before args s = true)
    (hcode : (Cond.code y bytes maxL none).before args s = true) (hy : y.cls ≠ "java/lang/invoke/MethodHandle" ∧ y.cls ≠ "java/lang/invoke/VarHandle")
    {W9 : Nat} {Pre : Pt → Array Value → Prop} {Post : Pt → Array Value → Option Value → Pt → Prop} {PostX : Pt → Array Value → Addr → Pt → Prop} (hK : vx_Back l R p e below s args y 3 W9 Pre Post PostX)
    {g : JFrame} (hg : g.method = m) (hsize : g.locals.size = c.maxLocals) {a : Addr} {argsL rest : List Value} (hlen : ∀ sig, parseMethodDescriptor y.desc = some sig → argsL.length = sig.parameters.length)
    (hstack : g.stack = argsL.reverse ++ .ref a :: rest) (hW : 2 * g.monitorRoom + (rest.map fun v => v.category).sum ≤ W9) (hdg : decode c.code g.pc = .ok (.invokespecial index, 3))
    (hpre : ∀ vm₁, s.WarmedH vm₁ → Pre ⟨T.setVm vm₁, locs, cells, slots⟩ (Value.ref a :: argsL).toArray) :
    (∃ (v : Option Value) (vm₁ : Vm) (B : Pt), s.WarmedH vm₁ ∧ Stand p l e R s m args below meth c B.U B.locs B.cells B.slots ∧ Post ⟨T.setVm vm₁, locs, cells, slots⟩ (Value.ref a :: argsL).toArray v B ∧
      ∀ target, Steps p.tables e below (B.U.setTop { g with pc := g.pc + 3, stack := v.toList ++ rest }) target → Steps p.tables e below (T.setTop g) target) ∨
    (∃ (q : Addr) (vm₁ : Vm) (B : Pt), s.WarmedH vm₁ ∧ Stand p l e R s m args below meth c B.U B.locs B.cells B.slots ∧ PostX ⟨T.setVm vm₁, locs, cells, slots⟩ (Value.ref a :: argsL).toArray q B ∧
      Steps p.tables e below (T.setTop g) ((B.U.setTop { g with stack := rest }).pushFrame (.throwing q))) := by
  subst hg
  have hpl : e.platform.magicAccessors = ({} : Platform).magicAccessors := by rw [X.admits.platform]
  obtain ⟨mk, methM, cM, kP, vm₁, hnamed, hmethM, hcodeM, -, hlocalsM, -, hkP, -, hW₁, hstep₁⟩ := Steps.initColdArgsNest (e := e) X.here hexec X.warmed hpl hown hy1 hy hlink hinst hcode (f := g) rfl hlen hstack hdg
  have X₁ := X.noted hW₁
  rcases hK g.method meth c ⟨T.setVm vm₁, locs, cells, slots⟩ { g with stack := rest } (.invokespecial index) mk (Value.ref a :: argsL).toArray X₁ rfl hsize hdg hW (X₁.named hnamed) (hpre vm₁ X₁.warmed) with ⟨v, B, X', hpost, hsteps⟩ | ⟨q, B, X', hpost, hsteps⟩
  · exact Or.inl ⟨v, vm₁, B, X₁.warmed, X', hpost, fun target h => hstep₁ _ fun acts => by rw [doInvoke_state]; exact hsteps.trans h⟩
  · exact Or.inr ⟨q, vm₁, B, X₁.warmed, X', hpost, hstep₁ _ fun acts => by rw [doInvoke_state]; exact hsteps⟩
end VXIC
section VXID
variable {p : Program} {l : Launch} {e : Env} {R : Room} {s : State} {m : MethodId} {args : Array Value} {below : List Frame} {meth : Method} {c : Code} {H : Heap} {locs : List Loc} {cells slots : Nat}
theorem vx_runIN {y : MethodName} {bytes cc : ByteArray} {maxL nL mc ms n index : Nat} {ws : List Cond} {rm : Room} {Pc : Array Value → State → Prop} {Qc : Array Value → State → Outcome → State → Prop} {XC : String → State → State → Prop} {free : Addr → Prop} {Ts : List Cond} {own host : String} {b : Addr} {As rest : List Value} {g : JFrame}
    (S : CallFix p m c cc nL s args Ts own) (hM : vx_Met l y ws rm Pc Qc XC mc ms free) (cw : va_CN R s args own index y host bytes maxL none ws rm mc ms n ∧ y.name = "<init>" ∧ (Cond.instanceMethod y).before args s = true) (hp : PreS s H Pc (.ref b :: As))
    (hg : g.method = m) (hn : As.length = n) (hsize : g.locals.size = nL) (hstack : g.stack = As.reverse ++ .ref b :: rest) (hW : 2 * g.monitorRoom + (rest.map fun v => v.category).sum ≤ 8) (hdg : decode cc g.pc = .ok (.invokespecial index, 3)) (hf : cells + mc ≤ R.cells ∧ slots + ms ≤ R.slots) :
    vx_Run p l e R s m args below meth c H locs cells slots mc ms g rest (Qc (Value.ref b :: As).toArray) XC free := by
  obtain ⟨⟨⟨hrc, hrs, hfr, hlo, hws, hcw⟩, hcode, hini, hy, hlen, hl⟩, hx1, hx2⟩ := cw
  have hK : vx_Back l R p e below s args y 3 8 (PreOf R mc ms Pc) (PostOf Qc mc ms free) (vx_Post XC mc ms free) := vx_back (bytes := bytes) (maxL := maxL) (ret := none) hM hp.1 hrc hrs hfr hlo hws hcw (fun a' U hW => word_at hW (Or.inl (by first | rfl | simp [Cond.onTables, Cond.keeps, Cond.steady])) hini)
  obtain ⟨hx, hb, hml, ho, -⟩ := S
  have hPc := hp.2
  intro T hT X
  rcases vx_callIN X hx (bytes := bytes) (maxL := maxL) ho hx1 hl hx2 hcode hy hK hg (hsize.trans hml.symm) (a := b) (argsL := As) (rest := rest) (fun sig h => hn.trans (hlen sig h)) hstack hW (by rw [hb]; exact hdg)
    (fun vm₁ hW₁ => ⟨hf.1, hf.2, hPc (T.setVm vm₁) hT hW₁⟩) with ⟨v, vm₁, ⟨U', l2, c2, s2⟩, hW₁, X', ⟨g', mk, t, L, e1, e2, hq, h1, hL, h2, h3⟩, st⟩ | ⟨q, vm₁, ⟨U', l2, c2, s2⟩, hW₁, X', ⟨g', mk, t, L, E, ce, e1, e2, hq, hce, hcv, hcl, h1, hL, h2, h3⟩, st⟩
  · dsimp only [Pt.U, Pt.locs, Pt.cells, Pt.slots] at X' e1 e2 h1 h2 h3 st
    subst h1; subst h2; subst h3
    exact Or.inl ⟨v, (T.setVm vm₁).calling g' mk (Value.ref b :: As).toArray, t, U', L, hT, X', hL, e1, e2, hq, st⟩
  · dsimp only [Pt.U, Pt.locs, Pt.cells, Pt.slots] at X' e1 e2 h1 h2 h3 st hcl
    subst h1; subst h2; subst h3
    exact Or.inr ⟨q, (T.setVm vm₁).calling g' mk (Value.ref b :: As).toArray, t, U', L, E, ce, hT, X', hL, e1, e2, hq, hce, hcv, vx_cls hW₁ hcl, st⟩
end VXID
/-! ===== END ===== -/
/-! ===== END ===== -/
/-! ===== BEGIN a private method of a nest mate that may throw (follows va_callVN, va_callSN, va_runVN, va_runSN) ===== -/
section
variable {p : Program} {l : Launch} {e : Env} {R : Room} {s : State} {m : MethodId} {args : Array Value} {below : List Frame} {meth : Method} {c : Code} {H : Heap} {locs : List Loc} {cells slots : Nat}
variable {T : State}
theorem vx_callVN (X : Stand p l e R s m args below meth c T locs cells slots) (hexec : p.tables.exec = Jvm.exec) {own C : String} {index : Nat} {host : String} {y : MethodName} {bytes : ByteArray} {maxL : Nat} {ret : Option FieldType}
    (hown : s.vm.findClass own = some m.cls) (hlink : (Cond.methodLinkNest own index y host).before args s = true) (hinst : (Cond.instanceMethod y).before args s = true) (hsel : (Cond.selects C y y).before args s = true)
    (hcode : (Cond.code y bytes maxL ret).before args s = true) (hy : y.cls ≠ "java/lang/invoke/MethodHandle" ∧ y.cls ≠ "java/lang/invoke/VarHandle")
    {W : Nat} {Pre : Pt → Array Value → Prop} {Post : Pt → Array Value → Option Value → Pt → Prop} {PostX : Pt → Array Value → Addr → Pt → Prop} (hK : vx_Back l R p e below s args y 3 W Pre Post PostX)
    {b : Addr} {cellB : Cell} (hcell : T.heap[b]? = some cellB) (hobj : cellB.vm.isStatics = false) (hcls : s.vm.findClass C = some cellB.cls)
    {g : JFrame} (hg : g.method = m) (hsize : g.locals.size = c.maxLocals) {argsL rest : List Value} (hlen : ∀ sig, parseMethodDescriptor y.desc = some sig → argsL.length = sig.parameters.length)
    (hstack : g.stack = argsL.reverse ++ .ref b :: rest) (hW : 2 * g.monitorRoom + (rest.map fun v => v.category).sum ≤ W) (hdg : decode c.code g.pc = .ok (.invokevirtual index, 3))
    (hpre : ∀ vm₁, s.WarmedH vm₁ → Pre ⟨T.setVm vm₁, locs, cells, slots⟩ (Value.ref b :: argsL).toArray) :
    (∃ (v : Option Value) (vm₁ : Vm) (B : Pt), s.WarmedH vm₁ ∧ Stand p l e R s m args below meth c B.U B.locs B.cells B.slots ∧ Post ⟨T.setVm vm₁, locs, cells, slots⟩ (Value.ref b :: argsL).toArray v B ∧
      ∀ target, Steps p.tables e below (B.U.setTop { g with pc := g.pc + 3, stack := v.toList ++ rest }) target → Steps p.tables e below (T.setTop g) target) ∨
    (∃ (q : Addr) (vm₁ : Vm) (B : Pt), s.WarmedH vm₁ ∧ Stand p l e R s m args below meth c B.U B.locs B.cells B.slots ∧ PostX ⟨T.setVm vm₁, locs, cells, slots⟩ (Value.ref b :: argsL).toArray q B ∧
      Steps p.tables e below (T.setTop g) ((B.U.setTop { g with stack := rest }).pushFrame (.throwing q))) := by
  obtain ⟨mk, methM, hnamed, hmethM, hstM, habM⟩ := Cond.instanceMethod_spec hinst
  obtain ⟨methM', cM, hmethM', -, -, -, -, -, -, hsigM⟩ := Cond.code_spec hnamed hcode
  cases hmethM.symm.trans hmethM'
  obtain ⟨c2, r2, m2, q1, q2, q3, q4, kP, hkP, hkPi⟩ := Cond.selects_spec hsel
  cases hcls.symm.trans q1
  cases (State.methodFound?_of_named hnamed hy).symm.trans q2
  cases hnamed.symm.trans q3
  have hselP : selectMethod e.platform s.vm cellB.cls mk = .method mk := by rw [Launch.admits_selectMethod X.admits]; exact q4
  obtain ⟨vm₁, X₁, hstep₁⟩ := X.invokevirtualNest hexec hown hlink hnamed hmethM hstM hkP hkPi hy (a := b) (cell := cellB) hcell
    (fun z h => by rw [h] at hobj; cases hobj) hselP hmethM habM hkP hkPi (g := g) hg (argsL := argsL) (rest := rest) (hlen _ hsigM) hstack hdg
  rcases hK m meth c ⟨T.setVm vm₁, locs, cells, slots⟩ { g with stack := rest } (.invokevirtual index) mk (Value.ref b :: argsL).toArray X₁ hg hsize hdg hW (X₁.named hnamed) (hpre vm₁ X₁.warmed) with ⟨v, B, X', hpost, hsteps⟩ | ⟨q, B, X', hpost, hsteps⟩
  · exact Or.inl ⟨v, vm₁, B, X₁.warmed, X', hpost, fun target h => hstep₁ _ fun acts => by rw [doInvoke_state]; exact hsteps.trans h⟩
  · exact Or.inr ⟨q, vm₁, B, X₁.warmed, X', hpost, hstep₁ _ fun acts => by rw [doInvoke_state]; exact hsteps⟩
theorem vx_callSN (X : Stand p l e R s m args below meth c T locs cells slots) (hexec : p.tables.exec = Jvm.exec) {own : String} {index : Nat} {host : String} {y : MethodName} {bytes : ByteArray} {maxL : Nat} {ret : Option FieldType}
    (hown : s.vm.findClass own = some m.cls) (hlink : (Cond.methodLinkNest own index y host).before args s = true) (hstat : (Cond.static y).before args s = true) (hinit : (Cond.initialized y.cls).before args s = true)
    (hcode : (Cond.code y bytes maxL ret).before args s = true) (hy : y.cls ≠ "java/lang/invoke/MethodHandle" ∧ y.cls ≠ "java/lang/invoke/VarHandle")
    {W : Nat} {Pre : Pt → Array Value → Prop} {Post : Pt → Array Value → Option Value → Pt → Prop} {PostX : Pt → Array Value → Addr → Pt → Prop} (hK : vx_Back l R p e below s args y 3 W Pre Post PostX)
    {g : JFrame} (hg : g.method = m) (hsize : g.locals.size = c.maxLocals) {argsL rest : List Value} (hlen : ∀ sig, parseMethodDescriptor y.desc = some sig → argsL.length = sig.parameters.length)
    (hstack : g.stack = argsL.reverse ++ rest) (hW : 2 * g.monitorRoom + (rest.map fun v => v.category).sum ≤ W) (hdg : decode c.code g.pc = .ok (.invokestatic index, 3))
    (hpre : ∀ vm₁, s.WarmedH vm₁ → Pre ⟨T.setVm vm₁, locs, cells, slots⟩ argsL.toArray) :
    (∃ (v : Option Value) (vm₁ : Vm) (B : Pt), s.WarmedH vm₁ ∧ Stand p l e R s m args below meth c B.U B.locs B.cells B.slots ∧ Post ⟨T.setVm vm₁, locs, cells, slots⟩ argsL.toArray v B ∧
      ∀ target, Steps p.tables e below (B.U.setTop { g with pc := g.pc + 3, stack := v.toList ++ rest }) target → Steps p.tables e below (T.setTop g) target) ∨
    (∃ (q : Addr) (vm₁ : Vm) (B : Pt), s.WarmedH vm₁ ∧ Stand p l e R s m args below meth c B.U B.locs B.cells B.slots ∧ PostX ⟨T.setVm vm₁, locs, cells, slots⟩ argsL.toArray q B ∧
      Steps p.tables e below (T.setTop g) ((B.U.setTop { g with stack := rest }).pushFrame (.throwing q))) := by
  obtain ⟨mk, hnamed⟩ := Cond.code_named hcode
  obtain ⟨methM, cM, hmethM, -, -, -, -, -, -, hsigM⟩ := Cond.code_spec hnamed hcode
  have hstatic : methM.isStatic = true := Cond.static_spec hnamed hmethM hstat
  obtain ⟨kP, hkP, -⟩ := className_of_methodNamed hnamed
  have hinitP : kP.init = .initialized := Cond.initialized_spec (findClass_of_methodNamed hnamed) hkP hinit
  obtain ⟨vm₁, X₁, hstep₁⟩ := X.invokestaticNest hexec hown hlink hnamed hmethM hstatic hkP hinitP hy (g := g) hg (argsL := argsL) (rest := rest) (hlen _ hsigM) hstack hdg
  rcases hK m meth c ⟨T.setVm vm₁, locs, cells, slots⟩ { g with stack := rest } (.invokestatic index) mk argsL.toArray X₁ hg hsize hdg hW (X₁.named hnamed) (hpre vm₁ X₁.warmed) with ⟨v, B, X', hpost, hsteps⟩ | ⟨q, B, X', hpost, hsteps⟩
  · exact Or.inl ⟨v, vm₁, B, X₁.warmed, X', hpost, fun target h => hstep₁ _ fun acts => by rw [doInvoke_state]; exact hsteps.trans h⟩
  · exact Or.inr ⟨q, vm₁, B, X₁.warmed, X', hpost, hstep₁ _ fun acts => by rw [doInvoke_state]; exact hsteps⟩
theorem vx_runVN {y : MethodName} {bytes cc : ByteArray} {maxL nL mc ms n index : Nat} {ret : Option FieldType} {ws : List Cond} {rm : Room} {Pc : Array Value → State → Prop} {Qc : Array Value → State → Outcome → State → Prop} {XC : String → State → State → Prop} {free : Addr → Prop} {Ts : List Cond} {own C host : String} {b : Addr} {As rest : List Value} {g : JFrame}
    (S : CallFix p m c cc nL s args Ts own) (hM : vx_Met l y ws rm Pc Qc XC mc ms free) (cw : va_CN R s args own index y host bytes maxL ret ws rm mc ms n ∧ (Cond.instanceMethod y).before args s = true ∧ (Cond.selects C y y).before args s = true) (hp : PreV s H C b Pc As)
    (hg : g.method = m) (hn : As.length = n) (hsize : g.locals.size = nL) (hstack : g.stack = As.reverse ++ .ref b :: rest) (hW : 2 * g.monitorRoom + (rest.map fun v => v.category).sum ≤ 8) (hdg : decode cc g.pc = .ok (.invokevirtual index, 3)) (hf : cells + mc ≤ R.cells ∧ slots + ms ≤ R.slots) :
    vx_Run p l e R s m args below meth c H locs cells slots mc ms g rest (Qc (Value.ref b :: As).toArray) XC free := by
  obtain ⟨⟨⟨hrc, hrs, hfr, hlo, hws, hcw⟩, hcode, hini, hy, hlen, hl⟩, hx1, hx2⟩ := cw
  have hK : vx_Back l R p e below s args y 3 8 (PreOf R mc ms Pc) (PostOf Qc mc ms free) (vx_Post XC mc ms free) := vx_back (bytes := bytes) (maxL := maxL) (ret := ret) hM hp.1 hrc hrs hfr hlo hws hcw (fun a' U hW => word_at hW (Or.inl (by first | rfl | simp [Cond.onTables, Cond.keeps, Cond.steady])) hini)
  obtain ⟨hx, hb, hml, ho, -⟩ := S
  obtain ⟨-, ⟨cellB, hcB, hoB, hclB⟩, hPc⟩ := hp
  intro T hT X
  rcases vx_callVN X hx (C := C) (bytes := bytes) (maxL := maxL) (ret := ret) ho hl hx1 hx2 hcode hy hK (by rw [hT]; exact hcB) hoB hclB hg (hsize.trans hml.symm) (argsL := As) (rest := rest) (fun sig h => hn.trans (hlen sig h)) hstack hW (by rw [hb]; exact hdg)
    (fun vm₁ hW₁ => ⟨hf.1, hf.2, hPc (T.setVm vm₁) hT hW₁⟩) with ⟨v, vm₁, ⟨U', l2, c2, s2⟩, hW₁, X', ⟨g', mk, t, L, e1, e2, hq, h1, hL, h2, h3⟩, st⟩ | ⟨q, vm₁, ⟨U', l2, c2, s2⟩, hW₁, X', ⟨g', mk, t, L, E, ce, e1, e2, hq, hce, hcv, hcl, h1, hL, h2, h3⟩, st⟩
  · dsimp only [Pt.U, Pt.locs, Pt.cells, Pt.slots] at X' e1 e2 h1 h2 h3 st
    subst h1; subst h2; subst h3
    exact Or.inl ⟨v, (T.setVm vm₁).calling g' mk (Value.ref b :: As).toArray, t, U', L, hT, X', hL, e1, e2, hq, st⟩
  · dsimp only [Pt.U, Pt.locs, Pt.cells, Pt.slots] at X' e1 e2 h1 h2 h3 st hcl
    subst h1; subst h2; subst h3
    exact Or.inr ⟨q, (T.setVm vm₁).calling g' mk (Value.ref b :: As).toArray, t, U', L, E, ce, hT, X', hL, e1, e2, hq, hce, hcv, vx_cls hW₁ hcl, st⟩
theorem vx_runSN {y : MethodName} {bytes cc : ByteArray} {maxL nL mc ms n index : Nat} {ret : Option FieldType} {ws : List Cond} {rm : Room} {Pc : Array Value → State → Prop} {Qc : Array Value → State → Outcome → State → Prop} {XC : String → State → State → Prop} {free : Addr → Prop} {Ts : List Cond} {own host : String} {As rest : List Value} {g : JFrame}
    (S : CallFix p m c cc nL s args Ts own) (hM : vx_Met l y ws rm Pc Qc XC mc ms free) (cw : va_CN R s args own index y host bytes maxL ret ws rm mc ms n ∧ (Cond.static y).before args s = true ∧ True) (hp : PreS s H Pc As)
    (hg : g.method = m) (hn : As.length = n) (hsize : g.locals.size = nL) (hstack : g.stack = As.reverse ++ rest) (hW : 2 * g.monitorRoom + (rest.map fun v => v.category).sum ≤ 8) (hdg : decode cc g.pc = .ok (.invokestatic index, 3)) (hf : cells + mc ≤ R.cells ∧ slots + ms ≤ R.slots) :
    vx_Run p l e R s m args below meth c H locs cells slots mc ms g rest (Qc As.toArray) XC free := by
  obtain ⟨⟨⟨hrc, hrs, hfr, hlo, hws, hcw⟩, hcode, hini, hy, hlen, hl⟩, hx1, hx2⟩ := cw
  have hK : vx_Back l R p e below s args y 3 8 (PreOf R mc ms Pc) (PostOf Qc mc ms free) (vx_Post XC mc ms free) := vx_back (bytes := bytes) (maxL := maxL) (ret := ret) hM hp.1 hrc hrs hfr hlo hws hcw (fun a' U hW => word_at hW (Or.inl (by first | rfl | simp [Cond.onTables, Cond.keeps, Cond.steady])) hini)
  obtain ⟨hx, hb, hml, ho, -⟩ := S
  have hPc := hp.2
  intro T hT X
  rcases vx_callSN X hx (bytes := bytes) (maxL := maxL) (ret := ret) ho hl hx1 hini hcode hy hK hg (hsize.trans hml.symm) (argsL := As) (rest := rest) (fun sig h => hn.trans (hlen sig h)) hstack hW (by rw [hb]; exact hdg)
    (fun vm₁ hW₁ => ⟨hf.1, hf.2, hPc (T.setVm vm₁) hT hW₁⟩) with ⟨v, vm₁, ⟨U', l2, c2, s2⟩, hW₁, X', ⟨g', mk, t, L, e1, e2, hq, h1, hL, h2, h3⟩, st⟩ | ⟨q, vm₁, ⟨U', l2, c2, s2⟩, hW₁, X', ⟨g', mk, t, L, E, ce, e1, e2, hq, hce, hcv, hcl, h1, hL, h2, h3⟩, st⟩
  · dsimp only [Pt.U, Pt.locs, Pt.cells, Pt.slots] at X' e1 e2 h1 h2 h3 st
    subst h1; subst h2; subst h3
    exact Or.inl ⟨v, (T.setVm vm₁).calling g' mk As.toArray, t, U', L, hT, X', hL, e1, e2, hq, st⟩
  · dsimp only [Pt.U, Pt.locs, Pt.cells, Pt.slots] at X' e1 e2 h1 h2 h3 st hcl
    subst h1; subst h2; subst h3
    exact Or.inr ⟨q, (T.setVm vm₁).calling g' mk As.toArray, t, U', L, E, ce, hT, X', hL, e1, e2, hq, hce, hcv, vx_cls hW₁ hcl, st⟩
end
/-! ===== END ===== -/
end
section
/-! core: what a method's walk stands on, in few words -/
/-- the launch, the classes' numbers and slots, the array classes, the floor: no cell below it is written -/
abbrev zE : Type := Launch × va_G × (Nat → ClassId) × Nat
def zTys (ca : Nat → ClassId) : List (ClassId × FieldType) := [(ca 0, .int), (ca 1, .boolean), (ca 2, .object RX2), (ca 3, .object RX4), (ca 4, .object RX3)]
def zGoodW : Cond → Bool
  | .arrayClass _ => true
  | .fieldLinkNest .. => true
  | .methodLinkNest .. => true
  | .castable .. => true
  | .declares _ => true
  | .arrayOver (.object _) => true
  | w => w.onTables && w.keeps
/-- the tables' words that stay when the tables grow warm -/
def zW (U : State) : Prop := ∀ w ∈ lw_tbl, zGoodW w = true → w.before #[] U = true
/-- the String constants have their places -/
def zStr (U : State) : Prop := ∀ (own : String) (k : Nat) (tx : String), Cond.stringRef own k tx ∈ lw_tbl → ∃ a, vk_R own k tx a U
def zKn (E : zE) (U : State) (H : Heap) : Prop := va_K E.2.1 vwCl (zTys E.2.2.1) U ∧ E.2.2.2 ≤ H.size ∧ zW U ∧ zStr U ∧ vx_Zq Bundle.tN "UNASSIGNED_STACK" Bundle.steD (fun q => E.2.2.2 ≤ q) U H ∧ vx_Zq Bundle.tN "SUPPRESSED_SENTINEL" Bundle.listD (fun q => E.2.2.2 ≤ q) U H
/-- from one heap to a later one: nothing below the floor has changed -/
def zF (E : zE) (H H' : Heap) : Prop := H.size ≤ H'.size ∧ ∀ q : Nat, q < E.2.2.2 → H'[q]? = H[q]?
theorem zF.rf {E : zE} {H : Heap} : zF E H H := ⟨Nat.le_refl _, fun _ _ => rfl⟩
theorem zF.tr {E : zE} {H H1 H2 : Heap} (a : zF E H H1) (b : zF E H1 H2) : zF E H H2 := ⟨Nat.le_trans a.1 b.1, fun q h => (b.2 q h).trans (a.2 q h)⟩
theorem zW.warm {s U : State} (hW : s.WarmedH U.vm) (h : zW s) : zW U := by
  intro w hw hg
  have h1 := h w hw hg
  cases w
  case fieldLinkNest => exact va_Nw.warmF hW h1
  case methodLinkNest => exact va_Nw.warmM hW h1
  case castable => exact va_Nw.warmC hW h1
  case declares => exact va_Nw.warmD hW h1
  case arrayOver ty => cases ty <;> first | exact (va_AO.of h1 : va_AO _ s).moved hW.alike | exact absurd hg Bool.false_ne_true
  all_goals exact word_at hW (good_of_word hg) h1
theorem zStr.warm {s U : State} (hW : s.WarmedH U.vm) (h : zStr s) : zStr U := fun own k tx hm => by
  obtain ⟨a, ha⟩ := h own k tx hm
  exact ⟨a, ha.warm hW⟩
theorem zKn.warm {E : zE} {s U : State} {H : Heap} (hW : s.WarmedH U.vm) (h : zKn E s H) : zKn E U H :=
  ⟨va_K.moved hW.alike h.1, h.2.1, h.2.2.1.warm hW, h.2.2.2.1.warm hW, vx_Zq.moved hW.alike h.2.2.2.2.1, vx_Zq.moved hW.alike h.2.2.2.2.2⟩
theorem zKn.same {E : zE} {s U : State} {H : Heap} (hv : s.vm = U.vm) (h : zKn E s H) : zKn E U H := by
  refine h.warm ?_
  rw [← hv]
  exact State.WarmedH.refl s
theorem zKn.step {E : zE} {s : State} {H H1 : Heap} (h : zKn E s H) (f : zF E H H1) : zKn E s H1 :=
  ⟨h.1, Nat.le_trans h.2.1 f.1, h.2.2.1, h.2.2.2.1, h.2.2.2.2.1.kept (fun a _ ha => f.2 a (Nat.not_le.mp ha)), h.2.2.2.2.2.kept (fun a _ ha => f.2 a (Nat.not_le.mp ha))⟩
theorem zW.at {s : State} (h : zW s) {w : Cond} (hm : w ∈ lw_tbl) (hg : zGoodW w = true) (ho : w.onTables = true) {args : Array Value} : w.before args s = true := va_Nw.use ho (h w hm hg)
/-- a contract: from these arguments and this heap the method returns with 'post', or throws with 'px' -/
def zC (E : zE) (y : MethodName) (cc : ByteArray) (nL : Nat) (ret : Option FieldType) (F L : Nat) (av : List Value) (H : Heap) (mc ms : Nat) (post : Option Value → Heap → Prop) (px : String → Heap → Prop) : Prop :=
  vx_Met E.1 y [.code y cc nL ret] { frames := F, cells := mc, slots := ms, locals := L } (fun a U => a = av.toArray ∧ U.heap = H ∧ zKn E U H)
    (fun _ st oc t => (∃ v, oc = .returned v ∧ post v t.heap) ∧ zF E st.heap t.heap) (fun X st t => px X t.heap ∧ zF E st.heap t.heap) mc ms (fun q => E.2.2.2 ≤ q)
/-- no throw -/
def zN : String → Heap → Prop := fun _ _ => False
abbrev zX : Type := (Program × Env × Room × State × MethodId) × (Array Value × List Frame × Method × Code) × zE × (Nat × Nat × (Option Value → Heap → Prop) × (String → Heap → Prop))
/-- what holds all through a method's walk -/
def zOk (x : zX) (own : String) (cc : ByteArray) (nL : Nat) (ret : Option FieldType) (nm : String) (F L mc ms : Nat) : Prop := match x with
  | ((p, _, R, s, m), (args, _, meth, c), E, (mc', ms', _, _)) => p.tables.exec = Jvm.exec ∧ c.code = cc ∧ c.maxLocals = nL ∧ meth.sig.returnType = ret ∧ s.vm.findClass own = some m.cls ∧ meth.locks = false ∧ (∀ z ∈ c.exceptionTable.toList, False) ∧ E.1.stackTraces = false ∧ meth.name = nm ∧ R = { frames := F, cells := mc, slots := ms, locals := L } ∧ mc' = mc ∧ ms' = ms
abbrev zQ (E : zE) (below : List Frame) (args : Array Value) (s : State) (mc ms : Nat) (post : Option Value → Heap → Prop) (px : String → Heap → Prop) : State → Prop :=
  vx_MQ below (fun _ st oc t => (∃ v, oc = .returned v ∧ post v t.heap) ∧ zF E st.heap t.heap) (fun X st t => px X t.heap ∧ zF E st.heap t.heap) args s mc ms (fun q => E.2.2.2 ≤ q)
/-- the walk's judgement: heap, new cells and slots so far, place, locals, stack -/
def zG (x : zX) (H : Heap) (k n pc : Nat) (lv : List (Nat × Value)) (st : List Value) : Prop := match x with
  | ((p, e, R, s, m), (args, below, meth, c), E, (mc, ms, post, px)) => zKn E s H → zF E s.heap H → ∀ (locs : List Loc) (ls : Array Slot), (∀ z ∈ locs, E.2.2.2 ≤ z.base) → lv_has ls c.maxLocals lv →
    W p E.1 e R s m args below meth c H locs k n (zQ E below args s mc ms post px) (F0 m pc ls st)
/-- the environment, the ends -/
def zEn (x : zX) : zE := x.2.2.1
def zPo (x : zX) : Option Value → Heap → Prop := x.2.2.2.2.2.1
def zPx (x : zX) : String → Heap → Prop := x.2.2.2.2.2.2
theorem zC.of {E : zE} {y : MethodName} {cc : ByteArray} {nL : Nat} {ret : Option FieldType} {F L : Nat} {av : List Value} {H : Heap} {mc ms : Nat} {post : Option Value → Heap → Prop} {px : String → Heap → Prop}
    (hy : plainName y.cls = true) (hl : (lg_sl av).length ≤ nL) (hst : E.1.stackTraces = false)
    (body : ∀ x : zX, zOk x y.cls cc nL ret y.name F L mc ms → zEn x = E → zPo x = post → zPx x = px → zG x H 0 0 0 (lv_args 0 av) []) : zC E y cc nL ret F L av H mc ms post px := by
  refine vx_ofW hy rfl ?_
  intro p e s m args below meth c s₁ B hml htab hv
  obtain ⟨rfl, rfl, hK⟩ := hv
  have hnm : meth.name = y.name := (name_of_methodNamed B.named B.method).1
  have b := body ((p, e, { frames := F, cells := mc, slots := ms, locals := L }, s, m), (av.toArray, below, meth, c), E, (mc, ms, post, px))
    ⟨B.exec, B.bytes, hml, B.returns, findClass_of_methodNamed B.named, B.notSynchronized, htab, hst, hnm, rfl, rfl, rfl⟩ rfl rfl rfl
  rw [lg_entry_eq]
  exact b hK zF.rf [] _ (fun _ h => nomatch h) (by rw [hml]; exact lv_entry av hl)
end
section
/-! rules of the walk: pure instructions (written by program) -/
def iI (z : Int) : Int32 := Int32.ofInt z
abbrev zR (z : Int) : Prop := -2147483648 ≤ z ∧ z ≤ 2147483647
theorem zbm {z : Int} (h1 : -2147483648 ≤ z) (h2 : z ≤ 2147483647) : z.bmod (2 ^ 32) = z := Int.bmod_eq_of_le (by omega) (by omega)
theorem zbmL {z : Int} (h1 : -9223372036854775808 ≤ z) (h2 : z ≤ 9223372036854775807) : z.bmod (2 ^ 64) = z := Int.bmod_eq_of_le (by omega) (by omega)
theorem iI_toInt {z : Int} (h : zR z) : (iI z).toInt = z := by
  unfold iI
  rw [Int32.toInt_ofInt]
  exact zbm h.1 h.2
theorem iI_of (x : Int32) : ∃ z : Int, zR z ∧ x = iI z := ⟨x.toInt, ⟨by have := Int32.le_toInt x; omega, by have := Int32.toInt_lt x; omega⟩, by unfold iI; simp⟩
theorem iI_add (a b : Int) : iI a + iI b = iI (a + b) := by unfold iI; exact (Int32.ofInt_add a b).symm
theorem iI_sub (a b : Int) : iI a - iI b = iI (a - b) := by unfold iI; exact (Int32.ofInt_sub a b).symm
theorem iI_mul (a b : Int) : iI a * iI b = iI (a * b) := by unfold iI; exact (Int32.ofInt_mul a b).symm
theorem iI_inj {a b : Int} (ha : zR a) (hb : zR b) : iI a = iI b ↔ a = b := ⟨fun h => by rw [← iI_toInt ha, h, iI_toInt hb], fun h => by rw [h]⟩
theorem iI_lt {a b : Int} (ha : zR a) (hb : zR b) : iI a < iI b ↔ a < b := by rw [Int32.lt_iff_toInt_lt, iI_toInt ha, iI_toInt hb]
theorem iI_le {a b : Int} (ha : zR a) (hb : zR b) : iI a ≤ iI b ↔ a ≤ b := by rw [Int32.le_iff_toInt_le, iI_toInt ha, iI_toInt hb]
theorem iI_0 : (0 : Int32) = iI 0 := by decide +kernel
theorem zR0 : zR 0 := by constructor <;> omega
theorem iI_nat (n : Nat) : Int32.ofNat n = iI (n : Int) := by unfold iI; exact (Int32.ofInt_eq_ofNat).symm
theorem iI_div {u v : Int} (hu : zR u) (hv : zR v) (h0 : 0 ≤ u) (h1 : 0 < v) : iI u / iI v = iI (u / v) := by
  have hd : u / v ≤ u := Int.ediv_le_self v h0
  have hd0 : 0 ≤ u / v := Int.ediv_nonneg h0 (by omega)
  have hu2 := hu.2
  apply Int32.toInt_inj.mp
  rw [lg_idiv_nonneg (by rw [iI_toInt hu]; exact h0) (by rw [iI_toInt hv]; exact h1), iI_toInt hu, iI_toInt hv, iI_toInt ⟨by omega, by omega⟩]
theorem iI_rem {u v : Int} (hu : zR u) (hv : zR v) (h0 : 0 ≤ u) (h1 : 0 < v) : iI u - iI u / iI v * iI v = iI (u % v) := by
  rw [iI_div hu hv h0 h1, iI_mul, iI_sub]
  congr 1
  rw [Int.emod_def, Int.mul_comm v]
theorem iI_n0 {v : Int} (hv : zR v) (h1 : 0 < v) : ¬ iI v = 0 := fun h => by
  rw [iI_0, iI_inj hv zR0] at h
  omega
def iL (z : Int) : Int64 := Int64.ofInt z
abbrev zRL (z : Int) : Prop := -9223372036854775808 ≤ z ∧ z ≤ 9223372036854775807
theorem iL_toInt {z : Int} (h : zRL z) : (iL z).toInt = z := by
  unfold iL
  rw [Int64.toInt_ofInt]
  exact zbmL h.1 h.2
theorem iL_of (x : Int64) : ∃ z : Int, zRL z ∧ x = iL z := ⟨x.toInt, ⟨by have := Int64.le_toInt x; omega, by have := Int64.toInt_lt x; omega⟩, by unfold iL; simp⟩
theorem iL_add (a b : Int) : iL a + iL b = iL (a + b) := by unfold iL; exact (Int64.ofInt_add a b).symm
theorem iL_sub (a b : Int) : iL a - iL b = iL (a - b) := by unfold iL; exact (Int64.ofInt_sub a b).symm
theorem iL_mul (a b : Int) : iL a * iL b = iL (a * b) := by unfold iL; exact (Int64.ofInt_mul a b).symm
theorem iL_inj {a b : Int} (ha : zRL a) (hb : zRL b) : iL a = iL b ↔ a = b := ⟨fun h => by rw [← iL_toInt ha, h, iL_toInt hb], fun h => by rw [h]⟩
theorem iL_lt {a b : Int} (ha : zRL a) (hb : zRL b) : iL a < iL b ↔ a < b := by rw [Int64.lt_iff_toInt_lt, iL_toInt ha, iL_toInt hb]
theorem iL_i (z : Int) (h : zR z) : (iI z).toInt64 = iL z := by
  apply Int64.toInt_inj.mp
  have h1 := h.1
  have h2 := h.2
  rw [Int32.toInt_toInt64, iI_toInt h, iL_toInt ⟨by omega, by omega⟩]
theorem iL_to (z : Int) : (iL z).toInt32 = iI z := by
  unfold iL iI
  exact Int64.toInt32_ofInt
theorem iL_div {u v : Int} (hu : zRL u) (hv : zRL v) (h0 : 0 ≤ u) (h1 : 0 < v) : iL u / iL v = iL (u / v) := by
  have hd : u / v ≤ u := Int.ediv_le_self v h0
  have hd0 : 0 ≤ u / v := Int.ediv_nonneg h0 (by omega)
  have hu2 := hu.2
  apply Int64.toInt_inj.mp
  rw [lg_ldiv_nonneg (by rw [iL_toInt hu]; exact h0) (by rw [iL_toInt hv]; exact h1), iL_toInt hu, iL_toInt hv, iL_toInt ⟨by omega, by omega⟩]
theorem iL_rem {u v : Int} (hu : zRL u) (hv : zRL v) (h0 : 0 ≤ u) (h1 : 0 < v) : iL u - iL u / iL v * iL v = iL (u % v) := by
  rw [iL_div hu hv h0 h1, iL_mul, iL_sub]
  congr 1
  rw [Int.emod_def, Int.mul_comm v]
theorem iL_n0 {v : Int} (hv : zRL v) (h1 : 0 < v) : ¬ iL v = 0 := fun h => by
  rw [show (0 : Int64) = iL 0 by decide +kernel, iL_inj hv ⟨by omega, by omega⟩] at h
  omega
/-- what lcmp leaves -/
def zcmp (u v : Int) : Int := if u < v then -1 else if u = v then 0 else 1
theorem iL_cmp {u v : Int} (hu : zRL u) (hv : zRL v) : lg_cmp (iL u) (iL v) = iI (zcmp u v) := by
  unfold lg_cmp zcmp
  rcases Int.lt_trichotomy u v with h | h | h
  · have a : ¬ iL v < iL u := by rw [iL_lt hv hu]; omega
    have b : ¬ iL u = iL v := by rw [iL_inj hu hv]; omega
    simp [a, b, h]
    decide +kernel
  · subst h
    have a : ¬ iL u < iL u := by rw [iL_lt hu hu]; omega
    simp [a]
    decide +kernel
  · have a : iL v < iL u := by rw [iL_lt hv hu]; omega
    have b : ¬ u < v := by omega
    have e : ¬ u = v := by omega
    simp [a, b, e]
    decide +kernel
theorem zcmp_lt {u v : Int} : zcmp u v < 0 ↔ u < v := by unfold zcmp; split <;> (try split) <;> omega
theorem zcmp_gt {u v : Int} : 0 < zcmp u v ↔ v < u := by unfold zcmp; split <;> (try split) <;> omega
theorem zcmp_eq {u v : Int} : zcmp u v = 0 ↔ u = v := by unfold zcmp; split <;> (try split) <;> omega
theorem zcmp_R {u v : Int} : zR (zcmp u v) := by unfold zcmp; constructor <;> (split <;> (try split) <;> omega)
/-- a truth as an int -/
def zb (c : Bool) : Int := if c then 1 else 0
theorem zb_R {c : Bool} : zR (zb c) := by unfold zb; constructor <;> (split <;> omega)
theorem zb_0 {c : Bool} : zb c = 0 ↔ c = false := by cases c <;> decide
theorem zb_1 {c : Bool} : zb c = 1 ↔ c = true := by cases c <;> decide
section ZR
variable {x : zX} {own : String} {cc : ByteArray} {nL : Nat} {ret : Option FieldType} {nm : String} {F L mc ms : Nat} {H : Heap} {a b pc : Nat} {lv : List (Nat × Value)} {st : List Value}
theorem z_iconst {n : Int} (z : Int) (O : zOk x own cc nL ret nm F L mc ms) (d : decode cc pc = .ok (.iconst n, 1)) (hv : Int32.ofInt n = iI z) (K : zG x H a b (pc + 1) lv (.int (iI z) :: st)) : zG x H a b pc lv (st) := by
  obtain ⟨⟨p, e, R, s, m⟩, ⟨args, below, meth, c⟩, E, mc', ms', post, px⟩ := x
  obtain ⟨hx, hb, hml, hr, hown, hlk, htb, hst, hnm, hR, hm1, hm2⟩ := O
  intro hk hf locs ls hl hlv
  exact lv_iconst hx hb d hv (K hk hf locs ls hl hlv)
theorem z_bipush {n : Int} (z : Int) (O : zOk x own cc nL ret nm F L mc ms) (d : decode cc pc = .ok (.bipush n, 2)) (hv : (Int8.ofInt n).toInt32 = iI z) (K : zG x H a b (pc + 2) lv (.int (iI z) :: st)) : zG x H a b pc lv (st) := by
  obtain ⟨⟨p, e, R, s, m⟩, ⟨args, below, meth, c⟩, E, mc', ms', post, px⟩ := x
  obtain ⟨hx, hb, hml, hr, hown, hlk, htb, hst, hnm, hR, hm1, hm2⟩ := O
  intro hk hf locs ls hl hlv
  exact lv_bipush hx hb d hv (K hk hf locs ls hl hlv)
theorem z_sipush {n : Int} (z : Int) (O : zOk x own cc nL ret nm F L mc ms) (d : decode cc pc = .ok (.sipush n, 3)) (hv : (Int16.ofInt n).toInt32 = iI z) (K : zG x H a b (pc + 3) lv (.int (iI z) :: st)) : zG x H a b pc lv (st) := by
  obtain ⟨⟨p, e, R, s, m⟩, ⟨args, below, meth, c⟩, E, mc', ms', post, px⟩ := x
  obtain ⟨hx, hb, hml, hr, hown, hlk, htb, hst, hnm, hR, hm1, hm2⟩ := O
  intro hk hf locs ls hl hlv
  exact lv_sipush hx hb d hv (K hk hf locs ls hl hlv)
theorem z_iload_n {k : Fin 4} {v : Int32} (j : Nat) (O : zOk x own cc nL ret nm F L mc ms) (d : decode cc pc = .ok (.iload_n k, 1)) (h : lv[j]? = some ((k : Nat), .int v)) (K : zG x H a b (pc + 1) lv (.int v :: st)) : zG x H a b pc lv (st) := by
  obtain ⟨⟨p, e, R, s, m⟩, ⟨args, below, meth, c⟩, E, mc', ms', post, px⟩ := x
  obtain ⟨hx, hb, hml, hr, hown, hlk, htb, hst, hnm, hR, hm1, hm2⟩ := O
  intro hk hf locs ls hl hlv
  exact lv_iload_n hx hb d rfl (lv_at hlv j h) (K hk hf locs ls hl hlv)
theorem z_iload {i : Nat} {v : Int32} (j : Nat) (O : zOk x own cc nL ret nm F L mc ms) (d : decode cc pc = .ok (.iload i, 2)) (h : lv[j]? = some (i, .int v)) (K : zG x H a b (pc + 2) lv (.int v :: st)) : zG x H a b pc lv (st) := by
  obtain ⟨⟨p, e, R, s, m⟩, ⟨args, below, meth, c⟩, E, mc', ms', post, px⟩ := x
  obtain ⟨hx, hb, hml, hr, hown, hlk, htb, hst, hnm, hR, hm1, hm2⟩ := O
  intro hk hf locs ls hl hlv
  exact lv_iload hx hb d (lv_at hlv j h) (K hk hf locs ls hl hlv)
theorem z_aload_n {k : Fin 4} {v : Nat} (j : Nat) (O : zOk x own cc nL ret nm F L mc ms) (d : decode cc pc = .ok (.aload_n k, 1)) (h : lv[j]? = some ((k : Nat), .ref v)) (K : zG x H a b (pc + 1) lv (.ref v :: st)) : zG x H a b pc lv (st) := by
  obtain ⟨⟨p, e, R, s, m⟩, ⟨args, below, meth, c⟩, E, mc', ms', post, px⟩ := x
  obtain ⟨hx, hb, hml, hr, hown, hlk, htb, hst, hnm, hR, hm1, hm2⟩ := O
  intro hk hf locs ls hl hlv
  exact lv_aload_n hx hb d rfl (lv_at hlv j h) (K hk hf locs ls hl hlv)
theorem z_aload {i : Nat} {v : Nat} (j : Nat) (O : zOk x own cc nL ret nm F L mc ms) (d : decode cc pc = .ok (.aload i, 2)) (h : lv[j]? = some (i, .ref v)) (K : zG x H a b (pc + 2) lv (.ref v :: st)) : zG x H a b pc lv (st) := by
  obtain ⟨⟨p, e, R, s, m⟩, ⟨args, below, meth, c⟩, E, mc', ms', post, px⟩ := x
  obtain ⟨hx, hb, hml, hr, hown, hlk, htb, hst, hnm, hR, hm1, hm2⟩ := O
  intro hk hf locs ls hl hlv
  exact lv_aload hx hb d (lv_at hlv j h) (K hk hf locs ls hl hlv)
theorem z_lload_n {k : Fin 4} {v : Int64} (j : Nat) (O : zOk x own cc nL ret nm F L mc ms) (d : decode cc pc = .ok (.lload_n k, 1)) (h : lv[j]? = some ((k : Nat), .long v)) (K : zG x H a b (pc + 1) lv (.long v :: st)) : zG x H a b pc lv (st) := by
  obtain ⟨⟨p, e, R, s, m⟩, ⟨args, below, meth, c⟩, E, mc', ms', post, px⟩ := x
  obtain ⟨hx, hb, hml, hr, hown, hlk, htb, hst, hnm, hR, hm1, hm2⟩ := O
  intro hk hf locs ls hl hlv
  exact lv_lload_n hx hb d rfl (lv_at hlv j h) (K hk hf locs ls hl hlv)
theorem z_lload {i : Nat} {v : Int64} (j : Nat) (O : zOk x own cc nL ret nm F L mc ms) (d : decode cc pc = .ok (.lload i, 2)) (h : lv[j]? = some (i, .long v)) (K : zG x H a b (pc + 2) lv (.long v :: st)) : zG x H a b pc lv (st) := by
  obtain ⟨⟨p, e, R, s, m⟩, ⟨args, below, meth, c⟩, E, mc', ms', post, px⟩ := x
  obtain ⟨hx, hb, hml, hr, hown, hlk, htb, hst, hnm, hR, hm1, hm2⟩ := O
  intro hk hf locs ls hl hlv
  exact lv_lload hx hb d (lv_at hlv j h) (K hk hf locs ls hl hlv)
theorem z_aload_nN {k : Fin 4} (j : Nat) (O : zOk x own cc nL ret nm F L mc ms) (d : decode cc pc = .ok (.aload_n k, 1)) (h : lv[j]? = some ((k : Nat), .null)) (K : zG x H a b (pc + 1) lv (.null :: st)) : zG x H a b pc lv (st) := by
  obtain ⟨⟨p, e, R, s, m⟩, ⟨args, below, meth, c⟩, E, mc', ms', post, px⟩ := x
  obtain ⟨hx, hb, hml, hr, hown, hlk, htb, hst, hnm, hR, hm1, hm2⟩ := O
  intro hk hf locs ls hl hlv
  exact lv_aload_nN hx hb d rfl (lv_at hlv j h) (K hk hf locs ls hl hlv)
theorem z_aloadN {i : Nat} (j : Nat) (O : zOk x own cc nL ret nm F L mc ms) (d : decode cc pc = .ok (.aload i, 2)) (h : lv[j]? = some (i, .null)) (K : zG x H a b (pc + 2) lv (.null :: st)) : zG x H a b pc lv (st) := by
  obtain ⟨⟨p, e, R, s, m⟩, ⟨args, below, meth, c⟩, E, mc', ms', post, px⟩ := x
  obtain ⟨hx, hb, hml, hr, hown, hlk, htb, hst, hnm, hR, hm1, hm2⟩ := O
  intro hk hf locs ls hl hlv
  exact lv_aloadN hx hb d (lv_at hlv j h) (K hk hf locs ls hl hlv)
theorem z_istore_n {k : Fin 4} {v : Int32} (lv' : List (Nat × Value)) (O : zOk x own cc nL ret nm F L mc ms) (d : decode cc pc = .ok (.istore_n k, 1)) (hn : (k : Nat) < nL) (h : ((k : Nat), Value.int v) :: lv.filter (fun q => !(q.1 == (k : Nat)) && !(q.1 + 1 == (k : Nat) && q.2.category == 2)) = lv') (K : zG x H a b (pc + 1) lv' st) : zG x H a b pc lv (.int v :: st) := by
  obtain ⟨⟨p, e, R, s, m⟩, ⟨args, below, meth, c⟩, E, mc', ms', post, px⟩ := x
  obtain ⟨hx, hb, hml, hr, hown, hlk, htb, hst, hnm, hR, hm1, hm2⟩ := O
  intro hk hf locs ls hl hlv
  exact lv_istore_n hx hb d rfl hlv (by rw [hml]; exact hn) h (fun ls' h' => K hk hf locs ls' hl h')
theorem z_istore {i : Nat} {v : Int32} (lv' : List (Nat × Value)) (O : zOk x own cc nL ret nm F L mc ms) (d : decode cc pc = .ok (.istore i, 2)) (hn : i < nL) (h : (i, Value.int v) :: lv.filter (fun q => !(q.1 == i) && !(q.1 + 1 == i && q.2.category == 2)) = lv') (K : zG x H a b (pc + 2) lv' st) : zG x H a b pc lv (.int v :: st) := by
  obtain ⟨⟨p, e, R, s, m⟩, ⟨args, below, meth, c⟩, E, mc', ms', post, px⟩ := x
  obtain ⟨hx, hb, hml, hr, hown, hlk, htb, hst, hnm, hR, hm1, hm2⟩ := O
  intro hk hf locs ls hl hlv
  exact lv_istore hx hb d hlv (by rw [hml]; exact hn) h (fun ls' h' => K hk hf locs ls' hl h')
theorem z_astore_n {k : Fin 4} {v : Nat} (lv' : List (Nat × Value)) (O : zOk x own cc nL ret nm F L mc ms) (d : decode cc pc = .ok (.astore_n k, 1)) (hn : (k : Nat) < nL) (h : ((k : Nat), Value.ref v) :: lv.filter (fun q => !(q.1 == (k : Nat)) && !(q.1 + 1 == (k : Nat) && q.2.category == 2)) = lv') (K : zG x H a b (pc + 1) lv' st) : zG x H a b pc lv (.ref v :: st) := by
  obtain ⟨⟨p, e, R, s, m⟩, ⟨args, below, meth, c⟩, E, mc', ms', post, px⟩ := x
  obtain ⟨hx, hb, hml, hr, hown, hlk, htb, hst, hnm, hR, hm1, hm2⟩ := O
  intro hk hf locs ls hl hlv
  exact lv_astore_n hx hb d rfl hlv (by rw [hml]; exact hn) h (fun ls' h' => K hk hf locs ls' hl h')
theorem z_astore {i : Nat} {v : Nat} (lv' : List (Nat × Value)) (O : zOk x own cc nL ret nm F L mc ms) (d : decode cc pc = .ok (.astore i, 2)) (hn : i < nL) (h : (i, Value.ref v) :: lv.filter (fun q => !(q.1 == i) && !(q.1 + 1 == i && q.2.category == 2)) = lv') (K : zG x H a b (pc + 2) lv' st) : zG x H a b pc lv (.ref v :: st) := by
  obtain ⟨⟨p, e, R, s, m⟩, ⟨args, below, meth, c⟩, E, mc', ms', post, px⟩ := x
  obtain ⟨hx, hb, hml, hr, hown, hlk, htb, hst, hnm, hR, hm1, hm2⟩ := O
  intro hk hf locs ls hl hlv
  exact lv_astore hx hb d hlv (by rw [hml]; exact hn) h (fun ls' h' => K hk hf locs ls' hl h')
theorem z_astore_nN {k : Fin 4} (lv' : List (Nat × Value)) (O : zOk x own cc nL ret nm F L mc ms) (d : decode cc pc = .ok (.astore_n k, 1)) (hn : (k : Nat) < nL) (h : ((k : Nat), Value.null) :: lv.filter (fun q => !(q.1 == (k : Nat)) && !(q.1 + 1 == (k : Nat) && q.2.category == 2)) = lv') (K : zG x H a b (pc + 1) lv' st) : zG x H a b pc lv (.null :: st) := by
  obtain ⟨⟨p, e, R, s, m⟩, ⟨args, below, meth, c⟩, E, mc', ms', post, px⟩ := x
  obtain ⟨hx, hb, hml, hr, hown, hlk, htb, hst, hnm, hR, hm1, hm2⟩ := O
  intro hk hf locs ls hl hlv
  exact lv_astore_nN hx hb d rfl hlv (by rw [hml]; exact hn) h (fun ls' h' => K hk hf locs ls' hl h')
theorem z_astoreN {i : Nat} (lv' : List (Nat × Value)) (O : zOk x own cc nL ret nm F L mc ms) (d : decode cc pc = .ok (.astore i, 2)) (hn : i < nL) (h : (i, Value.null) :: lv.filter (fun q => !(q.1 == i) && !(q.1 + 1 == i && q.2.category == 2)) = lv') (K : zG x H a b (pc + 2) lv' st) : zG x H a b pc lv (.null :: st) := by
  obtain ⟨⟨p, e, R, s, m⟩, ⟨args, below, meth, c⟩, E, mc', ms', post, px⟩ := x
  obtain ⟨hx, hb, hml, hr, hown, hlk, htb, hst, hnm, hR, hm1, hm2⟩ := O
  intro hk hf locs ls hl hlv
  exact lv_astoreN hx hb d hlv (by rw [hml]; exact hn) h (fun ls' h' => K hk hf locs ls' hl h')
theorem z_lstore_n {k : Fin 4} {v : Int64} (lv' : List (Nat × Value)) (O : zOk x own cc nL ret nm F L mc ms) (d : decode cc pc = .ok (.lstore_n k, 1)) (hn : (k : Nat) + 1 < nL) (h : ((k : Nat), Value.long v) :: lv.filter (fun q => !(q.1 == (k : Nat)) && (!(q.1 == (k : Nat) + 1) && !(q.1 + 1 == (k : Nat) && q.2.category == 2))) = lv') (K : zG x H a b (pc + 1) lv' st) : zG x H a b pc lv (.long v :: st) := by
  obtain ⟨⟨p, e, R, s, m⟩, ⟨args, below, meth, c⟩, E, mc', ms', post, px⟩ := x
  obtain ⟨hx, hb, hml, hr, hown, hlk, htb, hst, hnm, hR, hm1, hm2⟩ := O
  intro hk hf locs ls hl hlv
  exact lv_lstore_n hx hb d rfl hlv (by rw [hml]; exact hn) h (fun ls' h' => K hk hf locs ls' hl h')
theorem z_lstore {i : Nat} {v : Int64} (lv' : List (Nat × Value)) (O : zOk x own cc nL ret nm F L mc ms) (d : decode cc pc = .ok (.lstore i, 2)) (hn : i + 1 < nL) (h : (i, Value.long v) :: lv.filter (fun q => !(q.1 == i) && (!(q.1 == i + 1) && !(q.1 + 1 == i && q.2.category == 2))) = lv') (K : zG x H a b (pc + 2) lv' st) : zG x H a b pc lv (.long v :: st) := by
  obtain ⟨⟨p, e, R, s, m⟩, ⟨args, below, meth, c⟩, E, mc', ms', post, px⟩ := x
  obtain ⟨hx, hb, hml, hr, hown, hlk, htb, hst, hnm, hR, hm1, hm2⟩ := O
  intro hk hf locs ls hl hlv
  exact lv_lstore hx hb d hlv (by rw [hml]; exact hn) h (fun ls' h' => K hk hf locs ls' hl h')
theorem z_iinc {i : Nat} {n : Int} {z : Int} (j : Nat) (lv' : List (Nat × Value)) (O : zOk x own cc nL ret nm F L mc ms) (d : decode cc pc = .ok (.iinc i n, 3)) (hn : i < nL) (h0 : lv[j]? = some (i, .int (iI z))) (h : (i, Value.int (iI (z + n))) :: lv.filter (fun q => !(q.1 == i) && !(q.1 + 1 == i && q.2.category == 2)) = lv') (K : zG x H a b (pc + 3) lv' st) : zG x H a b pc lv (st) := by
  obtain ⟨⟨p, e, R, s, m⟩, ⟨args, below, meth, c⟩, E, mc', ms', post, px⟩ := x
  obtain ⟨hx, hb, hml, hr, hown, hlk, htb, hst, hnm, hR, hm1, hm2⟩ := O
  intro hk hf locs ls hl hlv
  exact lv_iinc hx hb d hlv h0 (iI_add z n) (by rw [hml]; exact hn) h (fun ls' h' => K hk hf locs ls' hl h')
theorem z_iadd {u v : Int} (O : zOk x own cc nL ret nm F L mc ms) (d : decode cc pc = .ok (.iadd, 1)) (K : zG x H a b (pc + 1) lv (.int (iI (u + v)) :: st)) : zG x H a b pc lv (.int (iI v) :: .int (iI u) :: st) := by
  obtain ⟨⟨p, e, R, s, m⟩, ⟨args, below, meth, c⟩, E, mc', ms', post, px⟩ := x
  obtain ⟨hx, hb, hml, hr, hown, hlk, htb, hst, hnm, hR, hm1, hm2⟩ := O
  intro hk hf locs ls hl hlv
  exact lv_iadd hx hb d (by rw [iI_add]; exact K hk hf locs ls hl hlv)
theorem z_isub {u v : Int} (O : zOk x own cc nL ret nm F L mc ms) (d : decode cc pc = .ok (.isub, 1)) (K : zG x H a b (pc + 1) lv (.int (iI (u - v)) :: st)) : zG x H a b pc lv (.int (iI v) :: .int (iI u) :: st) := by
  obtain ⟨⟨p, e, R, s, m⟩, ⟨args, below, meth, c⟩, E, mc', ms', post, px⟩ := x
  obtain ⟨hx, hb, hml, hr, hown, hlk, htb, hst, hnm, hR, hm1, hm2⟩ := O
  intro hk hf locs ls hl hlv
  exact lv_isub hx hb d (by rw [iI_sub]; exact K hk hf locs ls hl hlv)
theorem z_imul {u v : Int} (O : zOk x own cc nL ret nm F L mc ms) (d : decode cc pc = .ok (.imul, 1)) (K : zG x H a b (pc + 1) lv (.int (iI (u * v)) :: st)) : zG x H a b pc lv (.int (iI v) :: .int (iI u) :: st) := by
  obtain ⟨⟨p, e, R, s, m⟩, ⟨args, below, meth, c⟩, E, mc', ms', post, px⟩ := x
  obtain ⟨hx, hb, hml, hr, hown, hlk, htb, hst, hnm, hR, hm1, hm2⟩ := O
  intro hk hf locs ls hl hlv
  exact lv_imul hx hb d (by rw [iI_mul]; exact K hk hf locs ls hl hlv)
theorem z_ladd {u v : Int64} (O : zOk x own cc nL ret nm F L mc ms) (d : decode cc pc = .ok (.ladd, 1)) (K : zG x H a b (pc + 1) lv (.long (u + v) :: st)) : zG x H a b pc lv (.long v :: .long u :: st) := by
  obtain ⟨⟨p, e, R, s, m⟩, ⟨args, below, meth, c⟩, E, mc', ms', post, px⟩ := x
  obtain ⟨hx, hb, hml, hr, hown, hlk, htb, hst, hnm, hR, hm1, hm2⟩ := O
  intro hk hf locs ls hl hlv
  exact lv_ladd hx hb d (K hk hf locs ls hl hlv)
theorem z_lsub {u v : Int64} (O : zOk x own cc nL ret nm F L mc ms) (d : decode cc pc = .ok (.lsub, 1)) (K : zG x H a b (pc + 1) lv (.long (u - v) :: st)) : zG x H a b pc lv (.long v :: .long u :: st) := by
  obtain ⟨⟨p, e, R, s, m⟩, ⟨args, below, meth, c⟩, E, mc', ms', post, px⟩ := x
  obtain ⟨hx, hb, hml, hr, hown, hlk, htb, hst, hnm, hR, hm1, hm2⟩ := O
  intro hk hf locs ls hl hlv
  exact lv_lsub hx hb d (K hk hf locs ls hl hlv)
theorem z_lmul {u v : Int64} (O : zOk x own cc nL ret nm F L mc ms) (d : decode cc pc = .ok (.lmul, 1)) (K : zG x H a b (pc + 1) lv (.long (u * v) :: st)) : zG x H a b pc lv (.long v :: .long u :: st) := by
  obtain ⟨⟨p, e, R, s, m⟩, ⟨args, below, meth, c⟩, E, mc', ms', post, px⟩ := x
  obtain ⟨hx, hb, hml, hr, hown, hlk, htb, hst, hnm, hR, hm1, hm2⟩ := O
  intro hk hf locs ls hl hlv
  exact lv_lmul hx hb d (K hk hf locs ls hl hlv)
theorem z_idiv {u v : Int} (O : zOk x own cc nL ret nm F L mc ms) (d : decode cc pc = .ok (.idiv, 1)) (hu : zR u) (hv : zR v) (h0 : 0 ≤ u) (h1 : 0 < v) (K : zG x H a b (pc + 1) lv (.int (iI (u / v)) :: st)) : zG x H a b pc lv (.int (iI v) :: .int (iI u) :: st) := by
  obtain ⟨⟨p, e, R, s, m⟩, ⟨args, below, meth, c⟩, E, mc', ms', post, px⟩ := x
  obtain ⟨hx, hb, hml, hr, hown, hlk, htb, hst, hnm, hR, hm1, hm2⟩ := O
  intro hk hf locs ls hl hlv
  exact lv_idiv hx hb d (iI_n0 hv h1) (by rw [iI_div hu hv h0 h1]; exact K hk hf locs ls hl hlv)
theorem z_irem {u v : Int} (O : zOk x own cc nL ret nm F L mc ms) (d : decode cc pc = .ok (.irem, 1)) (hu : zR u) (hv : zR v) (h0 : 0 ≤ u) (h1 : 0 < v) (K : zG x H a b (pc + 1) lv (.int (iI (u % v)) :: st)) : zG x H a b pc lv (.int (iI v) :: .int (iI u) :: st) := by
  obtain ⟨⟨p, e, R, s, m⟩, ⟨args, below, meth, c⟩, E, mc', ms', post, px⟩ := x
  obtain ⟨hx, hb, hml, hr, hown, hlk, htb, hst, hnm, hR, hm1, hm2⟩ := O
  intro hk hf locs ls hl hlv
  exact lv_irem hx hb d (iI_n0 hv h1) (by rw [iI_rem hu hv h0 h1]; exact K hk hf locs ls hl hlv)
theorem z_ldiv {u v : Int} (O : zOk x own cc nL ret nm F L mc ms) (d : decode cc pc = .ok (.ldiv, 1)) (hu : zRL u) (hv : zRL v) (h0 : 0 ≤ u) (h1 : 0 < v) (K : zG x H a b (pc + 1) lv (.long (iL (u / v)) :: st)) : zG x H a b pc lv (.long (iL v) :: .long (iL u) :: st) := by
  obtain ⟨⟨p, e, R, s, m⟩, ⟨args, below, meth, c⟩, E, mc', ms', post, px⟩ := x
  obtain ⟨hx, hb, hml, hr, hown, hlk, htb, hst, hnm, hR, hm1, hm2⟩ := O
  intro hk hf locs ls hl hlv
  exact lv_ldiv hx hb d (iL_n0 hv h1) (by rw [iL_div hu hv h0 h1]; exact K hk hf locs ls hl hlv)
theorem z_lrem {u v : Int} (O : zOk x own cc nL ret nm F L mc ms) (d : decode cc pc = .ok (.lrem, 1)) (hu : zRL u) (hv : zRL v) (h0 : 0 ≤ u) (h1 : 0 < v) (K : zG x H a b (pc + 1) lv (.long (iL (u % v)) :: st)) : zG x H a b pc lv (.long (iL v) :: .long (iL u) :: st) := by
  obtain ⟨⟨p, e, R, s, m⟩, ⟨args, below, meth, c⟩, E, mc', ms', post, px⟩ := x
  obtain ⟨hx, hb, hml, hr, hown, hlk, htb, hst, hnm, hR, hm1, hm2⟩ := O
  intro hk hf locs ls hl hlv
  exact lv_lrem hx hb d (iL_n0 hv h1) (by rw [iL_rem hu hv h0 h1]; exact K hk hf locs ls hl hlv)
theorem z_laddI {u v : Int} (O : zOk x own cc nL ret nm F L mc ms) (d : decode cc pc = .ok (.ladd, 1)) (K : zG x H a b (pc + 1) lv (.long (iL (u + v)) :: st)) : zG x H a b pc lv (.long (iL v) :: .long (iL u) :: st) := by
  obtain ⟨⟨p, e, R, s, m⟩, ⟨args, below, meth, c⟩, E, mc', ms', post, px⟩ := x
  obtain ⟨hx, hb, hml, hr, hown, hlk, htb, hst, hnm, hR, hm1, hm2⟩ := O
  intro hk hf locs ls hl hlv
  exact lv_ladd hx hb d (by rw [iL_add]; exact K hk hf locs ls hl hlv)
theorem z_lsubI {u v : Int} (O : zOk x own cc nL ret nm F L mc ms) (d : decode cc pc = .ok (.lsub, 1)) (K : zG x H a b (pc + 1) lv (.long (iL (u - v)) :: st)) : zG x H a b pc lv (.long (iL v) :: .long (iL u) :: st) := by
  obtain ⟨⟨p, e, R, s, m⟩, ⟨args, below, meth, c⟩, E, mc', ms', post, px⟩ := x
  obtain ⟨hx, hb, hml, hr, hown, hlk, htb, hst, hnm, hR, hm1, hm2⟩ := O
  intro hk hf locs ls hl hlv
  exact lv_lsub hx hb d (by rw [iL_sub]; exact K hk hf locs ls hl hlv)
theorem z_lmulI {u v : Int} (O : zOk x own cc nL ret nm F L mc ms) (d : decode cc pc = .ok (.lmul, 1)) (K : zG x H a b (pc + 1) lv (.long (iL (u * v)) :: st)) : zG x H a b pc lv (.long (iL v) :: .long (iL u) :: st) := by
  obtain ⟨⟨p, e, R, s, m⟩, ⟨args, below, meth, c⟩, E, mc', ms', post, px⟩ := x
  obtain ⟨hx, hb, hml, hr, hown, hlk, htb, hst, hnm, hR, hm1, hm2⟩ := O
  intro hk hf locs ls hl hlv
  exact lv_lmul hx hb d (by rw [iL_mul]; exact K hk hf locs ls hl hlv)
theorem z_i2l {u : Int} (O : zOk x own cc nL ret nm F L mc ms) (d : decode cc pc = .ok (.i2l, 1)) (hu : zR u) (K : zG x H a b (pc + 1) lv (.long (iL u) :: st)) : zG x H a b pc lv (.int (iI u) :: st) := by
  obtain ⟨⟨p, e, R, s, m⟩, ⟨args, below, meth, c⟩, E, mc', ms', post, px⟩ := x
  obtain ⟨hx, hb, hml, hr, hown, hlk, htb, hst, hnm, hR, hm1, hm2⟩ := O
  intro hk hf locs ls hl hlv
  exact lv_i2l hx hb d (iL_i u hu) (K hk hf locs ls hl hlv)
theorem z_l2i {u : Int} (O : zOk x own cc nL ret nm F L mc ms) (d : decode cc pc = .ok (.l2i, 1)) (K : zG x H a b (pc + 1) lv (.int (iI u) :: st)) : zG x H a b pc lv (.long (iL u) :: st) := by
  obtain ⟨⟨p, e, R, s, m⟩, ⟨args, below, meth, c⟩, E, mc', ms', post, px⟩ := x
  obtain ⟨hx, hb, hml, hr, hown, hlk, htb, hst, hnm, hR, hm1, hm2⟩ := O
  intro hk hf locs ls hl hlv
  exact lv_l2i hx hb d (iL_to u) (K hk hf locs ls hl hlv)
theorem z_l2iR {u : Int64} {z : Int} (O : zOk x own cc nL ret nm F L mc ms) (d : decode cc pc = .ok (.l2i, 1)) (hu : u.toInt32 = iI z) (K : zG x H a b (pc + 1) lv (.int (iI z) :: st)) : zG x H a b pc lv (.long u :: st) := by
  obtain ⟨⟨p, e, R, s, m⟩, ⟨args, below, meth, c⟩, E, mc', ms', post, px⟩ := x
  obtain ⟨hx, hb, hml, hr, hown, hlk, htb, hst, hnm, hR, hm1, hm2⟩ := O
  intro hk hf locs ls hl hlv
  exact lv_l2i hx hb d hu (K hk hf locs ls hl hlv)
theorem z_lushr {u v : Int64} {y : Int32} (O : zOk x own cc nL ret nm F L mc ms) (d : decode cc pc = .ok (.lushr, 1)) (hv : (u.toUInt64 >>> (y.toInt64.toUInt64 &&& Int64.toUInt64 63)).toInt64 = v) (K : zG x H a b (pc + 1) lv (.long v :: st)) : zG x H a b pc lv (.int y :: .long u :: st) := by
  obtain ⟨⟨p, e, R, s, m⟩, ⟨args, below, meth, c⟩, E, mc', ms', post, px⟩ := x
  obtain ⟨hx, hb, hml, hr, hown, hlk, htb, hst, hnm, hR, hm1, hm2⟩ := O
  intro hk hf locs ls hl hlv
  exact lv_lushr hx hb d hv (K hk hf locs ls hl hlv)
theorem z_lconst {n : Fin 2} (z : Int) (O : zOk x own cc nL ret nm F L mc ms) (d : decode cc pc = .ok (.lconst n, 1)) (hv : Int64.ofNat (n : Nat) = iL z) (K : zG x H a b (pc + 1) lv (.long (iL z) :: st)) : zG x H a b pc lv (st) := by
  obtain ⟨⟨p, e, R, s, m⟩, ⟨args, below, meth, c⟩, E, mc', ms', post, px⟩ := x
  obtain ⟨hx, hb, hml, hr, hown, hlk, htb, hst, hnm, hR, hm1, hm2⟩ := O
  intro hk hf locs ls hl hlv
  exact lv_lconst hx hb d hv (K hk hf locs ls hl hlv)
theorem z_ldc2 {i : Nat} (v : Int64) (O : zOk x own cc nL ret nm F L mc ms) (d : decode cc pc = .ok (.ldc2_w i, 3)) (hm : Cond.constantLong own i v ∈ lw_tbl) (K : zG x H a b (pc + 3) lv (.long v :: st)) : zG x H a b pc lv (st) := by
  obtain ⟨⟨p, e, R, s, m⟩, ⟨args, below, meth, c⟩, E, mc', ms', post, px⟩ := x
  obtain ⟨hx, hb, hml, hr, hown, hlk, htb, hst, hnm, hR, hm1, hm2⟩ := O
  intro hk hf locs ls hl hlv
  exact lv_ldc2 hx hb hown (hk.2.2.1.at hm rfl rfl) d (K hk hf locs ls hl hlv)
theorem z_lcmp {u v : Int} (O : zOk x own cc nL ret nm F L mc ms) (d : decode cc pc = .ok (.lcmp, 1)) (hu : zRL u) (hv : zRL v) (K : zG x H a b (pc + 1) lv (.int (iI (zcmp u v)) :: st)) : zG x H a b pc lv (.long (iL v) :: .long (iL u) :: st) := by
  obtain ⟨⟨p, e, R, s, m⟩, ⟨args, below, meth, c⟩, E, mc', ms', post, px⟩ := x
  obtain ⟨hx, hb, hml, hr, hown, hlk, htb, hst, hnm, hR, hm1, hm2⟩ := O
  intro hk hf locs ls hl hlv
  exact W.lcmp hx hb d (by rw [iL_cmp hu hv]; exact K hk hf locs ls hl hlv)
theorem z_i2c {u : Int} (O : zOk x own cc nL ret nm F L mc ms) (d : decode cc pc = .ok (.i2c, 1)) (h : ((iI u).toUInt32 % 65536).toInt32 = iI u) (K : zG x H a b (pc + 1) lv (.int (iI u) :: st)) : zG x H a b pc lv (.int (iI u) :: st) := by
  obtain ⟨⟨p, e, R, s, m⟩, ⟨args, below, meth, c⟩, E, mc', ms', post, px⟩ := x
  obtain ⟨hx, hb, hml, hr, hown, hlk, htb, hst, hnm, hR, hm1, hm2⟩ := O
  intro hk hf locs ls hl hlv
  exact lv_i2c hx hb d h (K hk hf locs ls hl hlv)
theorem z_dup {v : Value} (O : zOk x own cc nL ret nm F L mc ms) (d : decode cc pc = .ok (.dup, 1)) (h : v.category = 1) (K : zG x H a b (pc + 1) lv (v :: v :: st)) : zG x H a b pc lv (v :: st) := by
  obtain ⟨⟨p, e, R, s, m⟩, ⟨args, below, meth, c⟩, E, mc', ms', post, px⟩ := x
  obtain ⟨hx, hb, hml, hr, hown, hlk, htb, hst, hnm, hR, hm1, hm2⟩ := O
  intro hk hf locs ls hl hlv
  exact lv_dup hx hb d h (K hk hf locs ls hl hlv)
theorem z_pop {v : Value} (O : zOk x own cc nL ret nm F L mc ms) (d : decode cc pc = .ok (.pop, 1)) (h : v.category = 1) (K : zG x H a b (pc + 1) lv st) : zG x H a b pc lv (v :: st) := by
  obtain ⟨⟨p, e, R, s, m⟩, ⟨args, below, meth, c⟩, E, mc', ms', post, px⟩ := x
  obtain ⟨hx, hb, hml, hr, hown, hlk, htb, hst, hnm, hR, hm1, hm2⟩ := O
  intro hk hf locs ls hl hlv
  exact lv_pop hx hb d h (K hk hf locs ls hl hlv)
theorem z_dup2 {v w : Value} (O : zOk x own cc nL ret nm F L mc ms) (d : decode cc pc = .ok (.dup2, 1)) (h : v.category = 1) (h2 : w.category = 1) (K : zG x H a b (pc + 1) lv (v :: w :: v :: w :: st)) : zG x H a b pc lv (v :: w :: st) := by
  obtain ⟨⟨p, e, R, s, m⟩, ⟨args, below, meth, c⟩, E, mc', ms', post, px⟩ := x
  obtain ⟨hx, hb, hml, hr, hown, hlk, htb, hst, hnm, hR, hm1, hm2⟩ := O
  intro hk hf locs ls hl hlv
  exact lv_dup2_11 hx hb d h h2 (K hk hf locs ls hl hlv)
theorem z_null  (O : zOk x own cc nL ret nm F L mc ms) (d : decode cc pc = .ok (.aconst_null, 1)) (K : zG x H a b (pc + 1) lv (.null :: st)) : zG x H a b pc lv (st) := by
  obtain ⟨⟨p, e, R, s, m⟩, ⟨args, below, meth, c⟩, E, mc', ms', post, px⟩ := x
  obtain ⟨hx, hb, hml, hr, hown, hlk, htb, hst, hnm, hR, hm1, hm2⟩ := O
  intro hk hf locs ls hl hlv
  exact lv_null hx hb d (K hk hf locs ls hl hlv)
theorem z_goto {off : Int} (tgt : Nat) (O : zOk x own cc nL ret nm F L mc ms) (d : decode cc pc = .ok (.goto off, 3)) (ht : (pc : Int) + off = (tgt : Int)) (K : zG x H a b tgt lv st) : zG x H a b pc lv (st) := by
  obtain ⟨⟨p, e, R, s, m⟩, ⟨args, below, meth, c⟩, E, mc', ms', post, px⟩ := x
  obtain ⟨hx, hb, hml, hr, hown, hlk, htb, hst, hnm, hR, hm1, hm2⟩ := O
  intro hk hf locs ls hl hlv
  exact lv_goto hx hb d ht (K hk hf locs ls hl hlv)
theorem z_ifnonnull {off : Int} {v : Nat} (tgt : Nat) (O : zOk x own cc nL ret nm F L mc ms) (d : decode cc pc = .ok (.ifnonnull off, 3)) (ht : (pc : Int) + off = (tgt : Int)) (K : zG x H a b tgt lv st) : zG x H a b pc lv (.ref v :: st) := by
  obtain ⟨⟨p, e, R, s, m⟩, ⟨args, below, meth, c⟩, E, mc', ms', post, px⟩ := x
  obtain ⟨hx, hb, hml, hr, hown, hlk, htb, hst, hnm, hR, hm1, hm2⟩ := O
  intro hk hf locs ls hl hlv
  exact lv_ifnonnull hx hb d ht (K hk hf locs ls hl hlv)
theorem z_ifnonnullN {off : Int} (O : zOk x own cc nL ret nm F L mc ms) (d : decode cc pc = .ok (.ifnonnull off, 3)) (K : zG x H a b (pc + 3) lv st) : zG x H a b pc lv (.null :: st) := by
  obtain ⟨⟨p, e, R, s, m⟩, ⟨args, below, meth, c⟩, E, mc', ms', post, px⟩ := x
  obtain ⟨hx, hb, hml, hr, hown, hlk, htb, hst, hnm, hR, hm1, hm2⟩ := O
  intro hk hf locs ls hl hlv
  exact lv_ifnonnullN hx hb d (K hk hf locs ls hl hlv)
theorem z_ifnull {off : Int} {v : Nat} (O : zOk x own cc nL ret nm F L mc ms) (d : decode cc pc = .ok (.ifnull off, 3)) (K : zG x H a b (pc + 3) lv st) : zG x H a b pc lv (.ref v :: st) := by
  obtain ⟨⟨p, e, R, s, m⟩, ⟨args, below, meth, c⟩, E, mc', ms', post, px⟩ := x
  obtain ⟨hx, hb, hml, hr, hown, hlk, htb, hst, hnm, hR, hm1, hm2⟩ := O
  intro hk hf locs ls hl hlv
  exact lv_ifnull hx hb d (K hk hf locs ls hl hlv)
theorem z_ifnullN {off : Int} (tgt : Nat) (O : zOk x own cc nL ret nm F L mc ms) (d : decode cc pc = .ok (.ifnull off, 3)) (ht : (pc : Int) + off = (tgt : Int)) (K : zG x H a b tgt lv st) : zG x H a b pc lv (.null :: st) := by
  obtain ⟨⟨p, e, R, s, m⟩, ⟨args, below, meth, c⟩, E, mc', ms', post, px⟩ := x
  obtain ⟨hx, hb, hml, hr, hown, hlk, htb, hst, hnm, hR, hm1, hm2⟩ := O
  intro hk hf locs ls hl hlv
  exact lv_ifnullN hx hb d ht (K hk hf locs ls hl hlv)
theorem z_icmp_eq {off : Int} {u v : Int} (tgt : Nat) (O : zOk x own cc nL ret nm F L mc ms) (d : decode cc pc = .ok (.if_icmp .eq off, 3)) (ht : (pc : Int) + off = (tgt : Int)) (hu : zR u) (hv : zR v) (kt : u = v → zG x H a b tgt lv st) (kf : ¬ u = v → zG x H a b (pc + 3) lv st) : zG x H a b pc lv (.int (iI v) :: .int (iI u) :: st) := by
  obtain ⟨⟨p, e, R, s, m⟩, ⟨args, below, meth, c⟩, E, mc', ms', post, px⟩ := x
  obtain ⟨hx, hb, hml, hr, hown, hlk, htb, hst, hnm, hR, hm1, hm2⟩ := O
  intro hk hf locs ls hl hlv
  exact lv_icmp_eq hx hb d ht (fun h => kt ((iI_inj hu hv).mp h) hk hf locs ls hl hlv) (fun h => kf (fun q => h ((iI_inj hu hv).mpr q)) hk hf locs ls hl hlv)
theorem z_if_eq {off : Int} {u : Int} (tgt : Nat) (O : zOk x own cc nL ret nm F L mc ms) (d : decode cc pc = .ok (.ifCond .eq off, 3)) (ht : (pc : Int) + off = (tgt : Int)) (hu : zR u) (kt : u = 0 → zG x H a b tgt lv st) (kf : ¬ u = 0 → zG x H a b (pc + 3) lv st) : zG x H a b pc lv (.int (iI u) :: st) := by
  obtain ⟨⟨p, e, R, s, m⟩, ⟨args, below, meth, c⟩, E, mc', ms', post, px⟩ := x
  obtain ⟨hx, hb, hml, hr, hown, hlk, htb, hst, hnm, hR, hm1, hm2⟩ := O
  intro hk hf locs ls hl hlv
  refine lv_if_eq hx hb d ht ?_ ?_ <;> rw [iI_0]
  · exact (fun h => kt ((iI_inj hu zR0).mp h) hk hf locs ls hl hlv)
  · exact (fun h => kf (fun q => h ((iI_inj hu zR0).mpr q)) hk hf locs ls hl hlv)
theorem z_icmp_ne {off : Int} {u v : Int} (tgt : Nat) (O : zOk x own cc nL ret nm F L mc ms) (d : decode cc pc = .ok (.if_icmp .ne off, 3)) (ht : (pc : Int) + off = (tgt : Int)) (hu : zR u) (hv : zR v) (kt : ¬ u = v → zG x H a b tgt lv st) (kf : u = v → zG x H a b (pc + 3) lv st) : zG x H a b pc lv (.int (iI v) :: .int (iI u) :: st) := by
  obtain ⟨⟨p, e, R, s, m⟩, ⟨args, below, meth, c⟩, E, mc', ms', post, px⟩ := x
  obtain ⟨hx, hb, hml, hr, hown, hlk, htb, hst, hnm, hR, hm1, hm2⟩ := O
  intro hk hf locs ls hl hlv
  exact lv_icmp_ne hx hb d ht (fun h => kt (fun q => h ((iI_inj hu hv).mpr q)) hk hf locs ls hl hlv) (fun h => kf ((iI_inj hu hv).mp h) hk hf locs ls hl hlv)
theorem z_if_ne {off : Int} {u : Int} (tgt : Nat) (O : zOk x own cc nL ret nm F L mc ms) (d : decode cc pc = .ok (.ifCond .ne off, 3)) (ht : (pc : Int) + off = (tgt : Int)) (hu : zR u) (kt : ¬ u = 0 → zG x H a b tgt lv st) (kf : u = 0 → zG x H a b (pc + 3) lv st) : zG x H a b pc lv (.int (iI u) :: st) := by
  obtain ⟨⟨p, e, R, s, m⟩, ⟨args, below, meth, c⟩, E, mc', ms', post, px⟩ := x
  obtain ⟨hx, hb, hml, hr, hown, hlk, htb, hst, hnm, hR, hm1, hm2⟩ := O
  intro hk hf locs ls hl hlv
  refine lv_if_ne hx hb d ht ?_ ?_ <;> rw [iI_0]
  · exact (fun h => kt (fun q => h ((iI_inj hu zR0).mpr q)) hk hf locs ls hl hlv)
  · exact (fun h => kf ((iI_inj hu zR0).mp h) hk hf locs ls hl hlv)
theorem z_icmp_lt {off : Int} {u v : Int} (tgt : Nat) (O : zOk x own cc nL ret nm F L mc ms) (d : decode cc pc = .ok (.if_icmp .lt off, 3)) (ht : (pc : Int) + off = (tgt : Int)) (hu : zR u) (hv : zR v) (kt : u < v → zG x H a b tgt lv st) (kf : v ≤ u → zG x H a b (pc + 3) lv st) : zG x H a b pc lv (.int (iI v) :: .int (iI u) :: st) := by
  obtain ⟨⟨p, e, R, s, m⟩, ⟨args, below, meth, c⟩, E, mc', ms', post, px⟩ := x
  obtain ⟨hx, hb, hml, hr, hown, hlk, htb, hst, hnm, hR, hm1, hm2⟩ := O
  intro hk hf locs ls hl hlv
  exact lv_icmp_lt hx hb d ht (fun h => kt ((iI_lt hu hv).mp h) hk hf locs ls hl hlv) (fun h => kf (by have q := mt (iI_lt hu hv).mpr h; omega) hk hf locs ls hl hlv)
theorem z_if_lt {off : Int} {u : Int} (tgt : Nat) (O : zOk x own cc nL ret nm F L mc ms) (d : decode cc pc = .ok (.ifCond .lt off, 3)) (ht : (pc : Int) + off = (tgt : Int)) (hu : zR u) (kt : u < 0 → zG x H a b tgt lv st) (kf : 0 ≤ u → zG x H a b (pc + 3) lv st) : zG x H a b pc lv (.int (iI u) :: st) := by
  obtain ⟨⟨p, e, R, s, m⟩, ⟨args, below, meth, c⟩, E, mc', ms', post, px⟩ := x
  obtain ⟨hx, hb, hml, hr, hown, hlk, htb, hst, hnm, hR, hm1, hm2⟩ := O
  intro hk hf locs ls hl hlv
  refine lv_if_lt hx hb d ht ?_ ?_ <;> rw [iI_0]
  · exact (fun h => kt ((iI_lt hu zR0).mp h) hk hf locs ls hl hlv)
  · exact (fun h => kf (by have q := mt (iI_lt hu zR0).mpr h; omega) hk hf locs ls hl hlv)
theorem z_icmp_ge {off : Int} {u v : Int} (tgt : Nat) (O : zOk x own cc nL ret nm F L mc ms) (d : decode cc pc = .ok (.if_icmp .ge off, 3)) (ht : (pc : Int) + off = (tgt : Int)) (hu : zR u) (hv : zR v) (kt : v ≤ u → zG x H a b tgt lv st) (kf : u < v → zG x H a b (pc + 3) lv st) : zG x H a b pc lv (.int (iI v) :: .int (iI u) :: st) := by
  obtain ⟨⟨p, e, R, s, m⟩, ⟨args, below, meth, c⟩, E, mc', ms', post, px⟩ := x
  obtain ⟨hx, hb, hml, hr, hown, hlk, htb, hst, hnm, hR, hm1, hm2⟩ := O
  intro hk hf locs ls hl hlv
  exact lv_icmp_ge hx hb d ht (fun h => kt ((iI_le hv hu).mp h) hk hf locs ls hl hlv) (fun h => kf (by have q := mt (iI_le hv hu).mpr h; omega) hk hf locs ls hl hlv)
theorem z_if_ge {off : Int} {u : Int} (tgt : Nat) (O : zOk x own cc nL ret nm F L mc ms) (d : decode cc pc = .ok (.ifCond .ge off, 3)) (ht : (pc : Int) + off = (tgt : Int)) (hu : zR u) (kt : 0 ≤ u → zG x H a b tgt lv st) (kf : u < 0 → zG x H a b (pc + 3) lv st) : zG x H a b pc lv (.int (iI u) :: st) := by
  obtain ⟨⟨p, e, R, s, m⟩, ⟨args, below, meth, c⟩, E, mc', ms', post, px⟩ := x
  obtain ⟨hx, hb, hml, hr, hown, hlk, htb, hst, hnm, hR, hm1, hm2⟩ := O
  intro hk hf locs ls hl hlv
  refine lv_if_ge hx hb d ht ?_ ?_ <;> rw [iI_0]
  · exact (fun h => kt ((iI_le zR0 hu).mp h) hk hf locs ls hl hlv)
  · exact (fun h => kf (by have q := mt (iI_le zR0 hu).mpr h; omega) hk hf locs ls hl hlv)
theorem z_icmp_gt {off : Int} {u v : Int} (tgt : Nat) (O : zOk x own cc nL ret nm F L mc ms) (d : decode cc pc = .ok (.if_icmp .gt off, 3)) (ht : (pc : Int) + off = (tgt : Int)) (hu : zR u) (hv : zR v) (kt : v < u → zG x H a b tgt lv st) (kf : u ≤ v → zG x H a b (pc + 3) lv st) : zG x H a b pc lv (.int (iI v) :: .int (iI u) :: st) := by
  obtain ⟨⟨p, e, R, s, m⟩, ⟨args, below, meth, c⟩, E, mc', ms', post, px⟩ := x
  obtain ⟨hx, hb, hml, hr, hown, hlk, htb, hst, hnm, hR, hm1, hm2⟩ := O
  intro hk hf locs ls hl hlv
  exact lv_icmp_gt hx hb d ht (fun h => kt ((iI_lt hv hu).mp h) hk hf locs ls hl hlv) (fun h => kf (by have q := mt (iI_lt hv hu).mpr h; omega) hk hf locs ls hl hlv)
theorem z_if_gt {off : Int} {u : Int} (tgt : Nat) (O : zOk x own cc nL ret nm F L mc ms) (d : decode cc pc = .ok (.ifCond .gt off, 3)) (ht : (pc : Int) + off = (tgt : Int)) (hu : zR u) (kt : 0 < u → zG x H a b tgt lv st) (kf : u ≤ 0 → zG x H a b (pc + 3) lv st) : zG x H a b pc lv (.int (iI u) :: st) := by
  obtain ⟨⟨p, e, R, s, m⟩, ⟨args, below, meth, c⟩, E, mc', ms', post, px⟩ := x
  obtain ⟨hx, hb, hml, hr, hown, hlk, htb, hst, hnm, hR, hm1, hm2⟩ := O
  intro hk hf locs ls hl hlv
  refine lv_if_gt hx hb d ht ?_ ?_ <;> rw [iI_0]
  · exact (fun h => kt ((iI_lt zR0 hu).mp h) hk hf locs ls hl hlv)
  · exact (fun h => kf (by have q := mt (iI_lt zR0 hu).mpr h; omega) hk hf locs ls hl hlv)
theorem z_icmp_le {off : Int} {u v : Int} (tgt : Nat) (O : zOk x own cc nL ret nm F L mc ms) (d : decode cc pc = .ok (.if_icmp .le off, 3)) (ht : (pc : Int) + off = (tgt : Int)) (hu : zR u) (hv : zR v) (kt : u ≤ v → zG x H a b tgt lv st) (kf : v < u → zG x H a b (pc + 3) lv st) : zG x H a b pc lv (.int (iI v) :: .int (iI u) :: st) := by
  obtain ⟨⟨p, e, R, s, m⟩, ⟨args, below, meth, c⟩, E, mc', ms', post, px⟩ := x
  obtain ⟨hx, hb, hml, hr, hown, hlk, htb, hst, hnm, hR, hm1, hm2⟩ := O
  intro hk hf locs ls hl hlv
  exact lv_icmp_le hx hb d ht (fun h => kt ((iI_le hu hv).mp h) hk hf locs ls hl hlv) (fun h => kf (by have q := mt (iI_le hu hv).mpr h; omega) hk hf locs ls hl hlv)
theorem z_if_le {off : Int} {u : Int} (tgt : Nat) (O : zOk x own cc nL ret nm F L mc ms) (d : decode cc pc = .ok (.ifCond .le off, 3)) (ht : (pc : Int) + off = (tgt : Int)) (hu : zR u) (kt : u ≤ 0 → zG x H a b tgt lv st) (kf : 0 < u → zG x H a b (pc + 3) lv st) : zG x H a b pc lv (.int (iI u) :: st) := by
  obtain ⟨⟨p, e, R, s, m⟩, ⟨args, below, meth, c⟩, E, mc', ms', post, px⟩ := x
  obtain ⟨hx, hb, hml, hr, hown, hlk, htb, hst, hnm, hR, hm1, hm2⟩ := O
  intro hk hf locs ls hl hlv
  refine lv_if_le hx hb d ht ?_ ?_ <;> rw [iI_0]
  · exact (fun h => kt ((iI_le hu zR0).mp h) hk hf locs ls hl hlv)
  · exact (fun h => kf (by have q := mt (iI_le hu zR0).mpr h; omega) hk hf locs ls hl hlv)
theorem z_ifb_eq {off : Int} {u : Bool} (tgt : Nat) (O : zOk x own cc nL ret nm F L mc ms) (d : decode cc pc = .ok (.ifCond .eq off, 3)) (ht : (pc : Int) + off = (tgt : Int)) (kt : u = false → zG x H a b tgt lv st) (kf : u = true → zG x H a b (pc + 3) lv st) : zG x H a b pc lv (.int (iI (zb u)) :: st) := by
  refine z_if_eq tgt O d ht zb_R (fun h => kt ?_) (fun h => kf ?_)
  · exact zb_0.mp h
  · cases u; exact absurd (zb_0.mpr rfl) h; rfl
theorem z_ifb_ne {off : Int} {u : Bool} (tgt : Nat) (O : zOk x own cc nL ret nm F L mc ms) (d : decode cc pc = .ok (.ifCond .ne off, 3)) (ht : (pc : Int) + off = (tgt : Int)) (kt : u = true → zG x H a b tgt lv st) (kf : u = false → zG x H a b (pc + 3) lv st) : zG x H a b pc lv (.int (iI (zb u)) :: st) := by
  refine z_if_ne tgt O d ht zb_R (fun h => kt ?_) (fun h => kf ?_)
  · cases u; exact absurd (zb_0.mpr rfl) h; rfl
  · exact zb_0.mp h
theorem z_lif_lt {off : Int} {u v : Int} (tgt : Nat) (O : zOk x own cc nL ret nm F L mc ms) (d0 : decode cc pc = .ok (.lcmp, 1)) (d : decode cc (pc + 1) = .ok (.ifCond .lt off, 3)) (ht : ((pc + 1 : Nat) : Int) + off = (tgt : Int)) (hu : zRL u) (hv : zRL v) (kt : u < v → zG x H a b tgt lv st) (kf : v ≤ u → zG x H a b (pc + 1 + 3) lv st) : zG x H a b pc lv (.long (iL v) :: .long (iL u) :: st) := by
  have e1 := @zcmp_lt u v
  have e2 := @zcmp_gt u v
  have e3 := @zcmp_eq u v
  refine z_lcmp O d0 hu hv (z_if_lt tgt O d ht zcmp_R (fun h => kt ?_) (fun h => kf ?_)) <;> omega
theorem z_lif_gt {off : Int} {u v : Int} (tgt : Nat) (O : zOk x own cc nL ret nm F L mc ms) (d0 : decode cc pc = .ok (.lcmp, 1)) (d : decode cc (pc + 1) = .ok (.ifCond .gt off, 3)) (ht : ((pc + 1 : Nat) : Int) + off = (tgt : Int)) (hu : zRL u) (hv : zRL v) (kt : v < u → zG x H a b tgt lv st) (kf : u ≤ v → zG x H a b (pc + 1 + 3) lv st) : zG x H a b pc lv (.long (iL v) :: .long (iL u) :: st) := by
  have e1 := @zcmp_lt u v
  have e2 := @zcmp_gt u v
  have e3 := @zcmp_eq u v
  refine z_lcmp O d0 hu hv (z_if_gt tgt O d ht zcmp_R (fun h => kt ?_) (fun h => kf ?_)) <;> omega
theorem z_lif_ge {off : Int} {u v : Int} (tgt : Nat) (O : zOk x own cc nL ret nm F L mc ms) (d0 : decode cc pc = .ok (.lcmp, 1)) (d : decode cc (pc + 1) = .ok (.ifCond .ge off, 3)) (ht : ((pc + 1 : Nat) : Int) + off = (tgt : Int)) (hu : zRL u) (hv : zRL v) (kt : v ≤ u → zG x H a b tgt lv st) (kf : u < v → zG x H a b (pc + 1 + 3) lv st) : zG x H a b pc lv (.long (iL v) :: .long (iL u) :: st) := by
  have e1 := @zcmp_lt u v
  have e2 := @zcmp_gt u v
  have e3 := @zcmp_eq u v
  refine z_lcmp O d0 hu hv (z_if_ge tgt O d ht zcmp_R (fun h => kt ?_) (fun h => kf ?_)) <;> omega
theorem z_lif_le {off : Int} {u v : Int} (tgt : Nat) (O : zOk x own cc nL ret nm F L mc ms) (d0 : decode cc pc = .ok (.lcmp, 1)) (d : decode cc (pc + 1) = .ok (.ifCond .le off, 3)) (ht : ((pc + 1 : Nat) : Int) + off = (tgt : Int)) (hu : zRL u) (hv : zRL v) (kt : u ≤ v → zG x H a b tgt lv st) (kf : v < u → zG x H a b (pc + 1 + 3) lv st) : zG x H a b pc lv (.long (iL v) :: .long (iL u) :: st) := by
  have e1 := @zcmp_lt u v
  have e2 := @zcmp_gt u v
  have e3 := @zcmp_eq u v
  refine z_lcmp O d0 hu hv (z_if_le tgt O d ht zcmp_R (fun h => kt ?_) (fun h => kf ?_)) <;> omega
theorem z_lif_eq {off : Int} {u v : Int} (tgt : Nat) (O : zOk x own cc nL ret nm F L mc ms) (d0 : decode cc pc = .ok (.lcmp, 1)) (d : decode cc (pc + 1) = .ok (.ifCond .eq off, 3)) (ht : ((pc + 1 : Nat) : Int) + off = (tgt : Int)) (hu : zRL u) (hv : zRL v) (kt : u = v → zG x H a b tgt lv st) (kf : ¬ u = v → zG x H a b (pc + 1 + 3) lv st) : zG x H a b pc lv (.long (iL v) :: .long (iL u) :: st) := by
  have e1 := @zcmp_lt u v
  have e2 := @zcmp_gt u v
  have e3 := @zcmp_eq u v
  refine z_lcmp O d0 hu hv (z_if_eq tgt O d ht zcmp_R (fun h => kt ?_) (fun h => kf ?_)) <;> omega
theorem z_lif_ne {off : Int} {u v : Int} (tgt : Nat) (O : zOk x own cc nL ret nm F L mc ms) (d0 : decode cc pc = .ok (.lcmp, 1)) (d : decode cc (pc + 1) = .ok (.ifCond .ne off, 3)) (ht : ((pc + 1 : Nat) : Int) + off = (tgt : Int)) (hu : zRL u) (hv : zRL v) (kt : ¬ u = v → zG x H a b tgt lv st) (kf : u = v → zG x H a b (pc + 1 + 3) lv st) : zG x H a b pc lv (.long (iL v) :: .long (iL u) :: st) := by
  have e1 := @zcmp_lt u v
  have e2 := @zcmp_gt u v
  have e3 := @zcmp_eq u v
  refine z_lcmp O d0 hu hv (z_if_ne tgt O d ht zcmp_R (fun h => kt ?_) (fun h => kf ?_)) <;> omega
theorem z_tsw {dflt lo hi off : Int} {offs : Array Int} {len : Nat} {z : Int} (i : Nat) (tgt : Nat) (O : zOk x own cc nL ret nm F L mc ms) (d : decode cc pc = .ok (.tableswitch dflt lo hi offs, len)) (hz : zR z) (he : z = lo + i) (hh : lo + i ≤ hi) (ho : offs[i]? = some off) (ht : (pc : Int) + off = (tgt : Int)) (K : zG x H a b tgt lv st) : zG x H a b pc lv (.int (iI z) :: st) := by
  obtain ⟨⟨p, e, R, s, m⟩, ⟨args, below, meth, c⟩, E, mc', ms', post, px⟩ := x
  obtain ⟨hx, hb, hml, hr, hown, hlk, htb, hst, hnm, hR, hm1, hm2⟩ := O
  intro hk hf locs ls hl hlv
  exact lv_tableIn hx hb d (by rw [iI_toInt hz]; omega) (by rw [iI_toInt hz]; omega) (by rw [iI_toInt hz, he, show (lo + (i : Int) - lo).toNat = i by omega]; exact ho) ht (K hk hf locs ls hl hlv)
theorem z_tswO {dflt lo hi : Int} {offs : Array Int} {len : Nat} {z : Int} (tgt : Nat) (O : zOk x own cc nL ret nm F L mc ms) (d : decode cc pc = .ok (.tableswitch dflt lo hi offs, len)) (hz : zR z) (he : z < lo ∨ hi < z) (ht : (pc : Int) + dflt = (tgt : Int)) (K : zG x H a b tgt lv st) : zG x H a b pc lv (.int (iI z) :: st) := by
  obtain ⟨⟨p, e, R, s, m⟩, ⟨args, below, meth, c⟩, E, mc', ms', post, px⟩ := x
  obtain ⟨hx, hb, hml, hr, hown, hlk, htb, hst, hnm, hR, hm1, hm2⟩ := O
  intro hk hf locs ls hl hlv
  exact lv_tableOut hx hb d (by rw [iI_toInt hz]; exact he) ht (K hk hf locs ls hl hlv)
theorem z_lsw {dflt off : Int} {ps : Array (Int × Int)} {len : Nat} {z : Int} (tgt : Nat) (O : zOk x own cc nL ret nm F L mc ms) (d : decode cc pc = .ok (.lookupswitch dflt ps, len)) (hz : zR z) (hp : (ps.toList.zip (ps.toList.drop 1)).all (fun (a, next) => a.1 < next.1) = true) (ho : Op.lookupswitch.offset ps.toList dflt z = off) (ht : (pc : Int) + off = (tgt : Int)) (K : zG x H a b tgt lv st) : zG x H a b pc lv (.int (iI z) :: st) := by
  obtain ⟨⟨p, e, R, s, m⟩, ⟨args, below, meth, c⟩, E, mc', ms', post, px⟩ := x
  obtain ⟨hx, hb, hml, hr, hown, hlk, htb, hst, hnm, hR, hm1, hm2⟩ := O
  intro hk hf locs ls hl hlv
  exact lv_lookup hx hb d hp (by rw [iI_toInt hz]; exact ho) ht (K hk hf locs ls hl hlv)
theorem z_widen {k n : Nat} (h1 : a ≤ k) (h2 : b ≤ n) (K : zG x H k n pc lv st) : zG x H a b pc lv st := by
  obtain ⟨⟨p, e, R, s, m⟩, ⟨args, below, meth, c⟩, E, mc', ms', post, px⟩ := x
  intro hk hf locs ls hl hlv
  exact W.widen h1 h2 (K hk hf locs ls hl hlv)
theorem z_ireturn {v : Int32} (O : zOk x own cc nL ret nm F L mc ms) (d : decode cc pc = .ok (.ireturn, 1)) (hr9 : ret = some .int) (h1 : a ≤ mc) (h2 : b ≤ ms) (K : zPo x (some (.int v)) H) : zG x H a b pc lv [.int v] := by
  obtain ⟨⟨p, e, R, s, m⟩, ⟨args, below, meth, c⟩, E, mc', ms', post, px⟩ := x
  obtain ⟨hx, hb, hml, hr, hown, hlk, htb, hst, hnm, hR, hm1, hm2⟩ := O
  intro hk hf locs ls hl hlv
  subst hm1 hm2
  subst hr9
  refine W.widen h1 h2 (vx_ret ?_)
  exact W.iret hx hb hr (fun t ht hW => by subst ht; exact ⟨⟨_, rfl, K⟩, hf⟩) hl d hlk
theorem z_zreturn {v : Int32} (O : zOk x own cc nL ret nm F L mc ms) (d : decode cc pc = .ok (.ireturn, 1)) (hr9 : ret = some .boolean) (hn : narrow .boolean (.int v) = .int v) (h1 : a ≤ mc) (h2 : b ≤ ms) (K : zPo x (some (.int v)) H) : zG x H a b pc lv [.int v] := by
  obtain ⟨⟨p, e, R, s, m⟩, ⟨args, below, meth, c⟩, E, mc', ms', post, px⟩ := x
  obtain ⟨hx, hb, hml, hr, hown, hlk, htb, hst, hnm, hR, hm1, hm2⟩ := O
  intro hk hf locs ls hl hlv
  subst hm1 hm2
  subst hr9
  refine W.widen h1 h2 (vx_ret ?_)
  exact W.zret (ty := .boolean) hx hb hr hn (fun t ht hW => by subst ht; exact ⟨⟨_, rfl, K⟩, hf⟩) hl d hlk
theorem z_lreturn {v : Int64} (O : zOk x own cc nL ret nm F L mc ms) (d : decode cc pc = .ok (.lreturn, 1)) (hr9 : ret = some .long) (h1 : a ≤ mc) (h2 : b ≤ ms) (K : zPo x (some (.long v)) H) : zG x H a b pc lv [.long v] := by
  obtain ⟨⟨p, e, R, s, m⟩, ⟨args, below, meth, c⟩, E, mc', ms', post, px⟩ := x
  obtain ⟨hx, hb, hml, hr, hown, hlk, htb, hst, hnm, hR, hm1, hm2⟩ := O
  intro hk hf locs ls hl hlv
  subst hm1 hm2
  subst hr9
  refine W.widen h1 h2 (vx_ret ?_)
  exact W.lret hx hb hr (fun t ht hW => by subst ht; exact ⟨⟨_, rfl, K⟩, hf⟩) hl d hlk
theorem z_vreturn  (O : zOk x own cc nL ret nm F L mc ms) (d : decode cc pc = .ok (.return_, 1)) (hr9 : ret = none) (h1 : a ≤ mc) (h2 : b ≤ ms) (K : zPo x none H) : zG x H a b pc lv [] := by
  obtain ⟨⟨p, e, R, s, m⟩, ⟨args, below, meth, c⟩, E, mc', ms', post, px⟩ := x
  obtain ⟨hx, hb, hml, hr, hown, hlk, htb, hst, hnm, hR, hm1, hm2⟩ := O
  intro hk hf locs ls hl hlv
  subst hm1 hm2
  subst hr9
  refine W.widen h1 h2 (vx_ret ?_)
  exact W.vret hx hb hr (fun t ht hW => by subst ht; exact ⟨⟨_, rfl, K⟩, hf⟩) hl d hlk
theorem z_areturn {v : Nat} {rt : FieldType} (O : zOk x own cc nL ret nm F L mc ms) (d : decode cc pc = .ok (.areturn, 1)) (hr9 : ret = some rt) (hrt : (∃ n, rt = .object n) ∨ ∃ t, rt = .array t) (h1 : a ≤ mc) (h2 : b ≤ ms) (K : zPo x (some (.ref v)) H) : zG x H a b pc lv [.ref v] := by
  obtain ⟨⟨p, e, R, s, m⟩, ⟨args, below, meth, c⟩, E, mc', ms', post, px⟩ := x
  obtain ⟨hx, hb, hml, hr, hown, hlk, htb, hst, hnm, hR, hm1, hm2⟩ := O
  intro hk hf locs ls hl hlv
  subst hm1 hm2
  subst hr9
  refine W.widen h1 h2 (vx_ret ?_)
  exact W.aret hx hb hr hrt (Or.inr ⟨_, rfl⟩) (fun t ht hW => by subst ht; exact ⟨⟨_, rfl, K⟩, hf⟩) hl d hlk
theorem z_areturnN {rt : FieldType} (O : zOk x own cc nL ret nm F L mc ms) (d : decode cc pc = .ok (.areturn, 1)) (hr9 : ret = some rt) (hrt : (∃ n, rt = .object n) ∨ ∃ t, rt = .array t) (h1 : a ≤ mc) (h2 : b ≤ ms) (K : zPo x (some .null) H) : zG x H a b pc lv [.null] := by
  obtain ⟨⟨p, e, R, s, m⟩, ⟨args, below, meth, c⟩, E, mc', ms', post, px⟩ := x
  obtain ⟨hx, hb, hml, hr, hown, hlk, htb, hst, hnm, hR, hm1, hm2⟩ := O
  intro hk hf locs ls hl hlv
  subst hm1 hm2
  subst hr9
  refine W.widen h1 h2 (vx_ret ?_)
  exact W.aret hx hb hr hrt (Or.inl rfl) (fun t ht hW => by subst ht; exact ⟨⟨_, rfl, K⟩, hf⟩) hl d hlk
end ZR
end
section
/-! rules of the walk: the heap -/
def zOb (E : zE) (H : Heap) (q ci : Nat) (fs : List Value) : Prop := va_at E.2.1 vwCl (q, .inr (ci, fs)) H ∧ E.2.2.2 ≤ q
def zIA (E : zE) (H : Heap) (q t n : Nat) (g : Int → Int) : Prop := (∃ f : Nat → Int32, va_at E.2.1 vwCl (q, .inl (E.2.2.1 t, n, .inl f)) H ∧ ∀ i : Nat, i < n → f i = iI (g i)) ∧ E.2.2.2 ≤ q
def zRA (E : zE) (H : Heap) (q t n : Nat) (g : Int → Option Nat) : Prop := (∃ f : Nat → Option Nat, va_at E.2.1 vwCl (q, .inl (E.2.2.1 t, n, .inr (.inr (.inr (.inr f))))) H ∧ ∀ i : Nat, i < n → f i = g i) ∧ E.2.2.2 ≤ q
/-- one cell alone has changed -/
def zCh (H H1 : Heap) (q : Nat) : Prop := H1.size = H.size ∧ ∀ r : Nat, r ≠ q → H1[r]? = H[r]?
/-- one cell alone has come -/
def zNew (H H1 : Heap) : Prop := H1.size = H.size + 1 ∧ ∀ r : Nat, r < H.size → H1[r]? = H[r]?
def zU (g : Int → Int) (i v : Int) : Int → Int := fun j => if j = i then v else g j
def zUr (g : Int → Option Nat) (i : Int) (v : Option Nat) : Int → Option Nat := fun j => if j = i then v else g j
theorem zOb.lt {E : zE} {H : Heap} {q ci : Nat} {fs : List Value} (h : zOb E H q ci fs) : q < H.size := h.1.lt
theorem zIA.lt {E : zE} {H : Heap} {q t n : Nat} {g : Int → Int} (h : zIA E H q t n g) : q < H.size := by obtain ⟨⟨f, h1, -⟩, -⟩ := h; exact h1.lt
theorem zRA.lt {E : zE} {H : Heap} {q t n : Nat} {g : Int → Option Nat} (h : zRA E H q t n g) : q < H.size := by obtain ⟨⟨f, h1, -⟩, -⟩ := h; exact h1.lt
theorem zOb.kept {E : zE} {H H1 : Heap} {q ci : Nat} {fs : List Value} (h : zOb E H q ci fs) (e : H1[q]? = H[q]?) : zOb E H1 q ci fs := ⟨h.1.kept e, h.2⟩
theorem zIA.kept {E : zE} {H H1 : Heap} {q t n : Nat} {g : Int → Int} (h : zIA E H q t n g) (e : H1[q]? = H[q]?) : zIA E H1 q t n g := by
  obtain ⟨⟨f, h1, h2⟩, h3⟩ := h
  exact ⟨⟨f, h1.kept e, h2⟩, h3⟩
theorem zRA.kept {E : zE} {H H1 : Heap} {q t n : Nat} {g : Int → Option Nat} (h : zRA E H q t n g) (e : H1[q]? = H[q]?) : zRA E H1 q t n g := by
  obtain ⟨⟨f, h1, h2⟩, h3⟩ := h
  exact ⟨⟨f, h1.kept e, h2⟩, h3⟩
theorem zIA.to {E : zE} {H : Heap} {q t n : Nat} {g g1 : Int → Int} (h : zIA E H q t n g) (e : ∀ i : Int, 0 ≤ i → i < n → g i = g1 i) : zIA E H q t n g1 := by
  obtain ⟨⟨f, h1, h2⟩, h3⟩ := h
  exact ⟨⟨f, h1, fun i hi => by rw [h2 i hi, e i (by omega) (by omega)]⟩, h3⟩
theorem zRA.to {E : zE} {H : Heap} {q t n : Nat} {g g1 : Int → Option Nat} (h : zRA E H q t n g) (e : ∀ i : Int, 0 ≤ i → i < n → g i = g1 i) : zRA E H q t n g1 := by
  obtain ⟨⟨f, h1, h2⟩, h3⟩ := h
  exact ⟨⟨f, h1, fun i hi => by rw [h2 i hi, e i (by omega) (by omega)]⟩, h3⟩
theorem zCh.F {E : zE} {H H1 : Heap} {q : Nat} (h : zCh H H1 q) (hq : E.2.2.2 ≤ q) : zF E H H1 := ⟨Nat.le_of_eq h.1.symm, fun r hr => h.2 r (by omega)⟩
theorem zNew.F {E : zE} {H H1 : Heap} (h : zNew H H1) (hB : E.2.2.2 ≤ H.size) : zF E H H1 := ⟨by rw [h.1]; omega, fun r hr => h.2 r (by omega)⟩
theorem zix {i : Int} {n : Nat} (hR : zR i) (h0 : 0 ≤ i) (h1 : i < n) : vp_in (iI i) n := vp_in_iff.mpr ⟨by rw [iI_toInt hR]; exact h0, by rw [iI_toInt hR]; exact h1⟩
theorem zcl {i : Int} (hR : zR i) : (iI i).toNatClampNeg = i.toNat := by show (iI i).toInt.toNat = _; rw [iI_toInt hR]
/-- a field's link: of class 'ci', its field 'k' -/
def zFL (own : String) (idx ci k : Nat) : Prop := ∃ (C : String) (T : u_T) (N : Nat), vwCl[ci]? = some (C, T, N) ∧ k < N ∧ (∀ w ∈ u_ws C T N, w ∈ lw_tbl) ∧ (Cond.fieldLink own idx (T k).1 (T k).2.1 (T k).2.2.1 ∈ lw_tbl ∨ ∃ host, Cond.fieldLinkNest own idx (T k).1 (T k).2.1 (T k).2.2.1 host ∈ lw_tbl)
/-- a link for a store: the field is final or not, and its type -/
def zFP (own : String) (idx ci k : Nat) (fin : Bool) (ty : FieldType) : Prop := ∃ (C : String) (T : u_T) (N : Nat) (ty0 : Nat → FieldType), vwCl[ci]? = some (C, T, N) ∧ k < N ∧ (∀ w ∈ u_ws C T N, w ∈ lw_tbl) ∧ (Cond.fieldLink own idx (T k).1 (T k).2.1 (T k).2.2.1 ∈ lw_tbl ∨ (fin = false ∧ ∃ host, Cond.fieldLinkNest own idx (T k).1 (T k).2.1 (T k).2.2.1 host ∈ lw_tbl)) ∧
  (∀ k, k < N → parseFieldDescriptor (T k).2.2.1 = some (ty0 k)) ∧ (∀ a, a < N → ∀ b, b < N → a ≠ b → (T a).2.1 ≠ (T b).2.1) ∧ (T k).2.2.2 = fin ∧ (fin = true → (T k).1 = own) ∧ ty0 k = ty
theorem zts_of {C : String} {T : u_T} {N : Nat} (hin : ∀ w ∈ u_ws C T N, w ∈ lw_tbl) {s : State} (hw : zW s) {args : Array Value} : ∀ w ∈ u_ws C T N, w.before args s = true := by
  intro w h
  have hm := hin w h
  obtain ⟨k, -, rfl⟩ := List.mem_map.mp h
  unfold u_lay at hm ⊢
  split
  · rename_i hq
    rw [if_pos hq] at hm
    exact hw.at hm rfl rfl
  · rename_i hq
    rw [if_neg hq] at hm
    exact hw.at hm rfl rfl
section ZH
variable {x : zX} {own : String} {cc : ByteArray} {nL : Nat} {ret : Option FieldType} {nm : String} {F L mc ms : Nat} {H : Heap} {a b pc : Nat} {lv : List (Nat × Value)} {st : List Value} {idx ci k q : Nat} {fs : List Value} {v : Value}
theorem z_getf (Lk : zFL own idx ci k) (O : zOk x own cc nL ret nm F L mc ms) (d : decode cc pc = .ok (.getfield idx, 3)) (ho : zOb (zEn x) H q ci fs) (hv : fs[k]? = some v) (K : zG x H a b (pc + 3) lv (v :: st)) : zG x H a b pc lv (.ref q :: st) := by
  obtain ⟨⟨p, e, R, s, m⟩, ⟨args, below, meth, c⟩, E, mc', ms', post, px⟩ := x
  obtain ⟨hx, hb, hml, hr, hown, hlk, htb, hst, hnm, hR, hm1, hm2⟩ := O
  intro hk hf locs ls hl hlv
  obtain ⟨C, T, N, hc, hkN, hin, hlink⟩ := Lk
  have hP : va_P E.2.1 vwCl [(q, .inr (ci, fs))] H := fun i z hz => by
    rcases i with _ | i
    · cases hz; exact ho.1
    · cases hz
  rcases hlink with hm | ⟨host, hm⟩
  · exact va_get hx hb (zts_of hin hk.2.2.1) (fun _ h => h) hown hk.1 hP 0 rfl hc k hkN (hk.2.2.1.at hm rfl rfl) (fun _ h => h) hv d (K hk hf locs ls hl hlv)
  · exact va_getN hx hb (zts_of hin hk.2.2.1) (fun _ h => h) hown hk.1 hP 0 rfl hc k hkN (hk.2.2.1.at hm rfl rfl) (fun _ h => h) hv d (K hk hf locs ls hl hlv)
theorem z_putf {fin : Bool} {ty : FieldType} (Lk : zFP own idx ci k fin ty) (O : zOk x own cc nL ret nm F L mc ms) (hfn : fin = true → nm = "<init>") (d : decode cc pc = .ok (.putfield idx, 3)) (ho : zOb (zEn x) H q ci fs) (hn : narrow ty v = v) (hfit : fits ty v = true) (hlen : k < fs.length)
    (K : ∀ H1 : Heap, zOb (zEn x) H1 q ci (fs.set k v) → zCh H H1 q → zG x H1 a b (pc + 3) lv st) : zG x H a b pc lv (v :: .ref q :: st) := by
  obtain ⟨⟨p, e, R, s, m⟩, ⟨args, below, meth, c⟩, E, mc', ms', post, px⟩ := x
  obtain ⟨hx, hb, hml, hr, hown, hlk, htb, hst, hnm, hR, hm1, hm2⟩ := O
  intro hk hf locs ls hl hlv
  obtain ⟨C, T, N, ty0, hc, hkN, hin, hlink, hty, hnms, hfin, hdec, hte⟩ := Lk
  obtain ⟨⟨r, h1, cell, q1, q2, q3, q4⟩, hBq⟩ := ho
  have hrr : r = (C, T, N) := Option.some.inj (h1.symm.trans hc)
  subst hrr
  obtain ⟨hS, hfc, kC, hkC, hkind⟩ := hk.1.1 ci _ hc
  have hts : ∀ w ∈ u_ws C T N, w.before args s = true := zts_of hin hk.2.2.1
  have hap := va_apart (own := own) hts (fun _ h => h) ty0 hty hnms hk.1 hc
  obtain ⟨cf, kf, fi, f, hi, hsl⟩ := hS k hkN
  have hlay := hts _ (u_in_lay hkN)
  unfold u_lay at hlay
  have hfacts := (u_facts hfc hkC (u_lays hts (fun _ h => h) hkN) hi).1
  have hd : parseFieldDescriptor (T k).2.2.1 = some ty := by rw [hty k hkN, hte]
  have fin1 : ∀ H' : Heap, H'[q]? = some (cell.setSlot f.slot v) → H'.size = H.size → (∀ r, r ≠ q → H'[r]? = H[r]?) → W p E.1 e R s m args below meth c H' (locs ++ [⟨q, f.slot⟩]) a b (zQ E below args s mc' ms' post px) (F0 m (pc + 3) ls st) := by
    intro H' e1 e2 e3
    rw [hsl] at e1
    refine K H' ⟨⟨_, hc, t_OB.to (V := updV (vp_V fs) k v) ⟨_, e1, q2, q3, t_set q4 hap hkN v⟩ (fun j _ => vp_updV_set hlen v j)⟩, hBq⟩ ⟨e2, e3⟩ (hk.step ((show zCh H H' q from ⟨e2, e3⟩).F hBq)) (hf.tr ((show zCh H H' q from ⟨e2, e3⟩).F hBq)) _ ls (fun z hz => ?_) hlv
    rcases List.mem_append.mp hz with h | h
    · exact hl z h
    · rw [List.mem_singleton.mp h]; exact hBq
  cases fin with
  | false =>
    rw [if_neg (by rw [hfin]; decide)] at hlay
    have h6 := u_store hfc hkC hkind hlay hi hd hn hfit
    rcases hlink with hm | ⟨-, host, hm⟩
    · exact W.putK hx hb (f := f) ⟨hown, hk.2.2.1.at hm rfl rfl, ⟨_, _, _, hi⟩, hfacts⟩ (by rw [q2]; exact h6) q1 q3 (by rw [hsl]; exact k2_hasslot (q4 k hkN)) rfl rfl d fin1
    · exact va_WputK hx hb (f := f) hown (hk.2.2.1.at hm rfl rfl) hi hfacts (by rw [q2]; exact h6) q1 q3 (by rw [hsl]; exact k2_hasslot (q4 k hkN)) rfl rfl d fin1
  | true =>
    rw [if_pos hfin] at hlay
    have hcf : m.cls = cf := by
      obtain ⟨_, _, c', _, _, _, -, -, hf', -, -, -, hown2, -⟩ := Cond.laysFinal_spec hlay
      have e1 : c' = cf := by have := hi.symm.trans hf'; simp at this; exact this.1.symm
      rw [hdec rfl] at hown2
      rw [← e1]; exact Option.some.inj (hown.symm.trans hown2)
    have h6 := u_fits hfc hkC hkind (Or.inr hlay) hi hd hn hfit
    rcases hlink with hm | ⟨hq, -⟩
    · exact W.putFinK hx hb hown (hk.2.2.1.at hm rfl rfl) hi hfacts hcf (by rw [hnm]; exact hfn rfl) (by rw [q2]; exact h6) q1 q3 (by rw [hsl]; exact k2_hasslot (q4 k hkN)) rfl rfl d fin1
    · cases hq
/-- a class that is made: its fields' first values -/
def zCN (own : String) (idx ci N : Nat) (fs : List Value) : Prop := ∃ (C : String) (T : u_T) (ty : Nat → FieldType), vwCl[ci]? = some (C, T, N) ∧ (∀ w ∈ u_ws C T N, w ∈ lw_tbl) ∧ (∀ k, k < N → parseFieldDescriptor (T k).2.2.1 = some (ty k)) ∧ Cond.classLink own idx C ∈ lw_tbl ∧ Cond.instantiable C N ∈ lw_tbl ∧ Cond.initialized C ∈ lw_tbl ∧ ∀ j, j < N → defaultValue (ty j) = vp_V fs j
theorem z_new {N : Nat} (Lk : zCN own idx ci N fs) (O : zOk x own cc nL ret nm F L mc ms) (d : decode cc pc = .ok (.new idx, 3)) (h1 : a + 1 ≤ mc) (h2 : b + N ≤ ms)
    (K : ∀ H1 : Heap, zOb (zEn x) H1 H.size ci fs → zNew H H1 → zG x H1 (a + 1) (b + N) (pc + 3) lv (.ref H.size :: st)) : zG x H a b pc lv st := by
  obtain ⟨⟨p, e, R, s, m⟩, ⟨args, below, meth, c⟩, E, mc', ms', post, px⟩ := x
  obtain ⟨hx, hb, hml, hr, hown, hlk, htb, hst, hnm, hR, hm1, hm2⟩ := O
  intro hk hf locs ls hl hlv
  obtain ⟨C, T, ty, hc, hin, hty, hm1', hm2', hm3', hfs⟩ := Lk
  subst hR
  have hKn := hk.1.1 ci _ hc
  refine W.newcK hx hb hown (hk.2.2.1.at hm1' rfl rfl) (hk.2.2.1.at hm2' rfl rfl) (hk.2.2.1.at hm3' rfl rfl) rfl d h1 h2 hKn.2.1 rfl fun H1 kC hkC e1 z1 o1 => ?_
  have hN : zNew H H1 := ⟨z1, o1⟩
  exact K H1 ⟨⟨_, hc, (u_born ty (zts_of (args := args) hin hk.2.2.1) (fun _ h => h) hKn hkC e1 hty).to hfs⟩, hk.2.1⟩ hN (hk.step (hN.F hk.2.1)) (hf.tr (hN.F hk.2.1)) locs ls hl hlv
end ZH
end
section
/-! rules of the walk: arrays -/
theorem zArr_i {D : va_G} {cl : List vw_C} {q : Nat} {c : ClassId} {n : Nat} {f : Nat → Int32} {H : Heap} (h : va_at D cl (q, .inl (c, n, .inl f)) H) : va_P D cl [(q, .inl (c, n, .inl f))] H := fun i z hz => by
  rcases i with _ | i
  · cases hz; exact h
  · cases hz
theorem zArr_q {D : va_G} {cl : List vw_C} {q : Nat} {c : ClassId} {n : Nat} {f : Nat → Option Nat} {H : Heap} (h : va_at D cl (q, .inl (c, n, .inr (.inr (.inr (.inr f))))) H) : va_P D cl [(q, .inl (c, n, .inr (.inr (.inr (.inr f)))))] H := fun i z hz => by
  rcases i with _ | i
  · cases hz; exact h
  · cases hz
theorem zArrSz {s : State} {cA : ClassId} {ty : FieldType} (h : ArrOfT s cA ty) (n : Nat) (z : Nat → Value) : s.isArrayOf (arrV cA n z) ty := h n z
theorem znat {n : Nat} {i : Int} (h0 : 0 ≤ i) (h1 : i < n) : i.toNat < n := by omega
theorem zto {i : Int} (h0 : 0 ≤ i) : ((i.toNat : Nat) : Int) = i := Int.toNat_of_nonneg h0
section ZA
variable {x : zX} {own : String} {cc : ByteArray} {nL : Nat} {ret : Option FieldType} {nm : String} {F L mc ms : Nat} {H : Heap} {a b pc : Nat} {lv : List (Nat × Value)} {st : List Value} {idx q n t : Nat} {g : Int → Int} {gr : Int → Option Nat} {i : Int}
theorem z_iald (O : zOk x own cc nL ret nm F L mc ms) (d : decode cc pc = .ok (.iaload, 1)) (ho : zIA (zEn x) H q 0 n g) (hi : zR i) (h0 : 0 ≤ i) (h1 : i < n) (K : zG x H a b (pc + 1) lv (.int (iI (g i)) :: st)) : zG x H a b pc lv (.int (iI i) :: .ref q :: st) := by
  obtain ⟨⟨p, e, R, s, m⟩, ⟨args, below, meth, c⟩, E, mc', ms', post, px⟩ := x
  obtain ⟨hx, hb, hml, hr, hown, hlk, htb, hst, hnm, hR, hm1, hm2⟩ := O
  intro hk hf locs ls hl hlv
  obtain ⟨⟨f, hat, hfg⟩, hB⟩ := ho
  refine va_iald hx hb hk.1 (zArr_i hat) 0 0 rfl rfl (zix hi h0 h1) d ?_
  rw [zcl hi, hfg _ (znat h0 h1), zto h0]
  exact K hk hf locs ls hl hlv
theorem z_zald (O : zOk x own cc nL ret nm F L mc ms) (d : decode cc pc = .ok (.baload, 1)) (ho : zIA (zEn x) H q 1 n g) (hi : zR i) (h0 : 0 ≤ i) (h1 : i < n) (K : zG x H a b (pc + 1) lv (.int (iI (g i)) :: st)) : zG x H a b pc lv (.int (iI i) :: .ref q :: st) := by
  obtain ⟨⟨p, e, R, s, m⟩, ⟨args, below, meth, c⟩, E, mc', ms', post, px⟩ := x
  obtain ⟨hx, hb, hml, hr, hown, hlk, htb, hst, hnm, hR, hm1, hm2⟩ := O
  intro hk hf locs ls hl hlv
  obtain ⟨⟨f, hat, hfg⟩, hB⟩ := ho
  refine va_zald hx hb hk.1 (zArr_i hat) 0 1 rfl rfl (zix hi h0 h1) d ?_
  rw [zcl hi, hfg _ (znat h0 h1), zto h0]
  exact K hk hf locs ls hl hlv
theorem z_aald {T : Nat} (hT : t = 2 ∨ t = 3 ∨ t = 4) (O : zOk x own cc nL ret nm F L mc ms) (d : decode cc pc = .ok (.aaload, 1)) (ho : zRA (zEn x) H q t n gr) (hi : zR i) (h0 : 0 ≤ i) (h1 : i < n) (K : zG x H a b (pc + 1) lv (va_rf (gr i) :: st)) : zG x H a b pc lv (.int (iI i) :: .ref q :: st) := by
  obtain ⟨⟨p, e, R, s, m⟩, ⟨args, below, meth, c⟩, E, mc', ms', post, px⟩ := x
  obtain ⟨hx, hb, hml, hr, hown, hlk, htb, hst, hnm, hR, hm1, hm2⟩ := O
  intro hk hf locs ls hl hlv
  obtain ⟨⟨f, hat, hfg⟩, hB⟩ := ho
  rcases hT with rfl | rfl | rfl
  all_goals
    first
      | refine va_aldq hx hb hk.1 (zArr_q hat) 0 2 rfl rfl (zix hi h0 h1) d ?_
      | refine va_aldq hx hb hk.1 (zArr_q hat) 0 3 rfl rfl (zix hi h0 h1) d ?_
      | refine va_aldq hx hb hk.1 (zArr_q hat) 0 4 rfl rfl (zix hi h0 h1) d ?_
    rw [zcl hi, hfg _ (znat h0 h1), zto h0]
    exact K hk hf locs ls hl hlv
theorem z_alen (hT : t = 0 ∨ t = 1) (O : zOk x own cc nL ret nm F L mc ms) (d : decode cc pc = .ok (.arraylength, 1)) (ho : zIA (zEn x) H q t n g) (K : zG x H a b (pc + 1) lv (.int (iI n) :: st)) : zG x H a b pc lv (.ref q :: st) := by
  obtain ⟨⟨p, e, R, s, m⟩, ⟨args, below, meth, c⟩, E, mc', ms', post, px⟩ := x
  obtain ⟨hx, hb, hml, hr, hown, hlk, htb, hst, hnm, hR, hm1, hm2⟩ := O
  intro hk hf locs ls hl hlv
  obtain ⟨⟨f, hat, hfg⟩, hB⟩ := ho
  rcases hT with rfl | rfl
  · exact va_alen hx hb hk.1 (zArr_i hat) 0 0 rfl rfl (iI_nat n) d (K hk hf locs ls hl hlv)
  · exact va_alen hx hb hk.1 (zArr_i hat) 0 1 rfl rfl (iI_nat n) d (K hk hf locs ls hl hlv)
theorem z_alenR (hT : t = 2 ∨ t = 3 ∨ t = 4) (O : zOk x own cc nL ret nm F L mc ms) (d : decode cc pc = .ok (.arraylength, 1)) (ho : zRA (zEn x) H q t n gr) (K : zG x H a b (pc + 1) lv (.int (iI n) :: st)) : zG x H a b pc lv (.ref q :: st) := by
  obtain ⟨⟨p, e, R, s, m⟩, ⟨args, below, meth, c⟩, E, mc', ms', post, px⟩ := x
  obtain ⟨hx, hb, hml, hr, hown, hlk, htb, hst, hnm, hR, hm1, hm2⟩ := O
  intro hk hf locs ls hl hlv
  obtain ⟨⟨f, hat, hfg⟩, hB⟩ := ho
  rcases hT with rfl | rfl | rfl
  · exact va_alen hx hb hk.1 (zArr_q hat) 0 2 rfl rfl (iI_nat n) d (K hk hf locs ls hl hlv)
  · exact va_alen hx hb hk.1 (zArr_q hat) 0 3 rfl rfl (iI_nat n) d (K hk hf locs ls hl hlv)
  · exact va_alen hx hb hk.1 (zArr_q hat) 0 4 rfl rfl (iI_nat n) d (K hk hf locs ls hl hlv)
theorem z_iast {v : Int} (O : zOk x own cc nL ret nm F L mc ms) (d : decode cc pc = .ok (.iastore, 1)) (ho : zIA (zEn x) H q 0 n g) (hi : zR i) (h0 : 0 ≤ i) (h1 : i < n) (K : ∀ H1 : Heap, zIA (zEn x) H1 q 0 n (zU g i v) → zCh H H1 q → zG x H1 a b (pc + 1) lv st) : zG x H a b pc lv (.int (iI v) :: .int (iI i) :: .ref q :: st) := by
  obtain ⟨⟨p, e, R, s, m⟩, ⟨args, below, meth, c⟩, E, mc', ms', post, px⟩ := x
  obtain ⟨hx, hb, hml, hr, hown, hlk, htb, hst, hnm, hR, hm1, hm2⟩ := O
  intro hk hf locs ls hl hlv
  obtain ⟨⟨f, hat, hfg⟩, hB⟩ := ho
  refine W.iast hx hb hat ((hk.1.2 0 _ rfl).1 n (fun j => .int (f j))) (fun q => by cases q) (by show ¬ (_ ∨ (arrV _ _ _).slots.size ≤ _); rw [arrV_size]; exact zix hi h0 h1) rfl rfl d fun H1 e1 z1 o1 => ?_
  have hC : zCh H H1 q := ⟨z1, o1⟩
  rw [zcl hi] at e1
  refine K H1 ⟨⟨upd f i.toNat (iI v), ?_, ?_⟩, hB⟩ hC (hk.step (hC.F hB)) (hf.tr (hC.F hB)) _ ls (fun z hz => ?_) hlv
  · show H1[q]? = some (vp_cell _ _)
    rw [e1, vp_cell_i, vp_cell_i, arrV_store]
    congr 2
    funext j
    by_cases hj : j = i.toNat
    · subst hj; simp [updV, upd]
    · simp [updV, upd, hj]
  · intro j hj
    unfold upd zU
    by_cases hj2 : j = i.toNat
    · rw [if_pos hj2, if_pos (by omega)]
    · rw [if_neg hj2, if_neg (by omega)]; exact hfg j hj
  · rcases List.mem_append.mp hz with h | h
    · exact hl z h
    · rw [List.mem_singleton.mp h]; exact hB
theorem z_zast {v : Int} (O : zOk x own cc nL ret nm F L mc ms) (hv : v = 0 ∨ v = 1) (d : decode cc pc = .ok (.bastore, 1)) (ho : zIA (zEn x) H q 1 n g) (hi : zR i) (h0 : 0 ≤ i) (h1 : i < n) (K : ∀ H1 : Heap, zIA (zEn x) H1 q 1 n (zU g i v) → zCh H H1 q → zG x H1 a b (pc + 1) lv st) : zG x H a b pc lv (.int (iI v) :: .int (iI i) :: .ref q :: st) := by
  obtain ⟨⟨p, e, R, s, m⟩, ⟨args, below, meth, c⟩, E, mc', ms', post, px⟩ := x
  obtain ⟨hx, hb, hml, hr, hown, hlk, htb, hst, hnm, hR, hm1, hm2⟩ := O
  intro hk hf locs ls hl hlv
  obtain ⟨⟨f, hat, hfg⟩, hB⟩ := ho
  have hnv : vp_nar .boolean (iI v) = iI v := by rcases hv with rfl | rfl <;> decide +kernel
  refine W.zast hx hb hat ((hk.1.2 1 _ rfl).1 n (fun j => .int (f j))) (fun q => by cases q) (by show ¬ (_ ∨ (arrV _ _ _).slots.size ≤ _); rw [arrV_size]; exact zix hi h0 h1) rfl rfl d fun H1 e1 z1 o1 => ?_
  have hC : zCh H H1 q := ⟨z1, o1⟩
  rw [zcl hi] at e1
  refine K H1 ⟨⟨upd f i.toNat (iI v), ?_, ?_⟩, hB⟩ hC (hk.step (hC.F hB)) (hf.tr (hC.F hB)) _ ls (fun z hz => ?_) hlv
  · show H1[q]? = some (vp_cell _ _)
    rw [e1, vp_cell_i, vp_cell_i, arrV_store]
    congr 2
    funext j
    by_cases hj : j = i.toNat
    · subst hj
      simp only [updV, upd, if_true]
      rcases hv with rfl | rfl <;> rfl
    · simp [updV, upd, hj]
  · intro j hj
    unfold upd zU
    by_cases hj2 : j = i.toNat
    · rw [if_pos hj2, if_pos (by omega)]
    · rw [if_neg hj2, if_neg (by omega)]; exact hfg j hj
  · rcases List.mem_append.mp hz with h | h
    · exact hl z h
    · rw [List.mem_singleton.mp h]; exact hB
end ZA
end
section
/-! rules of the walk: arrays made, copied; Math -/
theorem zW.arr {s : State} (h : zW s) {ty : FieldType} (hm : Cond.arrayClass ty ∈ lw_tbl) {args : Array Value} : (Cond.arrayClass ty).before args s = true := word_at (State.WarmedH.refl s) (Or.inr ⟨ty, rfl⟩) (h _ hm rfl)
section ZA2
variable {x : zX} {own : String} {cc : ByteArray} {nL : Nat} {ret : Option FieldType} {nm : String} {F L mc ms : Nat} {H : Heap} {a b pc : Nat} {lv : List (Nat × Value)} {st : List Value} {idx q n t : Nat} {g : Int → Int} {gr : Int → Option Nat} {i : Int}
/-- an object array's kind and its objects' class -/
def zTC (t ci : Nat) : Prop := (t = 2 ∧ ci = 2) ∨ (t = 3 ∧ ci = 4) ∨ (t = 4 ∧ ci = 3)
theorem zTC.at {t ci : Nat} (h : zTC t ci) (ca : Nat → ClassId) : ∃ (t0 : Nat) (r : vw_C), (zTys ca)[t0]? = some (ca t, .object r.1) ∧ vwCl[ci]? = some r := by
  rcases h with ⟨rfl, rfl⟩ | ⟨rfl, rfl⟩ | ⟨rfl, rfl⟩
  · exact ⟨2, (RX2, TX2, 7), rfl, rfl⟩
  · exact ⟨3, (RX4, TX4, 9), rfl, rfl⟩
  · exact ⟨4, (RX3, TX3, 5), rfl, rfl⟩
theorem z_aast {ci v : Nat} {fs : List Value} (hT : zTC t ci) (O : zOk x own cc nL ret nm F L mc ms) (d : decode cc pc = .ok (.aastore, 1)) (ho : zRA (zEn x) H q t n gr) (hv : zOb (zEn x) H v ci fs) (hi : zR i) (h0 : 0 ≤ i) (h1 : i < n) (K : ∀ H1 : Heap, zRA (zEn x) H1 q t n (zUr gr i (some v)) → zCh H H1 q → zG x H1 a b (pc + 1) lv st) : zG x H a b pc lv (.ref v :: .int (iI i) :: .ref q :: st) := by
  obtain ⟨⟨p, e, R, s, m⟩, ⟨args, below, meth, c⟩, E, mc', ms', post, px⟩ := x
  obtain ⟨hx, hb, hml, hr, hown, hlk, htb, hst, hnm, hR, hm1, hm2⟩ := O
  intro hk hf locs ls hl hlv
  obtain ⟨⟨f, hat, hfg⟩, hB⟩ := ho
  obtain ⟨t0, r, ht0, hr0⟩ := hT.at E.2.2.1
  obtain ⟨⟨r', hr', cellV, g1, g2, g3, -⟩, -⟩ := hv
  have hcls := (hk.1.1 ci r hr0).2
  obtain ⟨kA, comp, k1, k2, k3, -⟩ := (hk.1.2 t0 _ ht0).2
  have hcomp : comp = E.2.1.1 ci := Option.some.inj (k3.symm.trans hcls.1)
  subst hcomp
  obtain ⟨kC, hkC, -⟩ := hcls.2
  refine W.aast hx hb hat (fun q h => by cases h) (fun h => by cases h) k1 k2 rfl hkC ⟨fun hh => zix hi h0 h1 (Or.inl hh), by show _ < (arrV _ _ _).slots.size; rw [arrV_size, zcl hi]; exact znat h0 h1⟩ g1 (fun q h => by rw [g3] at h; cases h) (by rw [g2]; exact hkC) (by rw [g2]; exact va_assign hcls) rfl rfl d fun H1 e1 z1 o1 => ?_
  have hC : zCh H H1 q := ⟨z1, o1⟩
  rw [zcl hi] at e1
  refine K H1 ⟨⟨va_up f i.toNat (some v), ?_, ?_⟩, hB⟩ hC (hk.step (hC.F hB)) (hf.tr (hC.F hB)) _ ls (fun z hz => ?_) hlv
  · show H1[q]? = some (vp_cell _ _)
    rw [e1, vp_cell_q, vp_cell_q, arrV_store]
    congr 2
    funext j
    by_cases hj : j = i.toNat
    · subst hj; simp [updV, va_up, va_rf]
    · simp [updV, va_up, hj]
  · intro j hj
    unfold va_up zUr
    by_cases hj2 : j = i.toNat
    · rw [if_pos hj2, if_pos (by omega)]
    · rw [if_neg hj2, if_neg (by omega)]; exact hfg j hj
  · rcases List.mem_append.mp hz with h | h
    · exact hl z h
    · rw [List.mem_singleton.mp h]; exact hB
theorem zPush {H : Heap} {c : Cell} : zNew H (H.push c) := ⟨Array.size_push _, fun r hr => by rw [Array.getElem?_push, if_neg (Nat.ne_of_lt hr)]⟩
theorem z_newi (O : zOk x own cc nL ret nm F L mc ms) (d : decode cc pc = .ok (.newarray .int, 2)) (hi : zR i) (h0 : 0 ≤ i) (hn : i = n) (hsm : n ≤ 100000000) (h1 : a + 1 ≤ mc) (h2 : b + n ≤ ms)
    (K : ∀ H1 : Heap, zIA (zEn x) H1 H.size 0 n (fun _ => 0) → zNew H H1 → zG x H1 (a + 1) (b + n) (pc + 2) lv (.ref H.size :: st)) : zG x H a b pc lv (.int (iI i) :: st) := by
  obtain ⟨⟨p, e, R, s, m⟩, ⟨args, below, meth, c⟩, E, mc', ms', post, px⟩ := x
  obtain ⟨hx, hb, hml, hr, hown, hlk, htb, hst, hnm, hR, hm1, hm2⟩ := O
  intro hk hf locs ls hl hlv
  subst hR
  have hN : (iI i).toNatClampNeg = n := by rw [zcl hi]; omega
  refine W.newa hx hb (atype := .int) (hk.2.2.1.arr (ty := .int) (by decide +kernel)) rfl d rfl (fun h => by rw [iI_0, iI_lt hi zR0] at h; omega) (by rw [hN]; show n * 4 ≤ _; omega) h1 (by rw [hN]; exact h2) fun cA kA comp f1 f2 f3 => ?_
  have e1 : cA = E.2.2.1 0 := Option.some.inj (f1.symm.trans (hk.1.2 0 _ rfl).2)
  subst e1
  rw [hN]
  refine K _ ⟨⟨fun _ => 0, ?_, fun _ _ => iI_0⟩, hk.2.1⟩ zPush (hk.step (zPush.F hk.2.1)) (hf.tr (zPush.F hk.2.1)) locs ls hl hlv
  show (H.push _)[H.size]? = some (vp_cell _ _)
  rw [Array.getElem?_push_size, vp_cell_i, arrV_new]
  rfl
theorem z_newz (O : zOk x own cc nL ret nm F L mc ms) (d : decode cc pc = .ok (.newarray .boolean, 2)) (hi : zR i) (h0 : 0 ≤ i) (hn : i = n) (hsm : n ≤ 100000000) (h1 : a + 1 ≤ mc) (h2 : b + n ≤ ms)
    (K : ∀ H1 : Heap, zIA (zEn x) H1 H.size 1 n (fun _ => 0) → zNew H H1 → zG x H1 (a + 1) (b + n) (pc + 2) lv (.ref H.size :: st)) : zG x H a b pc lv (.int (iI i) :: st) := by
  obtain ⟨⟨p, e, R, s, m⟩, ⟨args, below, meth, c⟩, E, mc', ms', post, px⟩ := x
  obtain ⟨hx, hb, hml, hr, hown, hlk, htb, hst, hnm, hR, hm1, hm2⟩ := O
  intro hk hf locs ls hl hlv
  subst hR
  have hN : (iI i).toNatClampNeg = n := by rw [zcl hi]; omega
  refine W.newa hx hb (atype := .boolean) (hk.2.2.1.arr (ty := .boolean) (by decide +kernel)) rfl d rfl (fun h => by rw [iI_0, iI_lt hi zR0] at h; omega) (by rw [hN]; show n * 1 ≤ _; omega) h1 (by rw [hN]; exact h2) fun cA kA comp f1 f2 f3 => ?_
  have e1 : cA = E.2.2.1 1 := Option.some.inj (f1.symm.trans (hk.1.2 1 _ rfl).2)
  subst e1
  rw [hN]
  refine K _ ⟨⟨fun _ => 0, ?_, fun _ _ => iI_0⟩, hk.2.1⟩ zPush (hk.step (zPush.F hk.2.1)) (hf.tr (zPush.F hk.2.1)) locs ls hl hlv
  show (H.push _)[H.size]? = some (vp_cell _ _)
  rw [Array.getElem?_push_size, vp_cell_i, arrV_new]
  rfl
theorem z_newr {ci : Nat} {C : String} (hT : zTC t ci) (hC : ∃ q, vwCl[ci]? = some q ∧ q.1 = C) (hm9 : Cond.classLink own idx C ∈ lw_tbl) (O : zOk x own cc nL ret nm F L mc ms) (d : decode cc pc = .ok (.anewarray idx, 3)) (hi : zR i) (h0 : 0 ≤ i) (hn : i = n) (hsm : n ≤ 100000000) (h1 : a + 1 ≤ mc) (h2 : b + n ≤ ms) (hov : Cond.arrayOver (.object C) ∈ lw_tbl)
    (K : ∀ H1 : Heap, zRA (zEn x) H1 H.size t n (fun _ => none) → zNew H H1 → zG x H1 (a + 1) (b + n) (pc + 3) lv (.ref H.size :: st)) : zG x H a b pc lv (.int (iI i) :: st) := by
  obtain ⟨⟨p, e, R, s, m⟩, ⟨args, below, meth, c⟩, E, mc', ms', post, px⟩ := x
  obtain ⟨hx, hb, hml, hr, hown, hlk, htb, hst, hnm, hR, hm1, hm2⟩ := O
  intro hk hf locs ls hl hlv
  subst hR
  have hN : (iI i).toNatClampNeg = n := by rw [zcl hi]; omega
  refine W.anew hx hb hown (hk.2.2.1.at hm9 rfl rfl) (va_AO.use (va_AO.of (hk.2.2.1 _ hov rfl))) rfl d rfl (fun h => by rw [iI_0, iI_lt hi zR0] at h; omega) (by rw [hN]; omega) h1 (by rw [hN]; exact h2) fun cA kA comp f1 f2 f3 f4 => ?_
  have e1 : cA = E.2.2.1 t := by
    obtain ⟨t0, r, ht0, hr0⟩ := hT.at E.2.2.1
    obtain ⟨q9, hq9, hC9⟩ := hC
    have hr9 : r.1 = C := by rw [← hC9]; exact congrArg (·.1) (Option.some.inj (hr0.symm.trans hq9))
    obtain ⟨kA9, comp9, k1, k2, k3, k4⟩ := (hk.1.2 t0 _ ht0).2
    rw [hr9] at k4
    exact Option.some.inj (f1.symm.trans k4)
  subst e1
  rw [hN]
  refine K _ ⟨⟨fun _ => none, ?_, fun _ _ => rfl⟩, hk.2.1⟩ zPush (hk.step (zPush.F hk.2.1)) (hf.tr (zPush.F hk.2.1)) locs ls hl hlv
  show (H.push _)[H.size]? = some (vp_cell _ _)
  rw [Array.getElem?_push_size, vp_cell_q, arrV_new]
  rfl
end ZA2
end
section
/-! rules of the walk: calls -/
theorem zGoodIn {y : MethodName} {cc : ByteArray} {nL : Nat} {ret : Option FieldType} : GoodIn [Cond.code y cc nL ret] [Cond.code y cc nL ret] := fun w h => ⟨h, by rw [List.mem_singleton.mp h]; exact Or.inl rfl⟩
/-- what holds of a callee, by its link: virtual, static, a constructor; of a nest mate -/
def zMc (y : MethodName) (cc : ByteArray) (nL : Nat) (ret : Option FieldType) (n : Nat) : Prop := Cond.initialized y.cls ∈ lw_tbl ∧ Cond.code y cc nL ret ∈ lw_tbl ∧ y.cls ≠ "java/lang/invoke/MethodHandle" ∧ y.cls ≠ "java/lang/invoke/VarHandle" ∧ (parseMethodDescriptor y.desc).map (fun d => d.parameters.length) = some n
def zMV (own : String) (idx : Nat) (y : MethodName) (cc : ByteArray) (nL : Nat) (ret : Option FieldType) (n ci : Nat) : Prop := zMc y cc nL ret n ∧ Cond.methodLink own idx y ∈ lw_tbl ∧ Cond.instanceMethod y ∈ lw_tbl ∧ Cond.selects y.cls y y ∈ lw_tbl ∧ ∃ q, vwCl[ci]? = some q ∧ q.1 = y.cls
def zMS (own : String) (idx : Nat) (y : MethodName) (cc : ByteArray) (nL : Nat) (ret : Option FieldType) (n : Nat) : Prop := zMc y cc nL ret n ∧ (Cond.methodLink own idx y ∈ lw_tbl ∨ ∃ host, Cond.methodLinkNest own idx y host ∈ lw_tbl) ∧ Cond.static y ∈ lw_tbl
def zMI (own : String) (idx : Nat) (y : MethodName) (cc : ByteArray) (nL : Nat) (n : Nat) : Prop := zMc y cc nL none n ∧ (Cond.methodLink own idx y ∈ lw_tbl ∨ ∃ host, Cond.methodLinkNest own idx y host ∈ lw_tbl) ∧ Cond.instanceMethod y ∈ lw_tbl ∧ y.name = "<init>"
section ZC
variable {x : zX} {own : String} {cc : ByteArray} {nL : Nat} {ret : Option FieldType} {nm : String} {F L mc ms : Nat} {H : Heap} {a b pc : Nat} {lv : List (Nat × Value)} {rest : List Value} {idx : Nat}
variable {y : MethodName} {cc2 : ByteArray} {nL2 : Nat} {ret2 : Option FieldType} {n F2 L2 mc2 ms2 : Nat} {post : Option Value → Heap → Prop} {px : String → Heap → Prop} {As : List Value} {q : Nat}
theorem zPreS {E : zE} {s : State} {av : List Value} (hk : zKn E s H) : PreS s H (fun a U => a = av.toArray ∧ U.heap = H ∧ zKn E U H) av :=
  ⟨fun a U g mk h => ⟨h.1, h.2.1, zKn.same (s := U) (U := U.calling g mk a) rfl h.2.2⟩, fun U hU hW => ⟨rfl, hU, hk.warm hW⟩⟩
theorem z_go {p : Program} {e : Env} {R : Room} {s : State} {m : MethodId} {args : Array Value} {below : List Frame} {meth : Method} {c : Code} {E : zE} {mc' ms' : Nat} {post' : Option Value → Heap → Prop} {px' : String → Heap → Prop} {locs : List Loc} {ls : Array Slot} {st0 : List Value}
    (hown : s.vm.findClass own = some m.cls) (hlk : meth.locks = false) (htb : ∀ z ∈ c.exceptionTable.toList, False) (hk : zKn E s H) (hf : zF E s.heap H) (hl : ∀ z ∈ locs, E.2.2.2 ≤ z.base) (hlv : lv_has ls c.maxLocals lv)
    (hr : vx_Run p E.1 e R s m args below meth c H locs a b mc2 ms2 (F0 m pc ls st0) rest (fun st oc t => (∃ v, oc = .returned v ∧ post v t.heap) ∧ zF E st.heap t.heap) (fun X st t => px X t.heap ∧ zF E st.heap t.heap) (fun q => E.2.2.2 ≤ q))
    (hmc : a + mc2 ≤ mc') (hms : b + ms2 ≤ ms') (hpx : ∀ X H1, px X H1 → px' X H1)
    (K : ∀ (v : Option Value) (H1 : Heap), post v H1 → zF E H H1 → zG ((p, e, R, s, m), (args, below, meth, c), E, (mc', ms', post', px')) H1 (a + mc2) (b + ms2) (pc + 3) lv (v.toList ++ rest)) :
    W p E.1 e R s m args below meth c H locs a b (zQ E below args s mc' ms' post' px') (F0 m pc ls st0) := by
  intro T hT X
  rcases hr T hT X with ⟨v, st₀, t, T', L, h0, X', hL, e1, e2, ⟨⟨v', hv, hp⟩, hF⟩, st⟩ | ⟨q, st₀, t, T', L, X9, ce, h0, X', hL, e1, e2, ⟨hp, hF⟩, hce, hcv, hcl, st⟩
  · cases hv
    rw [h0] at hF
    obtain ⟨t2, a1, b1⟩ := K v t.heap hp hF (hk.step hF) (hf.tr hF) (locs ++ L) ls (fun z hz => (List.mem_append.mp hz).elim (hl z) (hL z)) hlv T' e1 X'
    exact ⟨t2, st t2 a1, b1⟩
  · rw [h0] at hF
    have hw : vx_W p E.1 e R s m args below meth c t.heap (locs ++ L) (a + mc2) (b + ms2) (zQ E below args s mc' ms' post' px') (F0 m pc ls rest) q :=
      vx_outP (own := own) hown hlk (fun z hz => (htb z hz).elim) hce hcv hcl (fun t9 ht9 _ => ⟨by rw [ht9]; exact hpx _ _ hp, by rw [ht9]; exact hf.tr hF⟩) (fun z hz => (List.mem_append.mp hz).elim (hl z) (hL z)) hmc hms
    obtain ⟨t2, a1, b1⟩ := hw T' e1 X'
    exact ⟨t2, st.trans a1, b1⟩
theorem z_recv {E : zE} {s : State} {ci : Nat} {fs : List Value} {C : String} (hk : zKn E s H) (ho : zOb E H q ci fs) (hC : ∃ q, vwCl[ci]? = some q ∧ q.1 = C) : ∃ cellB : Cell, H[q]? = some cellB ∧ cellB.vm.isStatics = false ∧ s.vm.findClass C = some cellB.cls := by
  obtain ⟨r, hr, rfl⟩ := hC
  exact va_recv (ws := [(q, .inr (ci, fs))]) hk.1 (fun i z hz => by
    rcases i with _ | i
    · cases hz; exact ho.1
    · cases hz) (q0 := 0) hr rfl
theorem z_callB {s : State} {args : Array Value} {R : Room} (hw : zW s) (hm : zMc y cc2 nL2 ret2 n) (hlink : Cond.methodLink own idx y ∈ lw_tbl) (hR : F2 + 1 ≤ R.frames ∧ 8 + (nL2 + 11) + L2 ≤ R.locals) : CallB R s args own idx y cc2 nL2 ret2 [.code y cc2 nL2 ret2] { frames := F2, cells := mc2, slots := ms2, locals := L2 } mc2 ms2 n := by
  obtain ⟨h1, h2, h3, h4, h5⟩ := hm
  exact callB_of n (Ts := [.code y cc2 nL2 ret2]) (fun w h => by rw [List.mem_singleton.mp h]; exact hw.at h2 rfl rfl) zGoodIn rfl rfl rfl (hw.at h1 rfl rfl) (hw.at hlink rfl rfl) ⟨h3, h4, h5⟩ hR
theorem z_callN {s : State} {args : Array Value} {R : Room} {host : String} (hw : zW s) (hm : zMc y cc2 nL2 ret2 n) (hlink : Cond.methodLinkNest own idx y host ∈ lw_tbl) (hR : F2 + 1 ≤ R.frames ∧ 8 + (nL2 + 11) + L2 ≤ R.locals) : va_CN R s args own idx y host cc2 nL2 ret2 [.code y cc2 nL2 ret2] { frames := F2, cells := mc2, slots := ms2, locals := L2 } mc2 ms2 n := by
  obtain ⟨h1, h2, h3, h4, h5⟩ := hm
  exact va_cnB n (Ts := [.code y cc2 nL2 ret2]) (fun w h => by rw [List.mem_singleton.mp h]; exact hw.at h2 rfl rfl) zGoodIn rfl rfl rfl (hw _ hlink rfl) (hw.at h1 rfl rfl) ⟨h3, h4, h5⟩ hR
theorem z_invV {ci : Nat} {fs : List Value} (Lk : zMV own idx y cc2 nL2 ret2 n ci) (O : zOk x own cc nL ret nm F L mc ms) (d : decode cc pc = .ok (.invokevirtual idx, 3)) (C : zC (zEn x) y cc2 nL2 ret2 F2 L2 (.ref q :: As) H mc2 ms2 post px) (hn : As.length = n) (ho : zOb (zEn x) H q ci fs) (hF : F2 + 1 ≤ F) (hL : 8 + (nL2 + 11) + L2 ≤ L) (hmc : a + mc2 ≤ mc) (hms : b + ms2 ≤ ms)
    (hW : (rest.map fun v => v.category).sum ≤ 8) (hpx : ∀ X H1, px X H1 → zPx x X H1) (K : ∀ (v : Option Value) (H1 : Heap), post v H1 → zF (zEn x) H H1 → zG x H1 (a + mc2) (b + ms2) (pc + 3) lv (v.toList ++ rest)) : zG x H a b pc lv (As.reverse ++ .ref q :: rest) := by
  obtain ⟨⟨p, e, R, s, m⟩, ⟨args, below, meth, c⟩, E, mc', ms', post', px'⟩ := x
  obtain ⟨hx, hb, hml, hr, hown, hlk, htb, hst, hnm, hR, hm1, hm2⟩ := O
  intro hk hf locs ls hl hlv
  subst hR
  subst hm1 hm2
  obtain ⟨hmc9, hl9, hi9, hs9, hC9⟩ := Lk
  have hw := hk.2.2.1
  refine z_go hown hlk htb hk hf hl hlv ?_ hmc hms hpx K
  exact vx_runV (Ts := []) (As := As) (b := q) (rest := rest) (g := F0 m pc ls (As.reverse ++ .ref q :: rest)) ⟨hx, hb, hml, hown, fun w h => nomatch h⟩ C ⟨z_callB hw hmc9 hl9 ⟨hF, hL⟩, hw.at hi9 rfl rfl, hw.at hs9 rfl rfl⟩ ⟨(zPreS hk).1, z_recv hk ho hC9, (zPreS hk).2⟩ rfl hn (by rw [← hml]; exact hlv.1) rfl (lv_room hW) d ⟨hmc, hms⟩
theorem z_invS (Lk : zMS own idx y cc2 nL2 ret2 n) (O : zOk x own cc nL ret nm F L mc ms) (d : decode cc pc = .ok (.invokestatic idx, 3)) (C : zC (zEn x) y cc2 nL2 ret2 F2 L2 As H mc2 ms2 post px) (hn : As.length = n) (hF : F2 + 1 ≤ F) (hL : 8 + (nL2 + 11) + L2 ≤ L) (hmc : a + mc2 ≤ mc) (hms : b + ms2 ≤ ms)
    (hW : (rest.map fun v => v.category).sum ≤ 8) (hpx : ∀ X H1, px X H1 → zPx x X H1) (K : ∀ (v : Option Value) (H1 : Heap), post v H1 → zF (zEn x) H H1 → zG x H1 (a + mc2) (b + ms2) (pc + 3) lv (v.toList ++ rest)) : zG x H a b pc lv (As.reverse ++ rest) := by
  obtain ⟨⟨p, e, R, s, m⟩, ⟨args, below, meth, c⟩, E, mc', ms', post', px'⟩ := x
  obtain ⟨hx, hb, hml, hr, hown, hlk, htb, hst, hnm, hR, hm1, hm2⟩ := O
  intro hk hf locs ls hl hlv
  subst hR
  subst hm1 hm2
  obtain ⟨hmc9, hl9, hs9⟩ := Lk
  have hw := hk.2.2.1
  refine z_go hown hlk htb hk hf hl hlv ?_ hmc hms hpx K
  rcases hl9 with hl9 | ⟨host, hl9⟩
  · exact vx_runS (Ts := []) (As := As) (rest := rest) (g := F0 m pc ls (As.reverse ++ rest)) ⟨hx, hb, hml, hown, fun w h => nomatch h⟩ C ⟨z_callB hw hmc9 hl9 ⟨hF, hL⟩, hw.at hs9 rfl rfl⟩ (zPreS hk) rfl hn (by rw [← hml]; exact hlv.1) rfl (lv_room hW) d ⟨hmc, hms⟩
  · exact vx_runSN (Ts := []) (As := As) (rest := rest) (g := F0 m pc ls (As.reverse ++ rest)) ⟨hx, hb, hml, hown, fun w h => nomatch h⟩ C ⟨z_callN hw hmc9 hl9 ⟨hF, hL⟩, hw.at hs9 rfl rfl, trivial⟩ (zPreS hk) rfl hn (by rw [← hml]; exact hlv.1) rfl (lv_room hW) d ⟨hmc, hms⟩
theorem z_invI (Lk : zMI own idx y cc2 nL2 n) (O : zOk x own cc nL ret nm F L mc ms) (d : decode cc pc = .ok (.invokespecial idx, 3)) (C : zC (zEn x) y cc2 nL2 none F2 L2 (.ref q :: As) H mc2 ms2 post px) (hn : As.length = n) (hF : F2 + 1 ≤ F) (hL : 8 + (nL2 + 11) + L2 ≤ L) (hmc : a + mc2 ≤ mc) (hms : b + ms2 ≤ ms)
    (hW : (rest.map fun v => v.category).sum ≤ 8) (hpx : ∀ X H1, px X H1 → zPx x X H1) (K : ∀ (v : Option Value) (H1 : Heap), post v H1 → zF (zEn x) H H1 → zG x H1 (a + mc2) (b + ms2) (pc + 3) lv (v.toList ++ rest)) : zG x H a b pc lv (As.reverse ++ .ref q :: rest) := by
  obtain ⟨⟨p, e, R, s, m⟩, ⟨args, below, meth, c⟩, E, mc', ms', post', px'⟩ := x
  obtain ⟨hx, hb, hml, hr, hown, hlk, htb, hst, hnm, hR, hm1, hm2⟩ := O
  intro hk hf locs ls hl hlv
  subst hR
  subst hm1 hm2
  obtain ⟨hmc9, hl9, hi9, hy9⟩ := Lk
  have hw := hk.2.2.1
  refine z_go hown hlk htb hk hf hl hlv ?_ hmc hms hpx K
  rcases hl9 with hl9 | ⟨host, hl9⟩
  · exact vx_runI (Ts := []) (As := As) (b := q) (rest := rest) (g := F0 m pc ls (As.reverse ++ .ref q :: rest)) ⟨hx, hb, hml, hown, fun w h => nomatch h⟩ C ⟨z_callB hw hmc9 hl9 ⟨hF, hL⟩, hy9, hw.at hi9 rfl rfl⟩ (zPreS hk) rfl hn (by rw [← hml]; exact hlv.1) rfl (lv_room hW) d ⟨hmc, hms⟩
  · exact vx_runIN (Ts := []) (As := As) (b := q) (rest := rest) (g := F0 m pc ls (As.reverse ++ .ref q :: rest)) ⟨hx, hb, hml, hown, fun w h => nomatch h⟩ C ⟨z_callN hw hmc9 hl9 ⟨hF, hL⟩, hy9, hw.at hi9 rfl rfl⟩ (zPreS hk) rfl hn (by rw [← hml]; exact hlv.1) rfl (lv_room hW) d ⟨hmc, hms⟩
/-- Object's constructor -/
theorem z_objInit (hlink : Cond.methodLink own idx objectInit ∈ lw_tbl) (O : zOk x own cc nL ret nm F L mc ms) (d : decode cc pc = .ok (.invokespecial idx, 3)) (hF : 1 ≤ F) (hL : (rest.map fun v => v.category).sum + 12 ≤ L) (K : zG x H a b (pc + 3) lv rest) : zG x H a b pc lv (.ref q :: rest) := by
  obtain ⟨⟨p, e, R, s, m⟩, ⟨args, below, meth, c⟩, E, mc', ms', post', px'⟩ := x
  obtain ⟨hx, hb, hml, hr, hown, hlk, htb, hst, hnm, hR, hm1, hm2⟩ := O
  intro hk hf locs ls hl hlv
  subst hR
  refine W.objInit hx hb hown (hk.2.2.1.at hlink rfl rfl) (hk.2.2.1.at (by decide +kernel) rfl rfl) (hk.2.2.1.at (by decide +kernel) rfl rfl) rfl hlv.1 rfl d hF (by show 2 * 0 + _ + 12 ≤ L; omega) ?_
  exact K hk hf locs ls hl hlv
end ZC
end
section
/-! rules of the walk: 'throw new E("text")' -/
def zTh (own : String) (ik is ic : Nat) (cls : String) (names : List String) : Prop := Bundle.fit cls = true ∧ (∀ n ∈ names, Bundle.fit n = true) ∧ Cond.classLink own ik cls ∈ lw_tbl ∧ Cond.initialized cls ∈ lw_tbl ∧ (∃ text, Cond.stringRef own is text ∈ lw_tbl) ∧ (vx_atS own ic cls names).all (fun w => decide (w ∈ lw_tbl) && zGoodW w && w.onTables) = true
section ZT
variable {x : zX} {own : String} {cc : ByteArray} {nL : Nat} {ret : Option FieldType} {nm : String} {F L mc ms : Nat} {H : Heap} {a b pc : Nat} {lv : List (Nat × Value)} {rest : List Value} {ik is ic : Nat} {cls : String} {names : List String}
theorem zTh_good {s : State} (hw : zW s) (h : (vx_atS own ic cls names).all (fun w => decide (w ∈ lw_tbl) && zGoodW w && w.onTables) = true) : ∀ w ∈ vx_atS own ic cls names, (∀ args : Array Value, w.before args s = true) ∧ vx_ot w = true := by
  intro w hm
  have h1 := List.all_eq_true.mp h w hm
  simp only [Bool.and_eq_true, decide_eq_true_eq] at h1
  exact ⟨fun args => hw.at h1.1.1 h1.1.2 h1.2, by unfold vx_ot; rw [h1.2]; rfl⟩
theorem z_throw (Lk : zTh own ik is ic cls names) (O : zOk x own cc nL ret nm F L mc ms)
    (d0 : decode cc pc = .ok (.new ik, 3)) (d3 : decode cc (pc + 3) = .ok (.dup, 1)) (d4 : decode cc (pc + 4) = .ok (.ldc is, 2)) (d6 : decode cc (pc + 6) = .ok (.invokespecial ic, 3)) (d9 : decode cc (pc + 9) = .ok (.athrow, 1))
    (hF : names.length + 3 < F) (hL : (rest.map fun v => v.category).sum + (13 * (names.length + 1) + 43) ≤ L) (h1 : a + 1 ≤ mc) (h2 : b + 6 ≤ ms) (hpx : ∀ H1 : Heap, H.size ≤ H1.size → (∀ q : Nat, q < H.size → H1[q]? = H[q]?) → zPx x cls H1) : zG x H a b pc lv rest := by
  obtain ⟨⟨p, e, R, s, m⟩, ⟨args, below, meth, c⟩, E, mc', ms', post', px'⟩ := x
  obtain ⟨hx, hb, hml, hr, hown, hlk, htb, hst, hnm, hR, hm1, hm2⟩ := O
  intro hk hf locs ls hl hlv
  subst hR
  subst hm1 hm2
  obtain ⟨t1, t2, t3, t4, ⟨text, t5⟩, t6⟩ := Lk
  have hw := hk.2.2.1
  obtain ⟨sa, hsa⟩ := hk.2.2.2.1 _ _ _ t5
  have hg := zTh_good hw t6
  have hback : ∀ q : Nat, q < H.size → ¬ (E.2.2.2 ≤ q) → s.heap[q]? = H[q]? := fun q _ hq => (hf.2 q (by omega)).symm
  exact vx_throwS hx hb hst hown t1 t2 (hw.at t3 rfl rfl) (hw.at t4 rfl rfl) hsa (fun w hm => (hg w hm).1 args) (fun w hm => by
      rcases List.mem_cons.mp hm with rfl | hm
      · rfl
      rcases List.mem_cons.mp hm with rfl | hm
      · rfl
      exact (hg w hm).2) (A := fun q => E.2.2.2 ≤ q) (hk.2.2.2.2.1.kept hback) (hk.2.2.2.2.2.kept hback) ⟨hf.1, fun q _ hq => hf.2 q (by omega), hl⟩ hlv.1 d0 d3 d4 d6 d9 (fun z hz => (htb z hz).elim) hF hL h1 h2 hlk
    (fun t9 _ hsz hq => ⟨hpx _ hsz hq, hf.tr ⟨hsz, fun q hB => hq q (Nat.lt_of_lt_of_le hB hk.2.1)⟩⟩) hl h1 h2
theorem z_throwW (Lk : zTh own ik is ic cls names) (O : zOk x own cc nL ret nm F L mc ms)
    (d0 : decode cc pc = .ok (.new ik, 3)) (d3 : decode cc (pc + 3) = .ok (.dup, 1)) (d4 : decode cc (pc + 4) = .ok (.ldc_w is, 3)) (d6 : decode cc (pc + 7) = .ok (.invokespecial ic, 3)) (d9 : decode cc (pc + 10) = .ok (.athrow, 1))
    (hF : names.length + 3 < F) (hL : (rest.map fun v => v.category).sum + (13 * (names.length + 1) + 43) ≤ L) (h1 : a + 1 ≤ mc) (h2 : b + 6 ≤ ms) (hpx : ∀ H1 : Heap, H.size ≤ H1.size → (∀ q : Nat, q < H.size → H1[q]? = H[q]?) → zPx x cls H1) : zG x H a b pc lv rest := by
  obtain ⟨⟨p, e, R, s, m⟩, ⟨args, below, meth, c⟩, E, mc', ms', post', px'⟩ := x
  obtain ⟨hx, hb, hml, hr, hown, hlk, htb, hst, hnm, hR, hm1, hm2⟩ := O
  intro hk hf locs ls hl hlv
  subst hR
  subst hm1 hm2
  obtain ⟨t1, t2, t3, t4, ⟨text, t5⟩, t6⟩ := Lk
  have hw := hk.2.2.1
  obtain ⟨sa, hsa⟩ := hk.2.2.2.1 _ _ _ t5
  have hg := zTh_good hw t6
  have hback : ∀ q : Nat, q < H.size → ¬ (E.2.2.2 ≤ q) → s.heap[q]? = H[q]? := fun q _ hq => (hf.2 q (by omega)).symm
  exact vx_throwSW hx hb hst hown t1 t2 (hw.at t3 rfl rfl) (hw.at t4 rfl rfl) hsa (fun w hm => (hg w hm).1 args) (fun w hm => by
      rcases List.mem_cons.mp hm with rfl | hm
      · rfl
      rcases List.mem_cons.mp hm with rfl | hm
      · rfl
      exact (hg w hm).2) (A := fun q => E.2.2.2 ≤ q) (hk.2.2.2.2.1.kept hback) (hk.2.2.2.2.2.kept hback) ⟨hf.1, fun q _ hq => hf.2 q (by omega), hl⟩ hlv.1 d0 d3 d4 d6 d9 (fun z hz => (htb z hz).elim) hF hL h1 h2 hlk
    (fun t9 _ hsz hq => ⟨hpx _ hsz hq, hf.tr ⟨hsz, fun q hB => hq q (Nat.lt_of_lt_of_le hB hk.2.1)⟩⟩) hl h1 h2
/-- one of them, to try it -/
theorem zTh_try : zTh RX5 43 45 47 "java/lang/IllegalArgumentException" ["java/lang/RuntimeException", "java/lang/Exception"] := ⟨by decide +kernel, by decide +kernel, by decide +kernel, by decide +kernel, ⟨"no such character code", by decide +kernel⟩, by decide +kernel⟩
end ZT
end
section
/-! rules of the walk: Math, arraycopy, clone -/
section ZNA
variable {x : zX} {own : String} {cc : ByteArray} {nL : Nat} {ret : Option FieldType} {nm : String} {F L mc ms : Nat} {H : Heap} {a b pc : Nat} {lv : List (Nat × Value)} {st rest : List Value} {idx q n t : Nat} {g : Int → Int} {u v : Int}
theorem z_mmin (hm : Cond.methodLink own idx Lib.Math.min.name ∈ lw_tbl) (O : zOk x own cc nL ret nm F L mc ms) (d : decode cc pc = .ok (.invokestatic idx, 3)) (hF : 1 ≤ F) (hL : (rest.map fun v => v.category).sum + 13 ≤ L) (h1 : a ≤ mc) (h2 : b ≤ ms) (hu : zR u) (hv : zR v) (K : zG x H a b (pc + 3) lv (.int (iI (min u v)) :: rest)) : zG x H a b pc lv (.int (iI v) :: .int (iI u) :: rest) := by
  obtain ⟨⟨p, e, R, s, m⟩, ⟨args, below, meth, c⟩, E, mc', ms', post, px⟩ := x
  obtain ⟨hx, hb, hml, hr, hown, hlk, htb, hst, hnm, hR, hm1, hm2⟩ := O
  intro hk hf locs ls hl hlv
  subst hR
  refine va_mmin hx hb hlv.1.symm hown (hk.2.2.1.at hm rfl rfl) (hk.2.2.1.at (by decide +kernel) rfl rfl) (hk.2.2.1.at (by decide +kernel) rfl rfl) (hk.2.2.1.at (by decide +kernel) rfl rfl) hF hL h1 h2 d ?_
  rw [show (if iI v < iI u then iI v else iI u) = iI (min u v) by
    rcases Int.lt_or_le v u with h | h
    · rw [if_pos ((iI_lt hv hu).mpr h), show min u v = v by omega]
    · rw [if_neg (fun q => by rw [iI_lt hv hu] at q; omega), show min u v = u by omega]]
  exact K hk hf locs ls hl hlv
theorem z_mmax (hm : Cond.methodLink own idx Lib.Math.max.name ∈ lw_tbl) (O : zOk x own cc nL ret nm F L mc ms) (d : decode cc pc = .ok (.invokestatic idx, 3)) (hF : 1 ≤ F) (hL : (rest.map fun v => v.category).sum + 13 ≤ L) (h1 : a ≤ mc) (h2 : b ≤ ms) (hu : zR u) (hv : zR v) (K : zG x H a b (pc + 3) lv (.int (iI (max u v)) :: rest)) : zG x H a b pc lv (.int (iI v) :: .int (iI u) :: rest) := by
  obtain ⟨⟨p, e, R, s, m⟩, ⟨args, below, meth, c⟩, E, mc', ms', post, px⟩ := x
  obtain ⟨hx, hb, hml, hr, hown, hlk, htb, hst, hnm, hR, hm1, hm2⟩ := O
  intro hk hf locs ls hl hlv
  subst hR
  refine va_mmax hx hb hlv.1.symm hown (hk.2.2.1.at hm rfl rfl) (hk.2.2.1.at (by decide +kernel) rfl rfl) (hk.2.2.1.at (by decide +kernel) rfl rfl) (hk.2.2.1.at (by decide +kernel) rfl rfl) hF hL h1 h2 d ?_
  first
    | rw [show (if iI u < iI v then iI v else iI u) = iI (max u v) by
        rcases Int.lt_or_le u v with h | h
        · rw [if_pos ((iI_lt hu hv).mpr h), show max u v = v by omega]
        · rw [if_neg (fun q => by rw [iI_lt hu hv] at q; omega), show max u v = u by omega]]
    | rw [show (if iI v < iI u then iI u else iI v) = iI (max u v) by
        rcases Int.lt_or_le v u with h | h
        · rw [if_pos ((iI_lt hv hu).mpr h), show max u v = u by omega]
        · rw [if_neg (fun q => by rw [iI_lt hv hu] at q; omega), show max u v = v by omega]]
    | rw [show (if iI u ≤ iI v then iI v else iI u) = iI (max u v) by
        rcases Int.lt_or_le v u with h | h
        · rw [if_neg (fun q => by rw [iI_le hu hv] at q; omega), show max u v = u by omega]
        · rw [if_pos ((iI_le hu hv).mpr h), show max u v = v by omega]]
  exact K hk hf locs ls hl hlv
/-- the numbers of a row, laid over another's -/
def zCpy (f g : Int → Int) (sp dp n : Int) : Int → Int := fun j => if dp ≤ j ∧ j < dp + n then f (sp + (j - dp)) else g j
theorem z_acopy {q0 n0 : Nat} {f : Int → Int} {sp dp k : Int} (hm : Cond.methodLink own idx arraycopyName ∈ lw_tbl) (O : zOk x own cc nL ret nm F L mc ms) (d : decode cc pc = .ok (.invokestatic idx, 3)) (hF : 1 ≤ F) (hL : (rest.map fun v => v.category).sum + (nativeFrameWords "java/lang/System" "arraycopy" 5 + 11) ≤ L)
    (ho0 : zIA (zEn x) H q0 0 n0 f) (ho : zIA (zEn x) H q 0 n g) (r1 : zR sp) (r2 : zR dp) (r3 : zR k) (h1 : 0 ≤ sp) (h2 : 0 ≤ dp) (h3 : 0 ≤ k) (h4 : sp + k ≤ n0) (h5 : dp + k ≤ n) (K : ∀ H1 : Heap, zIA (zEn x) H1 q 0 n (zCpy f g sp dp k) → zCh H H1 q → zG x H1 a b (pc + 3) lv rest) : zG x H a b pc lv (.int (iI k) :: .int (iI dp) :: .ref q :: .int (iI sp) :: .ref q0 :: rest) := by
  obtain ⟨⟨p, e, R, s, m⟩, ⟨args, below, meth, c⟩, E, mc', ms', post, px⟩ := x
  obtain ⟨hx, hb, hml, hr, hown, hlk, htb, hst, hnm, hR, hm1, hm2⟩ := O
  intro hk hf locs ls hl hlv
  subst hR
  obtain ⟨⟨f0, hat0, hfg0⟩, hB0⟩ := ho0
  obtain ⟨⟨g0, hat, hfg⟩, hB⟩ := ho
  have hc0 : H[q0]? = some (vp_cell (E.2.2.1 0) (n0, .inl f0)) := hat0
  have hc1 : H[q]? = some (vp_cell (E.2.2.1 0) (n, .inl g0)) := hat
  obtain ⟨-, k0, hk0, cm0, hkk0⟩ := (hk.1.2 0 _ rfl).1 n0 (fun j => .int (f0 j))
  have ng : ∀ z : Int, zR z → 0 ≤ z → ¬ iI z < 0 := fun z hz h0 hq => by rw [iI_0, iI_lt hz zR0] at hq; omega
  intro T hT X
  obtain ⟨vm', X', step⟩ := X.arraycopy hx hown (hk.2.2.1.at hm rfl rfl) (hk.2.2.1.at (by decide +kernel) rfl rfl) (hk.2.2.1.at (by decide +kernel) rfl rfl) (hk.2.2.1.at (by decide +kernel) rfl rfl) (src := q0) (dst := q) (cs := vp_cell (E.2.2.1 0) (n0, .inl f0)) (cd := vp_cell (E.2.2.1 0) (n, .inl g0)) (srcPos := iI sp) (destPos := iI dp) (n := iI k) (by rw [hT]; exact hc0) (by rw [hT]; exact hc1)
    (fun _ h => by cases h) (fun _ h => by cases h) (fun h => by cases h) (fun h => by cases h) hk0 hk0 hkk0 hkk0 (by simp [refKind]) (ng sp r1 h1) (ng dp r2 h2) (ng k r3 h3)
    (by rw [iI_toInt r1, iI_toInt r3]; show ¬ _ > ((arrV (E.2.2.1 0) n0 (fun j => .int (f0 j))).slots.size : Int); rw [arrV_size]; omega)
    (by rw [iI_toInt r2, iI_toInt r3]; show ¬ _ > ((arrV (E.2.2.1 0) n (fun j => .int (g0 j))).slots.size : Int); rw [arrV_size]; omega)
    (fun vm₁ _ i hi => by
      rw [zcl r3] at hi
      have e9 : (vp_cell (E.2.2.1 0) (n0, .inl f0)).slots.getD ((iI sp).toNatClampNeg + i) .null = .int (f0 ((iI sp).toNatClampNeg + i)) := by
        show (arrV (E.2.2.1 0) n0 (fun j => .int (f0 j))).slots.getD _ _ = _
        rw [Array.getD_eq_getD_getElem?, arrV_read _ _ (by rw [zcl r1]; omega)]
        rfl
      refine ⟨?_, ?_⟩
      · rw [e9]
        rfl
      · rw [e9]
        exact trivial)
    (g := F0 m pc ls (.int (iI k) :: .int (iI dp) :: .ref q :: .int (iI sp) :: .ref q0 :: rest)) rfl hlv.1 (rest := rest) rfl (by rw [hb]; exact d) hF (by show 2 * 0 + _ + _ ≤ L; omega)
  have e1 : copied (vp_cell (E.2.2.1 0) (n0, .inl f0)) (vp_cell (E.2.2.1 0) (n, .inl g0)) (iI sp) (iI dp) (iI k) = vp_cell (E.2.2.1 0) (n, .inl (va_cpy f0 g0 (iI sp).toNatClampNeg (iI dp).toNatClampNeg (iI k).toNatClampNeg)) := va_copied (fun z => .int z) _ _ f0 g0 (by rw [zcl r1, zcl r3]; omega)
  rw [e1] at X' step
  have hlq : q < H.size := (Array.getElem?_eq_some_iff.mp hc1).1
  generalize hH1 : H.setIfInBounds q (vp_cell (E.2.2.1 0) (n, .inl (va_cpy f0 g0 (iI sp).toNatClampNeg (iI dp).toNatClampNeg (iI k).toNatClampNeg))) = H1
  have hheap : ((T.setVm vm').setCell q (vp_cell (E.2.2.1 0) (n, .inl (va_cpy f0 g0 (iI sp).toNatClampNeg (iI dp).toNatClampNeg (iI k).toNatClampNeg)))).heap = H1 := by rw [← hH1, ← hT]; rfl
  have hC : zCh H H1 q := ⟨by rw [← hH1]; simp, fun r hr => by rw [← hH1]; simp [Array.getElem?_setIfInBounds, Ne.symm hr]⟩
  have hat1 : va_at E.2.1 vwCl (q, .inl (E.2.2.1 0, n, .inl (va_cpy f0 g0 (iI sp).toNatClampNeg (iI dp).toNatClampNeg (iI k).toNatClampNeg))) H1 := by
    show H1[q]? = some _
    rw [← hH1]
    simp [Array.getElem?_setIfInBounds, hlq]
  obtain ⟨t9, a1, b1⟩ := K H1 ⟨⟨_, hat1, fun j hj => by
      rw [zcl r1, zcl r2, zcl r3]
      unfold zCpy
      by_cases hin : dp ≤ (j : Int) ∧ (j : Int) < dp + k
      · rw [if_pos hin, pk_cpy_in (by omega) (by omega), hfg0 _ (by omega)]
        congr 2
        omega
      · rw [if_neg hin, pk_cpy_out (by omega), hfg j hj]⟩, hB⟩ hC (hk.step (hC.F hB)) (hf.tr (hC.F hB)) _ ls (fun z hz => by
      rcases List.mem_append.mp hz with h | h
      · exact hl z h
      · obtain ⟨z9, -, hz9⟩ := List.mem_map.mp h
        rw [← hz9]
        exact hB) hlv _ hheap X'
  exact ⟨t9, step t9 a1, b1⟩
theorem z_clone (hm : Cond.methodLink own idx ⟨"[I", "clone", "()Ljava/lang/Object;"⟩ ∈ lw_tbl) (O : zOk x own cc nL ret nm F L mc ms) (d : decode cc pc = .ok (.invokevirtual idx, 3)) (hF : 1 ≤ F) (hL : (rest.map fun v => v.category).sum + 14 ≤ L) (h1 : a + 1 ≤ mc) (h2 : b + n ≤ ms)
    (ho : zIA (zEn x) H q 0 n g) (K : ∀ H1 : Heap, zIA (zEn x) H1 H.size 0 n g → zNew H H1 → zG x H1 (a + 1) (b + n) (pc + 3) lv (.ref H.size :: rest)) : zG x H a b pc lv (.ref q :: rest) := by
  obtain ⟨⟨p, e, R, s, m⟩, ⟨args, below, meth, c⟩, E, mc', ms', post, px⟩ := x
  obtain ⟨hx, hb, hml, hr, hown, hlk, htb, hst, hnm, hR, hm1, hm2⟩ := O
  intro hk hf locs ls hl hlv
  subst hR
  obtain ⟨⟨f, hat, hfg⟩, hB⟩ := ho
  have hcell : H[q]? = some (vp_cell (E.2.2.1 0) (n, .inl f)) := hat
  have hsz : (vp_cell (E.2.2.1 0) (n, .inl f)).slots.size = n := arrV_size _ _ _
  have hnm9 : s.vm.findClass "[I" = some (E.2.2.1 0) := (hk.1.2 0 _ rfl).2
  have hcas : va_Nw (.castable "[I" "java/lang/Cloneable") s := hk.2.2.1 _ (by decide +kernel) rfl
  obtain ⟨c0, t0', f1, f2, f3⟩ := Cond.castable_spec (va_Nw.use (A := args) rfl hcas)
  cases hnm9.symm.trans f1
  intro T hT X
  have hcellT : T.heap[q]? = some (vp_cell (E.2.2.1 0) (n, .inl f)) := by rw [hT]; exact hcell
  obtain ⟨-, kA, hkA, comp, hkind⟩ := State.isArrayOf_alike X.warmed.alike ((hk.1.2 0 _ rfl).1 0 (fun _ => .null))
  obtain ⟨-, kS, hkS, compS, hkindS⟩ := (hk.1.2 0 _ rfl).1 0 (fun _ => .null)
  obtain ⟨vm', X', st9⟩ := X.cloneArray hx hown (hk.2.2.1.at hm rfl rfl) (hk.2.2.1.at (by decide +kernel) rfl rfl) (hk.2.2.1.at (by decide +kernel) rfl rfl) (hk.2.2.1.at (by decide +kernel) rfl rfl) (hk.2.2.1.at (by decide +kernel) rfl rfl) (a := q) (cell := vp_cell (E.2.2.1 0) (n, .inl f)) hcellT (fun k h => by cases h) (fun h => by cases h) hnm9 f2 f3
    (fun i v hv => by
      have hk' : T.vm.classes[E.2.2.1 0]? = some kA := hkA
      have hv2 : ∃ z : Int32, v = .int z := by
        have hlt : i < n := by have := (Array.getElem?_eq_some_iff.mp hv).1; rw [hsz] at this; exact this
        have hv3 : (arrV (E.2.2.1 0) n (fun j => .int (f j))).slots[i]? = some v := hv
        rw [arrV_read _ _ hlt] at hv3
        exact ⟨_, (Option.some.inj hv3).symm⟩
      obtain ⟨z, rfl⟩ := hv2
      show T.fitsSlot (E.2.2.1 0) .none i (.int z) = true
      simp [State.fitsSlot, State.slotType?, hk', hkind, fits])
    (g := F0 m pc ls (.ref q :: rest)) rfl hlv.1 rfl (by rw [hb]; exact d) hF (by show 2 * 0 + _ + 14 ≤ L; omega) h1 (by rw [hsz]; exact h2) (hloader := Vm.clonesLoader_of_array hkS hkindS)
  have hcE : ({ cls := (vp_cell (E.2.2.1 0) (n, .inl f)).cls, slots := (vp_cell (E.2.2.1 0) (n, .inl f)).slots } : Cell) = vp_cell (E.2.2.1 0) (n, .inl f) := rfl
  rw [hcE, hsz] at X'
  have hN := zPush (H := H) (c := vp_cell (E.2.2.1 0) (n, .inl f))
  have hat1 : va_at E.2.1 vwCl (H.size, .inl (E.2.2.1 0, n, .inl f)) (H.push (vp_cell (E.2.2.1 0) (n, .inl f))) := by
    show (H.push _)[H.size]? = some _
    rw [Array.getElem?_push_size]
  obtain ⟨t9, b1, b2⟩ := K (H.push (vp_cell (E.2.2.1 0) (n, .inl f))) ⟨⟨f, hat1, hfg⟩, hk.2.1⟩ hN (hk.step (hN.F hk.2.1)) (hf.tr (hN.F hk.2.1)) locs ls hl hlv ((T.setVm vm').pushCell (vp_cell (E.2.2.1 0) (n, .inl f))) (by rw [← hT]; rfl) X'
  refine ⟨t9, st9 t9 ?_, b2⟩
  rw [hcE, hT]
  exact b1
theorem z_castI (hm : Cond.classLink own idx "[I" ∈ lw_tbl) (O : zOk x own cc nL ret nm F L mc ms) (d : decode cc pc = .ok (.checkcast idx, 3)) (ho : zIA (zEn x) H q 0 n g) (K : zG x H a b (pc + 3) lv (.ref q :: rest)) : zG x H a b pc lv (.ref q :: rest) := by
  obtain ⟨⟨p, e, R, s, m⟩, ⟨args, below, meth, c⟩, E, mc', ms', post, px⟩ := x
  obtain ⟨hx, hb, hml, hr, hown, hlk, htb, hst, hnm, hR, hm1, hm2⟩ := O
  intro hk hf locs ls hl hlv
  obtain ⟨⟨f, hat, hfg⟩, hB⟩ := ho
  exact va_castA hx hb hown (hk.2.2.1.at hm rfl rfl) (zArr_i hat) 0 rfl (hk.1.2 0 _ rfl).2 d (K hk hf locs ls hl hlv)
end ZNA
end
section
/-! links of the constant pools (written by program) -/
theorem zu_X0 : ∀ w ∈ u_ws RX0 TX0 3, w ∈ lw_tbl := by decide +kernel
theorem zu_X1 : ∀ w ∈ u_ws RX1 TX1 3, w ∈ lw_tbl := by decide +kernel
theorem zu_X2 : ∀ w ∈ u_ws RX2 TX2 7, w ∈ lw_tbl := by decide +kernel
theorem zu_X3 : ∀ w ∈ u_ws RX3 TX3 5, w ∈ lw_tbl := by decide +kernel
theorem zu_X4 : ∀ w ∈ u_ws RX4 TX4 9, w ∈ lw_tbl := by decide +kernel
theorem zu_X5 : ∀ w ∈ u_ws RX5 TX5 6, w ∈ lw_tbl := by decide +kernel
theorem zu_X6 : ∀ w ∈ u_ws RX6 TX6 17, w ∈ lw_tbl := by decide +kernel
theorem kN_X0_9 : zCN RX0 9 2 7 [.null, .null, .null, .int (iI 0), .int (iI 0), .int (iI 0), .int (iI 0)] := ⟨_, _, tyX2, rfl, zu_X2, tyX2_ok, (List.mem_of_getElem? (i := 235) (by decide +kernel)), (List.mem_of_getElem? (i := 90) (by decide +kernel)), (List.mem_of_getElem? (i := 41) (by decide +kernel)), fun j hj => by rcases (show j = 0 ∨ j = 1 ∨ j = 2 ∨ j = 3 ∨ j = 4 ∨ j = 5 ∨ j = 6 by omega) with rfl | rfl | rfl | rfl | rfl | rfl | rfl <;> first | rfl | (rw [show defaultValue _ = Value.int 0 from rfl, iI_0]; rfl)⟩
theorem kF_X0_11 : zFL RX0 11 0 0 := ⟨_, _, _, rfl, by decide, zu_X0, Or.inl (List.mem_of_getElem? (i := 237) (by decide +kernel))⟩
theorem kP_X0_11 : zFP RX0 11 0 0 true (.array (.object "ForgivenWork$State")) := ⟨_, _, _, tyX0, rfl, by decide, zu_X0, Or.inl (List.mem_of_getElem? (i := 237) (by decide +kernel)), tyX0_ok, nmX0, rfl, fun _ => rfl, rfl⟩
theorem kF_X0_17 : zFL RX0 17 0 1 := ⟨_, _, _, rfl, by decide, zu_X0, Or.inl (List.mem_of_getElem? (i := 238) (by decide +kernel))⟩
theorem kP_X0_17 : zFP RX0 17 0 1 false .int := ⟨_, _, _, tyX0, rfl, by decide, zu_X0, Or.inl (List.mem_of_getElem? (i := 238) (by decide +kernel)), tyX0_ok, nmX0, rfl, (fun h => nomatch h), rfl⟩
theorem kC_X2_init : zMc yX2_init cX2_init 2 none 0 := ⟨(List.mem_of_getElem? (i := 41) (by decide +kernel)), (List.mem_of_getElem? (i := 93) (by decide +kernel)), by decide +kernel, by decide +kernel, by decide +kernel⟩
theorem kM_X0_21 : zMI RX0 21 yX2_init cX2_init 2 0 := ⟨kC_X2_init, Or.inl (List.mem_of_getElem? (i := 719) (by decide +kernel)), (List.mem_of_getElem? (i := 92) (by decide +kernel)), rfl⟩
theorem kC_X2_copyFrom : zMc yX2_copyFrom cX2_copyFrom 5 none 1 := ⟨(List.mem_of_getElem? (i := 41) (by decide +kernel)), (List.mem_of_getElem? (i := 723) (by decide +kernel)), by decide +kernel, by decide +kernel, by decide +kernel⟩
theorem kM_X0_22 : zMV RX0 22 yX2_copyFrom cX2_copyFrom 5 none 1 2 := ⟨kC_X2_copyFrom, (List.mem_of_getElem? (i := 720) (by decide +kernel)), (List.mem_of_getElem? (i := 721) (by decide +kernel)), (List.mem_of_getElem? (i := 722) (by decide +kernel)), ⟨_, rfl, rfl⟩⟩
theorem kF_X0_26 : zFL RX0 26 0 2 := ⟨_, _, _, rfl, by decide, zu_X0, Or.inl (List.mem_of_getElem? (i := 239) (by decide +kernel))⟩
theorem kP_X0_26 : zFP RX0 26 0 2 false .int := ⟨_, _, _, tyX0, rfl, by decide, zu_X0, Or.inl (List.mem_of_getElem? (i := 239) (by decide +kernel)), tyX0_ok, nmX0, rfl, (fun h => nomatch h), rfl⟩
theorem kF_X1_13 : zFL RX1 13 1 1 := ⟨_, _, _, rfl, by decide, zu_X1, Or.inl (List.mem_of_getElem? (i := 76) (by decide +kernel))⟩
theorem kP_X1_13 : zFP RX1 13 1 1 false (.array .int) := ⟨_, _, _, tyX1, rfl, by decide, zu_X1, Or.inl (List.mem_of_getElem? (i := 76) (by decide +kernel)), tyX1_ok, nmX1, rfl, (fun h => nomatch h), rfl⟩
theorem kF_X1_19 : zFL RX1 19 1 0 := ⟨_, _, _, rfl, by decide, zu_X1, Or.inl (List.mem_of_getElem? (i := 75) (by decide +kernel))⟩
theorem kP_X1_19 : zFP RX1 19 1 0 true .int := ⟨_, _, _, tyX1, rfl, by decide, zu_X1, Or.inl (List.mem_of_getElem? (i := 75) (by decide +kernel)), tyX1_ok, nmX1, rfl, fun _ => rfl, rfl⟩
theorem kF_X1_23 : zFL RX1 23 1 2 := ⟨_, _, _, rfl, by decide, zu_X1, Or.inl (List.mem_of_getElem? (i := 77) (by decide +kernel))⟩
theorem kP_X1_23 : zFP RX1 23 1 2 false .int := ⟨_, _, _, tyX1, rfl, by decide, zu_X1, Or.inl (List.mem_of_getElem? (i := 77) (by decide +kernel)), tyX1_ok, nmX1, rfl, (fun h => nomatch h), rfl⟩
theorem kC_J7_copyOf_59c91 : zMc yJ7_copyOf_59c91 cJ7_copyOf_59c91 3 (some (.array .int)) 2 := ⟨(List.mem_of_getElem? (i := 42) (by decide +kernel)), (List.mem_of_getElem? (i := 108) (by decide +kernel)), by decide +kernel, by decide +kernel, by decide +kernel⟩
theorem kM_X1_29 : zMS RX1 29 yJ7_copyOf_59c91 cJ7_copyOf_59c91 3 (some (.array .int)) 2 := ⟨kC_J7_copyOf_59c91, Or.inl (List.mem_of_getElem? (i := 106) (by decide +kernel)), (List.mem_of_getElem? (i := 107) (by decide +kernel))⟩
theorem kN_X2_9 : zCN RX2 9 1 3 [.int (iI 0), .null, .int (iI 0)] := ⟨_, _, tyX1, rfl, zu_X1, tyX1_ok, (List.mem_of_getElem? (i := 95) (by decide +kernel)), (List.mem_of_getElem? (i := 67) (by decide +kernel)), (List.mem_of_getElem? (i := 39) (by decide +kernel)), fun j hj => by rcases (show j = 0 ∨ j = 1 ∨ j = 2 by omega) with rfl | rfl | rfl <;> first | rfl | (rw [show defaultValue _ = Value.int 0 from rfl, iI_0]; rfl)⟩
theorem kC_X1_init : zMc yX1_init cX1_init 3 none 2 := ⟨(List.mem_of_getElem? (i := 39) (by decide +kernel)), (List.mem_of_getElem? (i := 70) (by decide +kernel)), by decide +kernel, by decide +kernel, by decide +kernel⟩
theorem kM_X2_11 : zMI RX2 11 yX1_init cX1_init 3 2 := ⟨kC_X1_init, Or.inl (List.mem_of_getElem? (i := 96) (by decide +kernel)), (List.mem_of_getElem? (i := 69) (by decide +kernel)), rfl⟩
theorem kF_X2_14 : zFL RX2 14 2 0 := ⟨_, _, _, rfl, by decide, zu_X2, Or.inl (List.mem_of_getElem? (i := 201) (by decide +kernel))⟩
theorem kP_X2_14 : zFP RX2 14 2 0 true (.object "ForgivenWork$Row") := ⟨_, _, _, tyX2, rfl, by decide, zu_X2, Or.inl (List.mem_of_getElem? (i := 201) (by decide +kernel)), tyX2_ok, nmX2, rfl, fun _ => rfl, rfl⟩
theorem kF_X2_20 : zFL RX2 20 2 1 := ⟨_, _, _, rfl, by decide, zu_X2, Or.inl (List.mem_of_getElem? (i := 203) (by decide +kernel))⟩
theorem kP_X2_20 : zFP RX2 20 2 1 true (.object "ForgivenWork$Row") := ⟨_, _, _, tyX2, rfl, by decide, zu_X2, Or.inl (List.mem_of_getElem? (i := 203) (by decide +kernel)), tyX2_ok, nmX2, rfl, fun _ => rfl, rfl⟩
theorem kN_X2_23 : zCN RX2 23 4 9 [.int (iI 0), .null, .null, .null, .null, .null, .int (iI 0), .int (iI 0), .int (iI 0)] := ⟨_, _, tyX4, rfl, zu_X4, tyX4_ok, (List.mem_of_getElem? (i := 97) (by decide +kernel)), (List.mem_of_getElem? (i := 120) (by decide +kernel)), (List.mem_of_getElem? (i := 44) (by decide +kernel)), fun j hj => by rcases (show j = 0 ∨ j = 1 ∨ j = 2 ∨ j = 3 ∨ j = 4 ∨ j = 5 ∨ j = 6 ∨ j = 7 ∨ j = 8 by omega) with rfl | rfl | rfl | rfl | rfl | rfl | rfl | rfl | rfl <;> first | rfl | (rw [show defaultValue _ = Value.int 0 from rfl, iI_0]; rfl)⟩
theorem kF_X2_25 : zFL RX2 25 2 2 := ⟨_, _, _, rfl, by decide, zu_X2, Or.inl (List.mem_of_getElem? (i := 205) (by decide +kernel))⟩
theorem kP_X2_25 : zFP RX2 25 2 2 true (.array (.object "ForgivenWork$Worker")) := ⟨_, _, _, tyX2, rfl, by decide, zu_X2, Or.inl (List.mem_of_getElem? (i := 205) (by decide +kernel)), tyX2_ok, nmX2, rfl, fun _ => rfl, rfl⟩
theorem kF_X2_29 : zFL RX2 29 2 3 := ⟨_, _, _, rfl, by decide, zu_X2, Or.inl (List.mem_of_getElem? (i := 206) (by decide +kernel))⟩
theorem kP_X2_29 : zFP RX2 29 2 3 false .int := ⟨_, _, _, tyX2, rfl, by decide, zu_X2, Or.inl (List.mem_of_getElem? (i := 206) (by decide +kernel)), tyX2_ok, nmX2, rfl, (fun h => nomatch h), rfl⟩
theorem kC_X1_push : zMc yX1_push cX1_push 2 none 1 := ⟨(List.mem_of_getElem? (i := 39) (by decide +kernel)), (List.mem_of_getElem? (i := 102) (by decide +kernel)), by decide +kernel, by decide +kernel, by decide +kernel⟩
theorem kM_X2_33 : zMV RX2 33 yX1_push cX1_push 2 none 1 1 := ⟨kC_X1_push, (List.mem_of_getElem? (i := 99) (by decide +kernel)), (List.mem_of_getElem? (i := 100) (by decide +kernel)), (List.mem_of_getElem? (i := 101) (by decide +kernel)), ⟨_, rfl, rfl⟩⟩
theorem kC_X4_init : zMc yX4_init cX4_init 3 none 1 := ⟨(List.mem_of_getElem? (i := 44) (by decide +kernel)), (List.mem_of_getElem? (i := 123) (by decide +kernel)), by decide +kernel, by decide +kernel, by decide +kernel⟩
theorem kM_X2_37 : zMI RX2 37 yX4_init cX4_init 3 1 := ⟨kC_X4_init, Or.inl (List.mem_of_getElem? (i := 121) (by decide +kernel)), (List.mem_of_getElem? (i := 122) (by decide +kernel)), rfl⟩
theorem kC_X1_set : zMc yX1_set cX1_set 3 none 2 := ⟨(List.mem_of_getElem? (i := 39) (by decide +kernel)), (List.mem_of_getElem? (i := 477) (by decide +kernel)), by decide +kernel, by decide +kernel, by decide +kernel⟩
theorem kM_X2_39 : zMV RX2 39 yX1_set cX1_set 3 none 2 1 := ⟨kC_X1_set, (List.mem_of_getElem? (i := 474) (by decide +kernel)), (List.mem_of_getElem? (i := 475) (by decide +kernel)), (List.mem_of_getElem? (i := 476) (by decide +kernel)), ⟨_, rfl, rfl⟩⟩
theorem kC_X2_workerAt : zMc yX2_workerAt cX2_workerAt 2 (some (.object "ForgivenWork$Worker")) 1 := ⟨(List.mem_of_getElem? (i := 41) (by decide +kernel)), (List.mem_of_getElem? (i := 481) (by decide +kernel)), by decide +kernel, by decide +kernel, by decide +kernel⟩
theorem kM_X2_42 : zMV RX2 42 yX2_workerAt cX2_workerAt 2 (some (.object "ForgivenWork$Worker")) 1 2 := ⟨kC_X2_workerAt, (List.mem_of_getElem? (i := 478) (by decide +kernel)), (List.mem_of_getElem? (i := 479) (by decide +kernel)), (List.mem_of_getElem? (i := 480) (by decide +kernel)), ⟨_, rfl, rfl⟩⟩
theorem kC_X4_clear : zMc yX4_clear cX4_clear 1 none 0 := ⟨(List.mem_of_getElem? (i := 44) (by decide +kernel)), (List.mem_of_getElem? (i := 485) (by decide +kernel)), by decide +kernel, by decide +kernel, by decide +kernel⟩
theorem kM_X2_46 : zMV RX2 46 yX4_clear cX4_clear 1 none 0 4 := ⟨kC_X4_clear, (List.mem_of_getElem? (i := 482) (by decide +kernel)), (List.mem_of_getElem? (i := 483) (by decide +kernel)), (List.mem_of_getElem? (i := 484) (by decide +kernel)), ⟨_, rfl, rfl⟩⟩
theorem kF_X2_49 : zFL RX2 49 2 4 := ⟨_, _, _, rfl, by decide, zu_X2, Or.inl (List.mem_of_getElem? (i := 208) (by decide +kernel))⟩
theorem kP_X2_49 : zFP RX2 49 2 4 false .int := ⟨_, _, _, tyX2, rfl, by decide, zu_X2, Or.inl (List.mem_of_getElem? (i := 208) (by decide +kernel)), tyX2_ok, nmX2, rfl, (fun h => nomatch h), rfl⟩
theorem kF_X2_52 : zFL RX2 52 2 5 := ⟨_, _, _, rfl, by decide, zu_X2, Or.inl (List.mem_of_getElem? (i := 210) (by decide +kernel))⟩
theorem kP_X2_52 : zFP RX2 52 2 5 false .int := ⟨_, _, _, tyX2, rfl, by decide, zu_X2, Or.inl (List.mem_of_getElem? (i := 210) (by decide +kernel)), tyX2_ok, nmX2, rfl, (fun h => nomatch h), rfl⟩
theorem kF_X2_55 : zFL RX2 55 2 6 := ⟨_, _, _, rfl, by decide, zu_X2, Or.inl (List.mem_of_getElem? (i := 212) (by decide +kernel))⟩
theorem kP_X2_55 : zFP RX2 55 2 6 false .int := ⟨_, _, _, tyX2, rfl, by decide, zu_X2, Or.inl (List.mem_of_getElem? (i := 212) (by decide +kernel)), tyX2_ok, nmX2, rfl, (fun h => nomatch h), rfl⟩
theorem kC_X1_copyFrom : zMc yX1_copyFrom cX1_copyFrom 2 none 1 := ⟨(List.mem_of_getElem? (i := 39) (by decide +kernel)), (List.mem_of_getElem? (i := 727) (by decide +kernel)), by decide +kernel, by decide +kernel, by decide +kernel⟩
theorem kM_X2_58 : zMV RX2 58 yX1_copyFrom cX1_copyFrom 2 none 1 1 := ⟨kC_X1_copyFrom, (List.mem_of_getElem? (i := 724) (by decide +kernel)), (List.mem_of_getElem? (i := 725) (by decide +kernel)), (List.mem_of_getElem? (i := 726) (by decide +kernel)), ⟨_, rfl, rfl⟩⟩
theorem kC_X4_copyFrom : zMc yX4_copyFrom cX4_copyFrom 5 none 1 := ⟨(List.mem_of_getElem? (i := 44) (by decide +kernel)), (List.mem_of_getElem? (i := 734) (by decide +kernel)), by decide +kernel, by decide +kernel, by decide +kernel⟩
theorem kM_X2_62 : zMV RX2 62 yX4_copyFrom cX4_copyFrom 5 none 1 4 := ⟨kC_X4_copyFrom, (List.mem_of_getElem? (i := 731) (by decide +kernel)), (List.mem_of_getElem? (i := 732) (by decide +kernel)), (List.mem_of_getElem? (i := 733) (by decide +kernel)), ⟨_, rfl, rfl⟩⟩
theorem kC_X1_get : zMc yX1_get cX1_get 2 (some .int) 1 := ⟨(List.mem_of_getElem? (i := 39) (by decide +kernel)), (List.mem_of_getElem? (i := 283) (by decide +kernel)), by decide +kernel, by decide +kernel, by decide +kernel⟩
theorem kM_X2_65 : zMV RX2 65 yX1_get cX1_get 2 (some .int) 1 1 := ⟨kC_X1_get, (List.mem_of_getElem? (i := 547) (by decide +kernel)), (List.mem_of_getElem? (i := 281) (by decide +kernel)), (List.mem_of_getElem? (i := 282) (by decide +kernel)), ⟨_, rfl, rfl⟩⟩
theorem kF_X2_69 : zFL RX2 69 4 6 := ⟨_, _, _, rfl, by decide, zu_X4, Or.inr ⟨"ForgivenWork", (List.mem_of_getElem? (i := 176) (by decide +kernel))⟩⟩
theorem kF_X2_72 : zFL RX2 72 4 2 := ⟨_, _, _, rfl, by decide, zu_X4, Or.inr ⟨"ForgivenWork", (List.mem_of_getElem? (i := 167) (by decide +kernel))⟩⟩
theorem kF_X2_75 : zFL RX2 75 1 2 := ⟨_, _, _, rfl, by decide, zu_X1, Or.inr ⟨"ForgivenWork", (List.mem_of_getElem? (i := 79) (by decide +kernel))⟩⟩
theorem kF_X2_78 : zFL RX2 78 4 0 := ⟨_, _, _, rfl, by decide, zu_X4, Or.inr ⟨"ForgivenWork", (List.mem_of_getElem? (i := 164) (by decide +kernel))⟩⟩
theorem kC_X2_countLockedBy : zMc yX2_countLockedBy cX2_countLockedBy 4 (some .int) 1 := ⟨(List.mem_of_getElem? (i := 41) (by decide +kernel)), (List.mem_of_getElem? (i := 633) (by decide +kernel)), by decide +kernel, by decide +kernel, by decide +kernel⟩
theorem kM_X2_81 : zMV RX2 81 yX2_countLockedBy cX2_countLockedBy 4 (some .int) 1 2 := ⟨kC_X2_countLockedBy, (List.mem_of_getElem? (i := 630) (by decide +kernel)), (List.mem_of_getElem? (i := 631) (by decide +kernel)), (List.mem_of_getElem? (i := 632) (by decide +kernel)), ⟨_, rfl, rfl⟩⟩
theorem kF_X2_84 : zFL RX2 84 4 7 := ⟨_, _, _, rfl, by decide, zu_X4, Or.inr ⟨"ForgivenWork", (List.mem_of_getElem? (i := 179) (by decide +kernel))⟩⟩
theorem kP_X2_84 : zFP RX2 84 4 7 false .int := ⟨_, _, _, tyX4, rfl, by decide, zu_X4, Or.inr ⟨rfl, "ForgivenWork", (List.mem_of_getElem? (i := 179) (by decide +kernel))⟩, tyX4_ok, nmX4, rfl, (fun h => nomatch h), rfl⟩
theorem kF_X2_87 : zFL RX2 87 4 8 := ⟨_, _, _, rfl, by decide, zu_X4, Or.inr ⟨"ForgivenWork", (List.mem_of_getElem? (i := 181) (by decide +kernel))⟩⟩
theorem kP_X2_87 : zFP RX2 87 4 8 false .int := ⟨_, _, _, tyX4, rfl, by decide, zu_X4, Or.inr ⟨rfl, "ForgivenWork", (List.mem_of_getElem? (i := 181) (by decide +kernel))⟩, tyX4_ok, nmX4, rfl, (fun h => nomatch h), rfl⟩
theorem kC_X4_isSpoiled : zMc yX4_isSpoiled cX4_isSpoiled 2 (some .boolean) 0 := ⟨(List.mem_of_getElem? (i := 44) (by decide +kernel)), (List.mem_of_getElem? (i := 514) (by decide +kernel)), by decide +kernel, by decide +kernel, by decide +kernel⟩
theorem kM_X2_90 : zMV RX2 90 yX4_isSpoiled cX4_isSpoiled 2 (some .boolean) 0 4 := ⟨kC_X4_isSpoiled, (List.mem_of_getElem? (i := 511) (by decide +kernel)), (List.mem_of_getElem? (i := 512) (by decide +kernel)), (List.mem_of_getElem? (i := 513) (by decide +kernel)), ⟨_, rfl, rfl⟩⟩
theorem kC_X2_numberOfWorker : zMc yX2_numberOfWorker cX2_numberOfWorker 3 (some .int) 2 := ⟨(List.mem_of_getElem? (i := 41) (by decide +kernel)), (List.mem_of_getElem? (i := 629) (by decide +kernel)), by decide +kernel, by decide +kernel, by decide +kernel⟩
theorem kM_X2_94 : zMV RX2 94 yX2_numberOfWorker cX2_numberOfWorker 3 (some .int) 2 2 := ⟨kC_X2_numberOfWorker, (List.mem_of_getElem? (i := 626) (by decide +kernel)), (List.mem_of_getElem? (i := 627) (by decide +kernel)), (List.mem_of_getElem? (i := 628) (by decide +kernel)), ⟨_, rfl, rfl⟩⟩
theorem kC_X4_isReady : zMc yX4_isReady cX4_isReady 1 (some .boolean) 0 := ⟨(List.mem_of_getElem? (i := 44) (by decide +kernel)), (List.mem_of_getElem? (i := 522) (by decide +kernel)), by decide +kernel, by decide +kernel, by decide +kernel⟩
theorem kM_X2_98 : zMV RX2 98 yX4_isReady cX4_isReady 1 (some .boolean) 0 4 := ⟨kC_X4_isReady, (List.mem_of_getElem? (i := 519) (by decide +kernel)), (List.mem_of_getElem? (i := 520) (by decide +kernel)), (List.mem_of_getElem? (i := 521) (by decide +kernel)), ⟨_, rfl, rfl⟩⟩
theorem kC_X4_countPoints : zMc yX4_countPoints cX4_countPoints 5 (some .int) 1 := ⟨(List.mem_of_getElem? (i := 44) (by decide +kernel)), (List.mem_of_getElem? (i := 527) (by decide +kernel)), by decide +kernel, by decide +kernel, by decide +kernel⟩
theorem kM_X2_101 : zMV RX2 101 yX4_countPoints cX4_countPoints 5 (some .int) 1 4 := ⟨kC_X4_countPoints, (List.mem_of_getElem? (i := 524) (by decide +kernel)), (List.mem_of_getElem? (i := 525) (by decide +kernel)), (List.mem_of_getElem? (i := 526) (by decide +kernel)), ⟨_, rfl, rfl⟩⟩
theorem kC_X4_hasPoint : zMc yX4_hasPoint cX4_hasPoint 2 (some .boolean) 1 := ⟨(List.mem_of_getElem? (i := 44) (by decide +kernel)), (List.mem_of_getElem? (i := 535) (by decide +kernel)), by decide +kernel, by decide +kernel, by decide +kernel⟩
theorem kM_X2_104 : zMV RX2 104 yX4_hasPoint cX4_hasPoint 2 (some .boolean) 1 4 := ⟨kC_X4_hasPoint, (List.mem_of_getElem? (i := 532) (by decide +kernel)), (List.mem_of_getElem? (i := 533) (by decide +kernel)), (List.mem_of_getElem? (i := 534) (by decide +kernel)), ⟨_, rfl, rfl⟩⟩
theorem kC_X5_isCell : zMc yX5_isCell cX5_isCell 1 (some .boolean) 1 := ⟨(List.mem_of_getElem? (i := 38) (by decide +kernel)), (List.mem_of_getElem? (i := 359) (by decide +kernel)), by decide +kernel, by decide +kernel, by decide +kernel⟩
theorem kM_X2_108 : zMS RX2 108 yX5_isCell cX5_isCell 1 (some .boolean) 1 := ⟨kC_X5_isCell, Or.inr ⟨"ForgivenWork", (List.mem_of_getElem? (i := 537) (by decide +kernel))⟩, (List.mem_of_getElem? (i := 358) (by decide +kernel))⟩
theorem kC_X5_isRegretNumber : zMc yX5_isRegretNumber cX5_isRegretNumber 1 (some .boolean) 1 := ⟨(List.mem_of_getElem? (i := 38) (by decide +kernel)), (List.mem_of_getElem? (i := 366) (by decide +kernel)), by decide +kernel, by decide +kernel, by decide +kernel⟩
theorem kM_X2_111 : zMS RX2 111 yX5_isRegretNumber cX5_isRegretNumber 1 (some .boolean) 1 := ⟨kC_X5_isRegretNumber, Or.inr ⟨"ForgivenWork", (List.mem_of_getElem? (i := 538) (by decide +kernel))⟩, (List.mem_of_getElem? (i := 365) (by decide +kernel))⟩
theorem kC_X2_canRegret : zMc yX2_canRegret cX2_canRegret 4 (some .boolean) 2 := ⟨(List.mem_of_getElem? (i := 41) (by decide +kernel)), (List.mem_of_getElem? (i := 542) (by decide +kernel)), by decide +kernel, by decide +kernel, by decide +kernel⟩
theorem kM_X2_114 : zMV RX2 114 yX2_canRegret cX2_canRegret 4 (some .boolean) 2 2 := ⟨kC_X2_canRegret, (List.mem_of_getElem? (i := 539) (by decide +kernel)), (List.mem_of_getElem? (i := 540) (by decide +kernel)), (List.mem_of_getElem? (i := 541) (by decide +kernel)), ⟨_, rfl, rfl⟩⟩
theorem kC_X5_isValue : zMc yX5_isValue cX5_isValue 1 (some .boolean) 1 := ⟨(List.mem_of_getElem? (i := 38) (by decide +kernel)), (List.mem_of_getElem? (i := 554) (by decide +kernel)), by decide +kernel, by decide +kernel, by decide +kernel⟩
theorem kM_X2_118 : zMS RX2 118 yX5_isValue cX5_isValue 1 (some .boolean) 1 := ⟨kC_X5_isValue, Or.inr ⟨"ForgivenWork", (List.mem_of_getElem? (i := 552) (by decide +kernel))⟩, (List.mem_of_getElem? (i := 553) (by decide +kernel))⟩
theorem kC_X2_obstacle : zMc yX2_obstacle cX2_obstacle 4 (some .int) 2 := ⟨(List.mem_of_getElem? (i := 41) (by decide +kernel)), (List.mem_of_getElem? (i := 546) (by decide +kernel)), by decide +kernel, by decide +kernel, by decide +kernel⟩
theorem kM_X2_121 : zMV RX2 121 yX2_obstacle cX2_obstacle 4 (some .int) 2 2 := ⟨kC_X2_obstacle, (List.mem_of_getElem? (i := 543) (by decide +kernel)), (List.mem_of_getElem? (i := 544) (by decide +kernel)), (List.mem_of_getElem? (i := 545) (by decide +kernel)), ⟨_, rfl, rfl⟩⟩
theorem kC_X4_countRegrets : zMc yX4_countRegrets cX4_countRegrets 5 (some .int) 1 := ⟨(List.mem_of_getElem? (i := 44) (by decide +kernel)), (List.mem_of_getElem? (i := 551) (by decide +kernel)), by decide +kernel, by decide +kernel, by decide +kernel⟩
theorem kM_X2_124 : zMV RX2 124 yX4_countRegrets cX4_countRegrets 5 (some .int) 1 4 := ⟨kC_X4_countRegrets, (List.mem_of_getElem? (i := 548) (by decide +kernel)), (List.mem_of_getElem? (i := 549) (by decide +kernel)), (List.mem_of_getElem? (i := 550) (by decide +kernel)), ⟨_, rfl, rfl⟩⟩
theorem kC_X4_startWork : zMc yX4_startWork cX4_startWork 2 (some .int) 0 := ⟨(List.mem_of_getElem? (i := 44) (by decide +kernel)), (List.mem_of_getElem? (i := 562) (by decide +kernel)), by decide +kernel, by decide +kernel, by decide +kernel⟩
theorem kM_X2_127 : zMV RX2 127 yX4_startWork cX4_startWork 2 (some .int) 0 4 := ⟨kC_X4_startWork, (List.mem_of_getElem? (i := 559) (by decide +kernel)), (List.mem_of_getElem? (i := 560) (by decide +kernel)), (List.mem_of_getElem? (i := 561) (by decide +kernel)), ⟨_, rfl, rfl⟩⟩
theorem kC_X2_endWell : zMc yX2_endWell cX2_endWell 2 (some .int) 1 := ⟨(List.mem_of_getElem? (i := 41) (by decide +kernel)), (List.mem_of_getElem? (i := 566) (by decide +kernel)), by decide +kernel, by decide +kernel, by decide +kernel⟩
theorem kM_X2_131 : zMV RX2 131 yX2_endWell cX2_endWell 2 (some .int) 1 2 := ⟨kC_X2_endWell, (List.mem_of_getElem? (i := 563) (by decide +kernel)), (List.mem_of_getElem? (i := 564) (by decide +kernel)), (List.mem_of_getElem? (i := 565) (by decide +kernel)), ⟨_, rfl, rfl⟩⟩
theorem kC_X2_endBadly : zMc yX2_endBadly cX2_endBadly 4 (some .int) 1 := ⟨(List.mem_of_getElem? (i := 41) (by decide +kernel)), (List.mem_of_getElem? (i := 579) (by decide +kernel)), by decide +kernel, by decide +kernel, by decide +kernel⟩
theorem kM_X2_135 : zMV RX2 135 yX2_endBadly cX2_endBadly 4 (some .int) 1 2 := ⟨kC_X2_endBadly, (List.mem_of_getElem? (i := 576) (by decide +kernel)), (List.mem_of_getElem? (i := 577) (by decide +kernel)), (List.mem_of_getElem? (i := 578) (by decide +kernel)), ⟨_, rfl, rfl⟩⟩
theorem kC_X4_setPoint : zMc yX4_setPoint cX4_setPoint 1 (some .int) 0 := ⟨(List.mem_of_getElem? (i := 44) (by decide +kernel)), (List.mem_of_getElem? (i := 596) (by decide +kernel)), by decide +kernel, by decide +kernel, by decide +kernel⟩
theorem kM_X2_138 : zMV RX2 138 yX4_setPoint cX4_setPoint 1 (some .int) 0 4 := ⟨kC_X4_setPoint, (List.mem_of_getElem? (i := 593) (by decide +kernel)), (List.mem_of_getElem? (i := 594) (by decide +kernel)), (List.mem_of_getElem? (i := 595) (by decide +kernel)), ⟨_, rfl, rfl⟩⟩
theorem kC_X2_goBack : zMc yX2_goBack cX2_goBack 6 (some .int) 2 := ⟨(List.mem_of_getElem? (i := 41) (by decide +kernel)), (List.mem_of_getElem? (i := 601) (by decide +kernel)), by decide +kernel, by decide +kernel, by decide +kernel⟩
theorem kM_X2_141 : zMV RX2 141 yX2_goBack cX2_goBack 6 (some .int) 2 2 := ⟨kC_X2_goBack, (List.mem_of_getElem? (i := 598) (by decide +kernel)), (List.mem_of_getElem? (i := 599) (by decide +kernel)), (List.mem_of_getElem? (i := 600) (by decide +kernel)), ⟨_, rfl, rfl⟩⟩
theorem kC_X2_takeRegret : zMc yX2_takeRegret cX2_takeRegret 4 (some .int) 3 := ⟨(List.mem_of_getElem? (i := 41) (by decide +kernel)), (List.mem_of_getElem? (i := 606) (by decide +kernel)), by decide +kernel, by decide +kernel, by decide +kernel⟩
theorem kM_X2_144 : zMV RX2 144 yX2_takeRegret cX2_takeRegret 4 (some .int) 3 2 := ⟨kC_X2_takeRegret, (List.mem_of_getElem? (i := 603) (by decide +kernel)), (List.mem_of_getElem? (i := 604) (by decide +kernel)), (List.mem_of_getElem? (i := 605) (by decide +kernel)), ⟨_, rfl, rfl⟩⟩
theorem kC_X2_setValue : zMc yX2_setValue cX2_setValue 5 (some .int) 3 := ⟨(List.mem_of_getElem? (i := 41) (by decide +kernel)), (List.mem_of_getElem? (i := 610) (by decide +kernel)), by decide +kernel, by decide +kernel, by decide +kernel⟩
theorem kM_X2_148 : zMV RX2 148 yX2_setValue cX2_setValue 5 (some .int) 3 2 := ⟨kC_X2_setValue, (List.mem_of_getElem? (i := 607) (by decide +kernel)), (List.mem_of_getElem? (i := 608) (by decide +kernel)), (List.mem_of_getElem? (i := 609) (by decide +kernel)), ⟨_, rfl, rfl⟩⟩
theorem kC_X2_allows : zMc yX2_allows cX2_allows 5 (some .boolean) 4 := ⟨(List.mem_of_getElem? (i := 41) (by decide +kernel)), (List.mem_of_getElem? (i := 510) (by decide +kernel)), by decide +kernel, by decide +kernel, by decide +kernel⟩
theorem kM_X2_151 : zMV RX2 151 yX2_allows cX2_allows 5 (some .boolean) 4 2 := ⟨kC_X2_allows, (List.mem_of_getElem? (i := 507) (by decide +kernel)), (List.mem_of_getElem? (i := 508) (by decide +kernel)), (List.mem_of_getElem? (i := 509) (by decide +kernel)), ⟨_, rfl, rfl⟩⟩
theorem kC_X2_perform : zMc yX2_perform cX2_perform 5 (some .int) 4 := ⟨(List.mem_of_getElem? (i := 41) (by decide +kernel)), (List.mem_of_getElem? (i := 558) (by decide +kernel)), by decide +kernel, by decide +kernel, by decide +kernel⟩
theorem kM_X2_155 : zMV RX2 155 yX2_perform cX2_perform 5 (some .int) 4 2 := ⟨kC_X2_perform, (List.mem_of_getElem? (i := 555) (by decide +kernel)), (List.mem_of_getElem? (i := 556) (by decide +kernel)), (List.mem_of_getElem? (i := 557) (by decide +kernel)), ⟨_, rfl, rfl⟩⟩
theorem kF_X2_159 : zFL RX2 159 4 3 := ⟨_, _, _, rfl, by decide, zu_X4, Or.inr ⟨"ForgivenWork", (List.mem_of_getElem? (i := 170) (by decide +kernel))⟩⟩
theorem kC_X4_innermost : zMc yX4_innermost cX4_innermost 1 (some (.object "ForgivenWork$Work")) 0 := ⟨(List.mem_of_getElem? (i := 44) (by decide +kernel)), (List.mem_of_getElem? (i := 518) (by decide +kernel)), by decide +kernel, by decide +kernel, by decide +kernel⟩
theorem kM_X2_162 : zMV RX2 162 yX4_innermost cX4_innermost 1 (some (.object "ForgivenWork$Work")) 0 4 := ⟨kC_X4_innermost, (List.mem_of_getElem? (i := 580) (by decide +kernel)), (List.mem_of_getElem? (i := 516) (by decide +kernel)), (List.mem_of_getElem? (i := 517) (by decide +kernel)), ⟨_, rfl, rfl⟩⟩
theorem kF_X2_166 : zFL RX2 166 3 2 := ⟨_, _, _, rfl, by decide, zu_X3, Or.inr ⟨"ForgivenWork", (List.mem_of_getElem? (i := 143) (by decide +kernel))⟩⟩
theorem kF_X2_171 : zFL RX2 171 4 4 := ⟨_, _, _, rfl, by decide, zu_X4, Or.inr ⟨"ForgivenWork", (List.mem_of_getElem? (i := 172) (by decide +kernel))⟩⟩
theorem kC_X2_rollBack : zMc yX2_rollBack cX2_rollBack 5 none 2 := ⟨(List.mem_of_getElem? (i := 41) (by decide +kernel)), (List.mem_of_getElem? (i := 584) (by decide +kernel)), by decide +kernel, by decide +kernel, by decide +kernel⟩
theorem kM_X2_174 : zMV RX2 174 yX2_rollBack cX2_rollBack 5 none 2 2 := ⟨kC_X2_rollBack, (List.mem_of_getElem? (i := 581) (by decide +kernel)), (List.mem_of_getElem? (i := 582) (by decide +kernel)), (List.mem_of_getElem? (i := 583) (by decide +kernel)), ⟨_, rfl, rfl⟩⟩
theorem kF_X2_178 : zFL RX2 178 4 5 := ⟨_, _, _, rfl, by decide, zu_X4, Or.inr ⟨"ForgivenWork", (List.mem_of_getElem? (i := 174) (by decide +kernel))⟩⟩
theorem kC_X1_cutTo : zMc yX1_cutTo cX1_cutTo 2 none 1 := ⟨(List.mem_of_getElem? (i := 39) (by decide +kernel)), (List.mem_of_getElem? (i := 275) (by decide +kernel)), by decide +kernel, by decide +kernel, by decide +kernel⟩
theorem kM_X2_181 : zMV RX2 181 yX1_cutTo cX1_cutTo 2 none 1 1 := ⟨kC_X1_cutTo, (List.mem_of_getElem? (i := 575) (by decide +kernel)), (List.mem_of_getElem? (i := 273) (by decide +kernel)), (List.mem_of_getElem? (i := 274) (by decide +kernel)), ⟨_, rfl, rfl⟩⟩
theorem kC_X4_cutPoints : zMc yX4_cutPoints cX4_cutPoints 2 none 1 := ⟨(List.mem_of_getElem? (i := 44) (by decide +kernel)), (List.mem_of_getElem? (i := 490) (by decide +kernel)), by decide +kernel, by decide +kernel, by decide +kernel⟩
theorem kM_X2_184 : zMV RX2 184 yX4_cutPoints cX4_cutPoints 2 none 1 4 := ⟨kC_X4_cutPoints, (List.mem_of_getElem? (i := 602) (by decide +kernel)), (List.mem_of_getElem? (i := 488) (by decide +kernel)), (List.mem_of_getElem? (i := 489) (by decide +kernel)), ⟨_, rfl, rfl⟩⟩
theorem kC_X4_leaveWork : zMc yX4_leaveWork cX4_leaveWork 2 none 0 := ⟨(List.mem_of_getElem? (i := 44) (by decide +kernel)), (List.mem_of_getElem? (i := 570) (by decide +kernel)), by decide +kernel, by decide +kernel, by decide +kernel⟩
theorem kM_X2_187 : zMV RX2 187 yX4_leaveWork cX4_leaveWork 2 none 0 4 := ⟨kC_X4_leaveWork, (List.mem_of_getElem? (i := 567) (by decide +kernel)), (List.mem_of_getElem? (i := 568) (by decide +kernel)), (List.mem_of_getElem? (i := 569) (by decide +kernel)), ⟨_, rfl, rfl⟩⟩
theorem kC_X2_endAll : zMc yX2_endAll cX2_endAll 3 none 1 := ⟨(List.mem_of_getElem? (i := 41) (by decide +kernel)), (List.mem_of_getElem? (i := 574) (by decide +kernel)), by decide +kernel, by decide +kernel, by decide +kernel⟩
theorem kM_X2_190 : zMV RX2 190 yX2_endAll cX2_endAll 3 none 1 2 := ⟨kC_X2_endAll, (List.mem_of_getElem? (i := 571) (by decide +kernel)), (List.mem_of_getElem? (i := 572) (by decide +kernel)), (List.mem_of_getElem? (i := 573) (by decide +kernel)), ⟨_, rfl, rfl⟩⟩
theorem kF_X2_193 : zFL RX2 193 3 0 := ⟨_, _, _, rfl, by decide, zu_X3, Or.inr ⟨"ForgivenWork", (List.mem_of_getElem? (i := 137) (by decide +kernel))⟩⟩
theorem kF_X2_196 : zFL RX2 196 3 1 := ⟨_, _, _, rfl, by decide, zu_X3, Or.inr ⟨"ForgivenWork", (List.mem_of_getElem? (i := 140) (by decide +kernel))⟩⟩
theorem kC_X2_doRegrets : zMc yX2_doRegrets cX2_doRegrets 7 none 2 := ⟨(List.mem_of_getElem? (i := 41) (by decide +kernel)), (List.mem_of_getElem? (i := 588) (by decide +kernel)), by decide +kernel, by decide +kernel, by decide +kernel⟩
theorem kM_X2_199 : zMV RX2 199 yX2_doRegrets cX2_doRegrets 7 none 2 2 := ⟨kC_X2_doRegrets, (List.mem_of_getElem? (i := 585) (by decide +kernel)), (List.mem_of_getElem? (i := 586) (by decide +kernel)), (List.mem_of_getElem? (i := 587) (by decide +kernel)), ⟨_, rfl, rfl⟩⟩
theorem kC_X2_forgiveOrSpoil : zMc yX2_forgiveOrSpoil cX2_forgiveOrSpoil 2 (some .int) 1 := ⟨(List.mem_of_getElem? (i := 41) (by decide +kernel)), (List.mem_of_getElem? (i := 592) (by decide +kernel)), by decide +kernel, by decide +kernel, by decide +kernel⟩
theorem kM_X2_202 : zMV RX2 202 yX2_forgiveOrSpoil cX2_forgiveOrSpoil 2 (some .int) 1 2 := ⟨kC_X2_forgiveOrSpoil, (List.mem_of_getElem? (i := 589) (by decide +kernel)), (List.mem_of_getElem? (i := 590) (by decide +kernel)), (List.mem_of_getElem? (i := 591) (by decide +kernel)), ⟨_, rfl, rfl⟩⟩
theorem kF_X2_206 : zFL RX2 206 3 3 := ⟨_, _, _, rfl, by decide, zu_X3, Or.inr ⟨"ForgivenWork", (List.mem_of_getElem? (i := 147) (by decide +kernel))⟩⟩
theorem kP_X2_206 : zFP RX2 206 3 3 false .int := ⟨_, _, _, tyX3, rfl, by decide, zu_X3, Or.inr ⟨rfl, "ForgivenWork", (List.mem_of_getElem? (i := 147) (by decide +kernel))⟩, tyX3_ok, nmX3, rfl, (fun h => nomatch h), rfl⟩
theorem kP_X2_207 : zFP RX2 207 3 4 false .boolean := ⟨_, _, _, tyX3, rfl, by decide, zu_X3, Or.inr ⟨rfl, "ForgivenWork", (List.mem_of_getElem? (i := 151) (by decide +kernel))⟩, tyX3_ok, nmX3, rfl, (fun h => nomatch h), rfl⟩
theorem kF_X3_7 : zFL RX3 7 3 0 := ⟨_, _, _, rfl, by decide, zu_X3, Or.inl (List.mem_of_getElem? (i := 134) (by decide +kernel))⟩
theorem kP_X3_7 : zFP RX3 7 3 0 false .int := ⟨_, _, _, tyX3, rfl, by decide, zu_X3, Or.inl (List.mem_of_getElem? (i := 134) (by decide +kernel)), tyX3_ok, nmX3, rfl, (fun h => nomatch h), rfl⟩
theorem kF_X3_13 : zFL RX3 13 3 1 := ⟨_, _, _, rfl, by decide, zu_X3, Or.inl (List.mem_of_getElem? (i := 138) (by decide +kernel))⟩
theorem kP_X3_13 : zFP RX3 13 3 1 false .int := ⟨_, _, _, tyX3, rfl, by decide, zu_X3, Or.inl (List.mem_of_getElem? (i := 138) (by decide +kernel)), tyX3_ok, nmX3, rfl, (fun h => nomatch h), rfl⟩
theorem kF_X3_16 : zFL RX3 16 3 2 := ⟨_, _, _, rfl, by decide, zu_X3, Or.inl (List.mem_of_getElem? (i := 141) (by decide +kernel))⟩
theorem kP_X3_16 : zFP RX3 16 3 2 false .int := ⟨_, _, _, tyX3, rfl, by decide, zu_X3, Or.inl (List.mem_of_getElem? (i := 141) (by decide +kernel)), tyX3_ok, nmX3, rfl, (fun h => nomatch h), rfl⟩
theorem kF_X3_19 : zFL RX3 19 3 3 := ⟨_, _, _, rfl, by decide, zu_X3, Or.inl (List.mem_of_getElem? (i := 144) (by decide +kernel))⟩
theorem kP_X3_19 : zFP RX3 19 3 3 false .int := ⟨_, _, _, tyX3, rfl, by decide, zu_X3, Or.inl (List.mem_of_getElem? (i := 144) (by decide +kernel)), tyX3_ok, nmX3, rfl, (fun h => nomatch h), rfl⟩
theorem kF_X3_22 : zFL RX3 22 3 4 := ⟨_, _, _, rfl, by decide, zu_X3, Or.inl (List.mem_of_getElem? (i := 148) (by decide +kernel))⟩
theorem kP_X3_22 : zFP RX3 22 3 4 false .boolean := ⟨_, _, _, tyX3, rfl, by decide, zu_X3, Or.inl (List.mem_of_getElem? (i := 148) (by decide +kernel)), tyX3_ok, nmX3, rfl, (fun h => nomatch h), rfl⟩
theorem kN_X4_9 : zCN RX4 9 3 5 [.int (iI 0), .int (iI 0), .int (iI 0), .int (iI 0), .int (iI 0)] := ⟨_, _, tyX3, rfl, zu_X3, tyX3_ok, (List.mem_of_getElem? (i := 125) (by decide +kernel)), (List.mem_of_getElem? (i := 129) (by decide +kernel)), (List.mem_of_getElem? (i := 45) (by decide +kernel)), fun j hj => by rcases (show j = 0 ∨ j = 1 ∨ j = 2 ∨ j = 3 ∨ j = 4 by omega) with rfl | rfl | rfl | rfl | rfl <;> first | rfl | (rw [show defaultValue _ = Value.int 0 from rfl, iI_0]; rfl)⟩
theorem kF_X4_11 : zFL RX4 11 4 1 := ⟨_, _, _, rfl, by decide, zu_X4, Or.inl (List.mem_of_getElem? (i := 165) (by decide +kernel))⟩
theorem kP_X4_11 : zFP RX4 11 4 1 true (.array (.object "ForgivenWork$Work")) := ⟨_, _, _, tyX4, rfl, by decide, zu_X4, Or.inl (List.mem_of_getElem? (i := 165) (by decide +kernel)), tyX4_ok, nmX4, rfl, fun _ => rfl, rfl⟩
theorem kN_X4_17 : zCN RX4 17 1 3 [.int (iI 0), .null, .int (iI 0)] := ⟨_, _, tyX1, rfl, zu_X1, tyX1_ok, (List.mem_of_getElem? (i := 127) (by decide +kernel)), (List.mem_of_getElem? (i := 67) (by decide +kernel)), (List.mem_of_getElem? (i := 39) (by decide +kernel)), fun j hj => by rcases (show j = 0 ∨ j = 1 ∨ j = 2 by omega) with rfl | rfl | rfl <;> first | rfl | (rw [show defaultValue _ = Value.int 0 from rfl, iI_0]; rfl)⟩
theorem kM_X4_19 : zMI RX4 19 yX1_init cX1_init 3 2 := ⟨kC_X1_init, Or.inl (List.mem_of_getElem? (i := 128) (by decide +kernel)), (List.mem_of_getElem? (i := 69) (by decide +kernel)), rfl⟩
theorem kF_X4_22 : zFL RX4 22 4 2 := ⟨_, _, _, rfl, by decide, zu_X4, Or.inl (List.mem_of_getElem? (i := 166) (by decide +kernel))⟩
theorem kP_X4_22 : zFP RX4 22 4 2 true (.object "ForgivenWork$Row") := ⟨_, _, _, tyX4, rfl, by decide, zu_X4, Or.inl (List.mem_of_getElem? (i := 166) (by decide +kernel)), tyX4_ok, nmX4, rfl, fun _ => rfl, rfl⟩
theorem kF_X4_26 : zFL RX4 26 4 3 := ⟨_, _, _, rfl, by decide, zu_X4, Or.inl (List.mem_of_getElem? (i := 169) (by decide +kernel))⟩
theorem kP_X4_26 : zFP RX4 26 4 3 true (.object "ForgivenWork$Row") := ⟨_, _, _, tyX4, rfl, by decide, zu_X4, Or.inl (List.mem_of_getElem? (i := 169) (by decide +kernel)), tyX4_ok, nmX4, rfl, fun _ => rfl, rfl⟩
theorem kF_X4_29 : zFL RX4 29 4 4 := ⟨_, _, _, rfl, by decide, zu_X4, Or.inl (List.mem_of_getElem? (i := 171) (by decide +kernel))⟩
theorem kP_X4_29 : zFP RX4 29 4 4 true (.object "ForgivenWork$Row") := ⟨_, _, _, tyX4, rfl, by decide, zu_X4, Or.inl (List.mem_of_getElem? (i := 171) (by decide +kernel)), tyX4_ok, nmX4, rfl, fun _ => rfl, rfl⟩
theorem kF_X4_32 : zFL RX4 32 4 5 := ⟨_, _, _, rfl, by decide, zu_X4, Or.inl (List.mem_of_getElem? (i := 173) (by decide +kernel))⟩
theorem kP_X4_32 : zFP RX4 32 4 5 true (.object "ForgivenWork$Row") := ⟨_, _, _, tyX4, rfl, by decide, zu_X4, Or.inl (List.mem_of_getElem? (i := 173) (by decide +kernel)), tyX4_ok, nmX4, rfl, fun _ => rfl, rfl⟩
theorem kP_X4_35 : zFP RX4 35 4 0 true .int := ⟨_, _, _, tyX4, rfl, by decide, zu_X4, Or.inl (List.mem_of_getElem? (i := 163) (by decide +kernel)), tyX4_ok, nmX4, rfl, fun _ => rfl, rfl⟩
theorem kC_X3_init : zMc yX3_init cX3_init 1 none 0 := ⟨(List.mem_of_getElem? (i := 45) (by decide +kernel)), (List.mem_of_getElem? (i := 132) (by decide +kernel)), by decide +kernel, by decide +kernel, by decide +kernel⟩
theorem kM_X4_39 : zMI RX4 39 yX3_init cX3_init 1 0 := ⟨kC_X3_init, Or.inr ⟨"ForgivenWork", (List.mem_of_getElem? (i := 130) (by decide +kernel))⟩, (List.mem_of_getElem? (i := 131) (by decide +kernel)), rfl⟩
theorem kF_X4_40 : zFL RX4 40 4 6 := ⟨_, _, _, rfl, by decide, zu_X4, Or.inl (List.mem_of_getElem? (i := 175) (by decide +kernel))⟩
theorem kP_X4_40 : zFP RX4 40 4 6 false .int := ⟨_, _, _, tyX4, rfl, by decide, zu_X4, Or.inl (List.mem_of_getElem? (i := 175) (by decide +kernel)), tyX4_ok, nmX4, rfl, (fun h => nomatch h), rfl⟩
theorem kM_X4_43 : zMV RX4 43 yX1_cutTo cX1_cutTo 2 none 1 1 := ⟨kC_X1_cutTo, (List.mem_of_getElem? (i := 486) (by decide +kernel)), (List.mem_of_getElem? (i := 273) (by decide +kernel)), (List.mem_of_getElem? (i := 274) (by decide +kernel)), ⟨_, rfl, rfl⟩⟩
theorem kM_X4_47 : zMV RX4 47 yX4_cutPoints cX4_cutPoints 2 none 1 4 := ⟨kC_X4_cutPoints, (List.mem_of_getElem? (i := 487) (by decide +kernel)), (List.mem_of_getElem? (i := 488) (by decide +kernel)), (List.mem_of_getElem? (i := 489) (by decide +kernel)), ⟨_, rfl, rfl⟩⟩
theorem kF_X4_50 : zFL RX4 50 4 7 := ⟨_, _, _, rfl, by decide, zu_X4, Or.inl (List.mem_of_getElem? (i := 178) (by decide +kernel))⟩
theorem kP_X4_50 : zFP RX4 50 4 7 false .int := ⟨_, _, _, tyX4, rfl, by decide, zu_X4, Or.inl (List.mem_of_getElem? (i := 178) (by decide +kernel)), tyX4_ok, nmX4, rfl, (fun h => nomatch h), rfl⟩
theorem kF_X4_53 : zFL RX4 53 4 8 := ⟨_, _, _, rfl, by decide, zu_X4, Or.inl (List.mem_of_getElem? (i := 180) (by decide +kernel))⟩
theorem kP_X4_53 : zFP RX4 53 4 8 false .int := ⟨_, _, _, tyX4, rfl, by decide, zu_X4, Or.inl (List.mem_of_getElem? (i := 180) (by decide +kernel)), tyX4_ok, nmX4, rfl, (fun h => nomatch h), rfl⟩
theorem kM_X4_56 : zMV RX4 56 yX1_copyFrom cX1_copyFrom 2 none 1 1 := ⟨kC_X1_copyFrom, (List.mem_of_getElem? (i := 735) (by decide +kernel)), (List.mem_of_getElem? (i := 725) (by decide +kernel)), (List.mem_of_getElem? (i := 726) (by decide +kernel)), ⟨_, rfl, rfl⟩⟩
theorem kC_X4_workAt : zMc yX4_workAt cX4_workAt 2 (some (.object "ForgivenWork$Work")) 1 := ⟨(List.mem_of_getElem? (i := 44) (by decide +kernel)), (List.mem_of_getElem? (i := 531) (by decide +kernel)), by decide +kernel, by decide +kernel, by decide +kernel⟩
theorem kM_X4_60 : zMV RX4 60 yX4_workAt cX4_workAt 2 (some (.object "ForgivenWork$Work")) 1 4 := ⟨kC_X4_workAt, (List.mem_of_getElem? (i := 528) (by decide +kernel)), (List.mem_of_getElem? (i := 529) (by decide +kernel)), (List.mem_of_getElem? (i := 530) (by decide +kernel)), ⟨_, rfl, rfl⟩⟩
theorem kC_X3_copyFrom : zMc yX3_copyFrom cX3_copyFrom 2 none 1 := ⟨(List.mem_of_getElem? (i := 45) (by decide +kernel)), (List.mem_of_getElem? (i := 739) (by decide +kernel)), by decide +kernel, by decide +kernel, by decide +kernel⟩
theorem kM_X4_64 : zMV RX4 64 yX3_copyFrom cX3_copyFrom 2 none 1 3 := ⟨kC_X3_copyFrom, (List.mem_of_getElem? (i := 736) (by decide +kernel)), (List.mem_of_getElem? (i := 737) (by decide +kernel)), (List.mem_of_getElem? (i := 738) (by decide +kernel)), ⟨_, rfl, rfl⟩⟩
theorem kM_X4_67 : zMV RX4 67 yX4_innermost cX4_innermost 1 (some (.object "ForgivenWork$Work")) 0 4 := ⟨kC_X4_innermost, (List.mem_of_getElem? (i := 515) (by decide +kernel)), (List.mem_of_getElem? (i := 516) (by decide +kernel)), (List.mem_of_getElem? (i := 517) (by decide +kernel)), ⟨_, rfl, rfl⟩⟩
theorem kF_X4_71 : zFL RX4 71 3 4 := ⟨_, _, _, rfl, by decide, zu_X3, Or.inr ⟨"ForgivenWork", (List.mem_of_getElem? (i := 149) (by decide +kernel))⟩⟩
theorem kP_X4_71 : zFP RX4 71 3 4 false .boolean := ⟨_, _, _, tyX3, rfl, by decide, zu_X3, Or.inr ⟨rfl, "ForgivenWork", (List.mem_of_getElem? (i := 149) (by decide +kernel))⟩, tyX3_ok, nmX3, rfl, (fun h => nomatch h), rfl⟩
theorem kM_X4_75 : zMV RX4 75 yX4_isSpoiled cX4_isSpoiled 2 (some .boolean) 0 4 := ⟨kC_X4_isSpoiled, (List.mem_of_getElem? (i := 523) (by decide +kernel)), (List.mem_of_getElem? (i := 512) (by decide +kernel)), (List.mem_of_getElem? (i := 513) (by decide +kernel)), ⟨_, rfl, rfl⟩⟩
theorem kF_X4_79 : zFL RX4 79 1 2 := ⟨_, _, _, rfl, by decide, zu_X1, Or.inr ⟨"ForgivenWork", (List.mem_of_getElem? (i := 80) (by decide +kernel))⟩⟩
theorem kF_X4_82 : zFL RX4 82 3 2 := ⟨_, _, _, rfl, by decide, zu_X3, Or.inr ⟨"ForgivenWork", (List.mem_of_getElem? (i := 142) (by decide +kernel))⟩⟩
theorem kP_X4_82 : zFP RX4 82 3 2 false .int := ⟨_, _, _, tyX3, rfl, by decide, zu_X3, Or.inr ⟨rfl, "ForgivenWork", (List.mem_of_getElem? (i := 142) (by decide +kernel))⟩, tyX3_ok, nmX3, rfl, (fun h => nomatch h), rfl⟩
theorem kF_X4_85 : zFL RX4 85 3 1 := ⟨_, _, _, rfl, by decide, zu_X3, Or.inr ⟨"ForgivenWork", (List.mem_of_getElem? (i := 139) (by decide +kernel))⟩⟩
theorem kP_X4_85 : zFP RX4 85 3 1 false .int := ⟨_, _, _, tyX3, rfl, by decide, zu_X3, Or.inr ⟨rfl, "ForgivenWork", (List.mem_of_getElem? (i := 139) (by decide +kernel))⟩, tyX3_ok, nmX3, rfl, (fun h => nomatch h), rfl⟩
theorem kM_X4_88 : zMV RX4 88 yX4_countPoints cX4_countPoints 5 (some .int) 1 4 := ⟨kC_X4_countPoints, (List.mem_of_getElem? (i := 536) (by decide +kernel)), (List.mem_of_getElem? (i := 525) (by decide +kernel)), (List.mem_of_getElem? (i := 526) (by decide +kernel)), ⟨_, rfl, rfl⟩⟩
theorem kP_X4_92 : zFP RX4 92 3 0 false .int := ⟨_, _, _, tyX3, rfl, by decide, zu_X3, Or.inr ⟨rfl, "ForgivenWork", (List.mem_of_getElem? (i := 136) (by decide +kernel))⟩, tyX3_ok, nmX3, rfl, (fun h => nomatch h), rfl⟩
theorem kP_X4_95 : zFP RX4 95 3 3 false .int := ⟨_, _, _, tyX3, rfl, by decide, zu_X3, Or.inr ⟨rfl, "ForgivenWork", (List.mem_of_getElem? (i := 146) (by decide +kernel))⟩, tyX3_ok, nmX3, rfl, (fun h => nomatch h), rfl⟩
theorem kM_X4_98 : zMV RX4 98 yX1_push cX1_push 2 none 1 1 := ⟨kC_X1_push, (List.mem_of_getElem? (i := 597) (by decide +kernel)), (List.mem_of_getElem? (i := 100) (by decide +kernel)), (List.mem_of_getElem? (i := 101) (by decide +kernel)), ⟨_, rfl, rfl⟩⟩
theorem kN_X5_7 : zCN RX5 7 1 3 [.int (iI 0), .null, .int (iI 0)] := ⟨_, _, tyX1, rfl, zu_X1, tyX1_ok, (List.mem_of_getElem? (i := 66) (by decide +kernel)), (List.mem_of_getElem? (i := 67) (by decide +kernel)), (List.mem_of_getElem? (i := 39) (by decide +kernel)), fun j hj => by rcases (show j = 0 ∨ j = 1 ∨ j = 2 by omega) with rfl | rfl | rfl <;> first | rfl | (rw [show defaultValue _ = Value.int 0 from rfl, iI_0]; rfl)⟩
theorem kM_X5_11 : zMI RX5 11 yX1_init cX1_init 3 2 := ⟨kC_X1_init, Or.inl (List.mem_of_getElem? (i := 68) (by decide +kernel)), (List.mem_of_getElem? (i := 69) (by decide +kernel)), rfl⟩
theorem kF_X5_14 : zFL RX5 14 5 0 := ⟨_, _, _, rfl, by decide, zu_X5, Or.inl (List.mem_of_getElem? (i := 248) (by decide +kernel))⟩
theorem kP_X5_14 : zFP RX5 14 5 0 true (.object "ForgivenWork$Row") := ⟨_, _, _, tyX5, rfl, by decide, zu_X5, Or.inl (List.mem_of_getElem? (i := 248) (by decide +kernel)), tyX5_ok, nmX5, rfl, fun _ => rfl, rfl⟩
theorem kN_X5_18 : zCN RX5 18 2 7 [.null, .null, .null, .int (iI 0), .int (iI 0), .int (iI 0), .int (iI 0)] := ⟨_, _, tyX2, rfl, zu_X2, tyX2_ok, (List.mem_of_getElem? (i := 89) (by decide +kernel)), (List.mem_of_getElem? (i := 90) (by decide +kernel)), (List.mem_of_getElem? (i := 41) (by decide +kernel)), fun j hj => by rcases (show j = 0 ∨ j = 1 ∨ j = 2 ∨ j = 3 ∨ j = 4 ∨ j = 5 ∨ j = 6 by omega) with rfl | rfl | rfl | rfl | rfl | rfl | rfl <;> first | rfl | (rw [show defaultValue _ = Value.int 0 from rfl, iI_0]; rfl)⟩
theorem kM_X5_20 : zMI RX5 20 yX2_init cX2_init 2 0 := ⟨kC_X2_init, Or.inl (List.mem_of_getElem? (i := 91) (by decide +kernel)), (List.mem_of_getElem? (i := 92) (by decide +kernel)), rfl⟩
theorem kF_X5_21 : zFL RX5 21 5 1 := ⟨_, _, _, rfl, by decide, zu_X5, Or.inl (List.mem_of_getElem? (i := 249) (by decide +kernel))⟩
theorem kP_X5_21 : zFP RX5 21 5 1 true (.object "ForgivenWork$State") := ⟨_, _, _, tyX5, rfl, by decide, zu_X5, Or.inl (List.mem_of_getElem? (i := 249) (by decide +kernel)), tyX5_ok, nmX5, rfl, fun _ => rfl, rfl⟩
theorem kF_X5_25 : zFL RX5 25 5 2 := ⟨_, _, _, rfl, by decide, zu_X5, Or.inl (List.mem_of_getElem? (i := 250) (by decide +kernel))⟩
theorem kP_X5_25 : zFP RX5 25 5 2 true (.object "ForgivenWork$State") := ⟨_, _, _, tyX5, rfl, by decide, zu_X5, Or.inl (List.mem_of_getElem? (i := 250) (by decide +kernel)), tyX5_ok, nmX5, rfl, fun _ => rfl, rfl⟩
theorem kN_X5_28 : zCN RX5 28 0 3 [.null, .int (iI 0), .int (iI 0)] := ⟨_, _, tyX0, rfl, zu_X0, tyX0_ok, (List.mem_of_getElem? (i := 229) (by decide +kernel)), (List.mem_of_getElem? (i := 230) (by decide +kernel)), (List.mem_of_getElem? (i := 46) (by decide +kernel)), fun j hj => by rcases (show j = 0 ∨ j = 1 ∨ j = 2 by omega) with rfl | rfl | rfl <;> first | rfl | (rw [show defaultValue _ = Value.int 0 from rfl, iI_0]; rfl)⟩
theorem kC_X0_init : zMc yX0_init cX0_init 1 none 0 := ⟨(List.mem_of_getElem? (i := 46) (by decide +kernel)), (List.mem_of_getElem? (i := 233) (by decide +kernel)), by decide +kernel, by decide +kernel, by decide +kernel⟩
theorem kM_X5_30 : zMI RX5 30 yX0_init cX0_init 1 0 := ⟨kC_X0_init, Or.inr ⟨"ForgivenWork", (List.mem_of_getElem? (i := 231) (by decide +kernel))⟩, (List.mem_of_getElem? (i := 232) (by decide +kernel)), rfl⟩
theorem kF_X5_31 : zFL RX5 31 5 3 := ⟨_, _, _, rfl, by decide, zu_X5, Or.inl (List.mem_of_getElem? (i := 251) (by decide +kernel))⟩
theorem kP_X5_31 : zFP RX5 31 5 3 true (.object "ForgivenWork$History") := ⟨_, _, _, tyX5, rfl, by decide, zu_X5, Or.inl (List.mem_of_getElem? (i := 251) (by decide +kernel)), tyX5_ok, nmX5, rfl, fun _ => rfl, rfl⟩
theorem kF_X5_35 : zFL RX5 35 5 4 := ⟨_, _, _, rfl, by decide, zu_X5, Or.inl (List.mem_of_getElem? (i := 252) (by decide +kernel))⟩
theorem kP_X5_35 : zFP RX5 35 5 4 true (.array (.object "ForgivenWork$State")) := ⟨_, _, _, tyX5, rfl, by decide, zu_X5, Or.inl (List.mem_of_getElem? (i := 252) (by decide +kernel)), tyX5_ok, nmX5, rfl, fun _ => rfl, rfl⟩
theorem kF_X5_39 : zFL RX5 39 5 5 := ⟨_, _, _, rfl, by decide, zu_X5, Or.inl (List.mem_of_getElem? (i := 253) (by decide +kernel))⟩
theorem kP_X5_39 : zFP RX5 39 5 5 true (.array .boolean) := ⟨_, _, _, tyX5, rfl, by decide, zu_X5, Or.inl (List.mem_of_getElem? (i := 253) (by decide +kernel)), tyX5_ok, nmX5, rfl, fun _ => rfl, rfl⟩
theorem kF_X5_50 : zFL RX5 50 1 2 := ⟨_, _, _, rfl, by decide, zu_X1, Or.inr ⟨"ForgivenWork", (List.mem_of_getElem? (i := 78) (by decide +kernel))⟩⟩
theorem kM_X5_59 : zMV RX5 59 yX1_push cX1_push 2 none 1 1 := ⟨kC_X1_push, (List.mem_of_getElem? (i := 460) (by decide +kernel)), (List.mem_of_getElem? (i := 100) (by decide +kernel)), (List.mem_of_getElem? (i := 101) (by decide +kernel)), ⟨_, rfl, rfl⟩⟩
theorem kM_X5_63 : zMV RX5 63 yX1_cutTo cX1_cutTo 2 none 1 1 := ⟨kC_X1_cutTo, (List.mem_of_getElem? (i := 272) (by decide +kernel)), (List.mem_of_getElem? (i := 273) (by decide +kernel)), (List.mem_of_getElem? (i := 274) (by decide +kernel)), ⟨_, rfl, rfl⟩⟩
theorem kM_X5_66 : zMV RX5 66 yX1_get cX1_get 2 (some .int) 1 1 := ⟨kC_X1_get, (List.mem_of_getElem? (i := 280) (by decide +kernel)), (List.mem_of_getElem? (i := 281) (by decide +kernel)), (List.mem_of_getElem? (i := 282) (by decide +kernel)), ⟨_, rfl, rfl⟩⟩
theorem kC_X5_shapeOf : zMc yX5_shapeOf cX5_shapeOf 1 (some (.object "java/lang/String")) 1 := ⟨(List.mem_of_getElem? (i := 38) (by decide +kernel)), (List.mem_of_getElem? (i := 286) (by decide +kernel)), by decide +kernel, by decide +kernel, by decide +kernel⟩
theorem kM_X5_70 : zMS RX5 70 yX5_shapeOf cX5_shapeOf 1 (some (.object "java/lang/String")) 1 := ⟨kC_X5_shapeOf, Or.inl (List.mem_of_getElem? (i := 284) (by decide +kernel)), (List.mem_of_getElem? (i := 285) (by decide +kernel))⟩
theorem kC_J0_isEmpty_aae02 : zMc yJ0_isEmpty_aae02 cJ0_isEmpty_aae02 1 (some .boolean) 0 := ⟨(List.mem_of_getElem? (i := 53) (by decide +kernel)), (List.mem_of_getElem? (i := 296) (by decide +kernel)), by decide +kernel, by decide +kernel, by decide +kernel⟩
theorem kC_X5_countFitting : zMc yX5_countFitting cX5_countFitting 5 (some .int) 2 := ⟨(List.mem_of_getElem? (i := 38) (by decide +kernel)), (List.mem_of_getElem? (i := 300) (by decide +kernel)), by decide +kernel, by decide +kernel, by decide +kernel⟩
theorem kM_X5_80 : zMV RX5 80 yX5_countFitting cX5_countFitting 5 (some .int) 2 5 := ⟨kC_X5_countFitting, (List.mem_of_getElem? (i := 297) (by decide +kernel)), (List.mem_of_getElem? (i := 299) (by decide +kernel)), (List.mem_of_getElem? (i := 0) (by decide +kernel)), ⟨_, rfl, rfl⟩⟩
theorem kC_J0_length_8abf5 : zMc yJ0_length_8abf5 cJ0_length_8abf5 1 (some .int) 0 := ⟨(List.mem_of_getElem? (i := 53) (by decide +kernel)), (List.mem_of_getElem? (i := 304) (by decide +kernel)), by decide +kernel, by decide +kernel, by decide +kernel⟩
theorem kC_X5_errorPosition : zMc yX5_errorPosition cX5_errorPosition 4 (some .int) 0 := ⟨(List.mem_of_getElem? (i := 38) (by decide +kernel)), (List.mem_of_getElem? (i := 279) (by decide +kernel)), by decide +kernel, by decide +kernel, by decide +kernel⟩
theorem kM_X5_88 : zMV RX5 88 yX5_errorPosition cX5_errorPosition 4 (some .int) 0 5 := ⟨kC_X5_errorPosition, (List.mem_of_getElem? (i := 468) (by decide +kernel)), (List.mem_of_getElem? (i := 277) (by decide +kernel)), (List.mem_of_getElem? (i := 278) (by decide +kernel)), ⟨_, rfl, rfl⟩⟩
theorem kC_X2_clear : zMc yX2_clear cX2_clear 3 none 0 := ⟨(List.mem_of_getElem? (i := 41) (by decide +kernel)), (List.mem_of_getElem? (i := 473) (by decide +kernel)), by decide +kernel, by decide +kernel, by decide +kernel⟩
theorem kM_X5_93 : zMV RX5 93 yX2_clear cX2_clear 3 none 0 2 := ⟨kC_X2_clear, (List.mem_of_getElem? (i := 470) (by decide +kernel)), (List.mem_of_getElem? (i := 471) (by decide +kernel)), (List.mem_of_getElem? (i := 472) (by decide +kernel)), ⟨_, rfl, rfl⟩⟩
theorem kC_X0_forgetAll : zMc yX0_forgetAll cX0_forgetAll 1 none 0 := ⟨(List.mem_of_getElem? (i := 46) (by decide +kernel)), (List.mem_of_getElem? (i := 494) (by decide +kernel)), by decide +kernel, by decide +kernel, by decide +kernel⟩
theorem kM_X5_96 : zMV RX5 96 yX0_forgetAll cX0_forgetAll 1 none 0 0 := ⟨kC_X0_forgetAll, (List.mem_of_getElem? (i := 491) (by decide +kernel)), (List.mem_of_getElem? (i := 492) (by decide +kernel)), (List.mem_of_getElem? (i := 493) (by decide +kernel)), ⟨_, rfl, rfl⟩⟩
theorem kC_X5_emptySlots : zMc yX5_emptySlots cX5_emptySlots 2 none 0 := ⟨(List.mem_of_getElem? (i := 38) (by decide +kernel)), (List.mem_of_getElem? (i := 498) (by decide +kernel)), by decide +kernel, by decide +kernel, by decide +kernel⟩
theorem kM_X5_99 : zMV RX5 99 yX5_emptySlots cX5_emptySlots 2 none 0 5 := ⟨kC_X5_emptySlots, (List.mem_of_getElem? (i := 495) (by decide +kernel)), (List.mem_of_getElem? (i := 497) (by decide +kernel)), (List.mem_of_getElem? (i := 5) (by decide +kernel)), ⟨_, rfl, rfl⟩⟩
theorem kC_X5_obeyText : zMc yX5_obeyText cX5_obeyText 4 (some .boolean) 1 := ⟨(List.mem_of_getElem? (i := 38) (by decide +kernel)), (List.mem_of_getElem? (i := 502) (by decide +kernel)), by decide +kernel, by decide +kernel, by decide +kernel⟩
theorem kM_X5_102 : zMV RX5 102 yX5_obeyText cX5_obeyText 4 (some .boolean) 1 5 := ⟨kC_X5_obeyText, (List.mem_of_getElem? (i := 499) (by decide +kernel)), (List.mem_of_getElem? (i := 501) (by decide +kernel)), (List.mem_of_getElem? (i := 6) (by decide +kernel)), ⟨_, rfl, rfl⟩⟩
theorem kC_X2_sumOfValues : zMc yX2_sumOfValues cX2_sumOfValues 3 (some .int) 0 := ⟨(List.mem_of_getElem? (i := 41) (by decide +kernel)), (List.mem_of_getElem? (i := 621) (by decide +kernel)), by decide +kernel, by decide +kernel, by decide +kernel⟩
theorem kM_X5_106 : zMV RX5 106 yX2_sumOfValues cX2_sumOfValues 3 (some .int) 0 2 := ⟨kC_X2_sumOfValues, (List.mem_of_getElem? (i := 618) (by decide +kernel)), (List.mem_of_getElem? (i := 619) (by decide +kernel)), (List.mem_of_getElem? (i := 620) (by decide +kernel)), ⟨_, rfl, rfl⟩⟩
theorem kC_X2_sumOfWorkers : zMc yX2_sumOfWorkers cX2_sumOfWorkers 5 (some .int) 1 := ⟨(List.mem_of_getElem? (i := 41) (by decide +kernel)), (List.mem_of_getElem? (i := 625) (by decide +kernel)), by decide +kernel, by decide +kernel, by decide +kernel⟩
theorem kM_X5_109 : zMV RX5 109 yX2_sumOfWorkers cX2_sumOfWorkers 5 (some .int) 1 2 := ⟨kC_X2_sumOfWorkers, (List.mem_of_getElem? (i := 622) (by decide +kernel)), (List.mem_of_getElem? (i := 623) (by decide +kernel)), (List.mem_of_getElem? (i := 624) (by decide +kernel)), ⟨_, rfl, rfl⟩⟩
theorem kF_X5_112 : zFL RX5 112 2 4 := ⟨_, _, _, rfl, by decide, zu_X2, Or.inr ⟨"ForgivenWork", (List.mem_of_getElem? (i := 209) (by decide +kernel))⟩⟩
theorem kF_X5_115 : zFL RX5 115 2 3 := ⟨_, _, _, rfl, by decide, zu_X2, Or.inr ⟨"ForgivenWork", (List.mem_of_getElem? (i := 207) (by decide +kernel))⟩⟩
theorem kP_X5_115 : zFP RX5 115 2 3 false .int := ⟨_, _, _, tyX2, rfl, by decide, zu_X2, Or.inr ⟨rfl, "ForgivenWork", (List.mem_of_getElem? (i := 207) (by decide +kernel))⟩, tyX2_ok, nmX2, rfl, (fun h => nomatch h), rfl⟩
theorem kF_X5_118 : zFL RX5 118 2 5 := ⟨_, _, _, rfl, by decide, zu_X2, Or.inr ⟨"ForgivenWork", (List.mem_of_getElem? (i := 211) (by decide +kernel))⟩⟩
theorem kF_X5_121 : zFL RX5 121 2 6 := ⟨_, _, _, rfl, by decide, zu_X2, Or.inr ⟨"ForgivenWork", (List.mem_of_getElem? (i := 213) (by decide +kernel))⟩⟩
theorem kC_X5_requireCell : zMc yX5_requireCell cX5_requireCell 1 none 1 := ⟨(List.mem_of_getElem? (i := 38) (by decide +kernel)), (List.mem_of_getElem? (i := 645) (by decide +kernel)), by decide +kernel, by decide +kernel, by decide +kernel⟩
theorem kM_X5_126 : zMS RX5 126 yX5_requireCell cX5_requireCell 1 none 1 := ⟨kC_X5_requireCell, Or.inl (List.mem_of_getElem? (i := 643) (by decide +kernel)), (List.mem_of_getElem? (i := 644) (by decide +kernel))⟩
theorem kF_X5_129 : zFL RX5 129 2 0 := ⟨_, _, _, rfl, by decide, zu_X2, Or.inr ⟨"ForgivenWork", (List.mem_of_getElem? (i := 202) (by decide +kernel))⟩⟩
theorem kF_X5_132 : zFL RX5 132 2 1 := ⟨_, _, _, rfl, by decide, zu_X2, Or.inr ⟨"ForgivenWork", (List.mem_of_getElem? (i := 204) (by decide +kernel))⟩⟩
theorem kC_X2_oldestValue : zMc yX2_oldestValue cX2_oldestValue 5 (some .int) 1 := ⟨(List.mem_of_getElem? (i := 41) (by decide +kernel)), (List.mem_of_getElem? (i := 665) (by decide +kernel)), by decide +kernel, by decide +kernel, by decide +kernel⟩
theorem kM_X5_135 : zMV RX5 135 yX2_oldestValue cX2_oldestValue 5 (some .int) 1 2 := ⟨kC_X2_oldestValue, (List.mem_of_getElem? (i := 662) (by decide +kernel)), (List.mem_of_getElem? (i := 663) (by decide +kernel)), (List.mem_of_getElem? (i := 664) (by decide +kernel)), ⟨_, rfl, rfl⟩⟩
theorem kC_X5_existingWorker : zMc yX5_existingWorker cX5_existingWorker 3 (some (.object "ForgivenWork$Worker")) 1 := ⟨(List.mem_of_getElem? (i := 38) (by decide +kernel)), (List.mem_of_getElem? (i := 677) (by decide +kernel)), by decide +kernel, by decide +kernel, by decide +kernel⟩
theorem kM_X5_140 : zMV RX5 140 yX5_existingWorker cX5_existingWorker 3 (some (.object "ForgivenWork$Worker")) 1 5 := ⟨kC_X5_existingWorker, (List.mem_of_getElem? (i := 674) (by decide +kernel)), (List.mem_of_getElem? (i := 676) (by decide +kernel)), (List.mem_of_getElem? (i := 7) (by decide +kernel)), ⟨_, rfl, rfl⟩⟩
theorem kM_X5_146 : zMV RX5 146 yX2_numberOfWorker cX2_numberOfWorker 3 (some .int) 2 2 := ⟨kC_X2_numberOfWorker, (List.mem_of_getElem? (i := 681) (by decide +kernel)), (List.mem_of_getElem? (i := 627) (by decide +kernel)), (List.mem_of_getElem? (i := 628) (by decide +kernel)), ⟨_, rfl, rfl⟩⟩
theorem kM_X5_150 : zMV RX5 150 yX4_workAt cX4_workAt 2 (some (.object "ForgivenWork$Work")) 1 4 := ⟨kC_X4_workAt, (List.mem_of_getElem? (i := 689) (by decide +kernel)), (List.mem_of_getElem? (i := 529) (by decide +kernel)), (List.mem_of_getElem? (i := 530) (by decide +kernel)), ⟨_, rfl, rfl⟩⟩
theorem kF_X5_161 : zFL RX5 161 3 0 := ⟨_, _, _, rfl, by decide, zu_X3, Or.inr ⟨"ForgivenWork", (List.mem_of_getElem? (i := 135) (by decide +kernel))⟩⟩
theorem kM_X5_166 : zMV RX5 166 yX4_countPoints cX4_countPoints 5 (some .int) 1 4 := ⟨kC_X4_countPoints, (List.mem_of_getElem? (i := 691) (by decide +kernel)), (List.mem_of_getElem? (i := 525) (by decide +kernel)), (List.mem_of_getElem? (i := 526) (by decide +kernel)), ⟨_, rfl, rfl⟩⟩
theorem kM_X5_169 : zMV RX5 169 yX4_countRegrets cX4_countRegrets 5 (some .int) 1 4 := ⟨kC_X4_countRegrets, (List.mem_of_getElem? (i := 692) (by decide +kernel)), (List.mem_of_getElem? (i := 549) (by decide +kernel)), (List.mem_of_getElem? (i := 550) (by decide +kernel)), ⟨_, rfl, rfl⟩⟩
theorem kF_X5_172 : zFL RX5 172 3 3 := ⟨_, _, _, rfl, by decide, zu_X3, Or.inr ⟨"ForgivenWork", (List.mem_of_getElem? (i := 145) (by decide +kernel))⟩⟩
theorem kF_X5_173 : zFL RX5 173 3 4 := ⟨_, _, _, rfl, by decide, zu_X3, Or.inr ⟨"ForgivenWork", (List.mem_of_getElem? (i := 150) (by decide +kernel))⟩⟩
theorem kF_X5_181 : zFL RX5 181 4 2 := ⟨_, _, _, rfl, by decide, zu_X4, Or.inr ⟨"ForgivenWork", (List.mem_of_getElem? (i := 168) (by decide +kernel))⟩⟩
theorem kC_X5_act : zMc yX5_act cX5_act 5 (some .int) 4 := ⟨(List.mem_of_getElem? (i := 38) (by decide +kernel)), (List.mem_of_getElem? (i := 712) (by decide +kernel)), by decide +kernel, by decide +kernel, by decide +kernel⟩
theorem kM_X5_184 : zMV RX5 184 yX5_act cX5_act 5 (some .int) 4 5 := ⟨kC_X5_act, (List.mem_of_getElem? (i := 709) (by decide +kernel)), (List.mem_of_getElem? (i := 711) (by decide +kernel)), (List.mem_of_getElem? (i := 8) (by decide +kernel)), ⟨_, rfl, rfl⟩⟩
theorem kM_X5_188 : zMS RX5 188 yX5_isValue cX5_isValue 1 (some .boolean) 1 := ⟨kC_X5_isValue, Or.inl (List.mem_of_getElem? (i := 749) (by decide +kernel)), (List.mem_of_getElem? (i := 553) (by decide +kernel))⟩
theorem kC_X5_requirePoint : zMc yX5_requirePoint cX5_requirePoint 2 none 2 := ⟨(List.mem_of_getElem? (i := 38) (by decide +kernel)), (List.mem_of_getElem? (i := 767) (by decide +kernel)), by decide +kernel, by decide +kernel, by decide +kernel⟩
theorem kM_X5_193 : zMS RX5 193 yX5_requirePoint cX5_requirePoint 2 none 2 := ⟨kC_X5_requirePoint, Or.inl (List.mem_of_getElem? (i := 765) (by decide +kernel)), (List.mem_of_getElem? (i := 766) (by decide +kernel))⟩
theorem kM_X5_197 : zMS RX5 197 yX5_isRegretNumber cX5_isRegretNumber 1 (some .boolean) 1 := ⟨kC_X5_isRegretNumber, Or.inl (List.mem_of_getElem? (i := 364) (by decide +kernel)), (List.mem_of_getElem? (i := 365) (by decide +kernel))⟩
theorem kC_X0_remember : zMc yX0_remember cX0_remember 3 none 1 := ⟨(List.mem_of_getElem? (i := 46) (by decide +kernel)), (List.mem_of_getElem? (i := 718) (by decide +kernel)), by decide +kernel, by decide +kernel, by decide +kernel⟩
theorem kM_X5_204 : zMV RX5 204 yX0_remember cX0_remember 3 none 1 0 := ⟨kC_X0_remember, (List.mem_of_getElem? (i := 715) (by decide +kernel)), (List.mem_of_getElem? (i := 716) (by decide +kernel)), (List.mem_of_getElem? (i := 717) (by decide +kernel)), ⟨_, rfl, rfl⟩⟩
theorem kF_X5_208 : zFL RX5 208 0 2 := ⟨_, _, _, rfl, by decide, zu_X0, Or.inr ⟨"ForgivenWork", (List.mem_of_getElem? (i := 240) (by decide +kernel))⟩⟩
theorem kC_X0_takeBack : zMc yX0_takeBack cX0_takeBack 4 none 1 := ⟨(List.mem_of_getElem? (i := 46) (by decide +kernel)), (List.mem_of_getElem? (i := 811) (by decide +kernel)), by decide +kernel, by decide +kernel, by decide +kernel⟩
theorem kM_X5_213 : zMV RX5 213 yX0_takeBack cX0_takeBack 4 none 1 0 := ⟨kC_X0_takeBack, (List.mem_of_getElem? (i := 808) (by decide +kernel)), (List.mem_of_getElem? (i := 809) (by decide +kernel)), (List.mem_of_getElem? (i := 810) (by decide +kernel)), ⟨_, rfl, rfl⟩⟩
theorem kM_X5_216 : zMV RX5 216 yX2_obstacle cX2_obstacle 4 (some .int) 2 2 := ⟨kC_X2_obstacle, (List.mem_of_getElem? (i := 819) (by decide +kernel)), (List.mem_of_getElem? (i := 544) (by decide +kernel)), (List.mem_of_getElem? (i := 545) (by decide +kernel)), ⟨_, rfl, rfl⟩⟩
theorem kM_X5_221 : zMV RX5 221 yX2_copyFrom cX2_copyFrom 5 none 1 2 := ⟨kC_X2_copyFrom, (List.mem_of_getElem? (i := 828) (by decide +kernel)), (List.mem_of_getElem? (i := 721) (by decide +kernel)), (List.mem_of_getElem? (i := 722) (by decide +kernel)), ⟨_, rfl, rfl⟩⟩
theorem kC_X2_attempt : zMc yX2_attempt cX2_attempt 6 (some .boolean) 4 := ⟨(List.mem_of_getElem? (i := 41) (by decide +kernel)), (List.mem_of_getElem? (i := 506) (by decide +kernel)), by decide +kernel, by decide +kernel, by decide +kernel⟩
theorem kM_X5_224 : zMV RX5 224 yX2_attempt cX2_attempt 6 (some .boolean) 4 2 := ⟨kC_X2_attempt, (List.mem_of_getElem? (i := 503) (by decide +kernel)), (List.mem_of_getElem? (i := 504) (by decide +kernel)), (List.mem_of_getElem? (i := 505) (by decide +kernel)), ⟨_, rfl, rfl⟩⟩
theorem kC_X2_countDifferent : zMc yX2_countDifferent cX2_countDifferent 4 (some .int) 1 := ⟨(List.mem_of_getElem? (i := 41) (by decide +kernel)), (List.mem_of_getElem? (i := 839) (by decide +kernel)), by decide +kernel, by decide +kernel, by decide +kernel⟩
theorem kM_X5_228 : zMV RX5 228 yX2_countDifferent cX2_countDifferent 4 (some .int) 1 2 := ⟨kC_X2_countDifferent, (List.mem_of_getElem? (i := 836) (by decide +kernel)), (List.mem_of_getElem? (i := 837) (by decide +kernel)), (List.mem_of_getElem? (i := 838) (by decide +kernel)), ⟨_, rfl, rfl⟩⟩
theorem kM_X5_232 : zMV RX5 232 yX2_workerAt cX2_workerAt 2 (some (.object "ForgivenWork$Worker")) 1 2 := ⟨kC_X2_workerAt, (List.mem_of_getElem? (i := 678) (by decide +kernel)), (List.mem_of_getElem? (i := 479) (by decide +kernel)), (List.mem_of_getElem? (i := 480) (by decide +kernel)), ⟨_, rfl, rfl⟩⟩
theorem kM_X5_235 : zMV RX5 235 yX2_goBack cX2_goBack 6 (some .int) 2 2 := ⟨kC_X2_goBack, (List.mem_of_getElem? (i := 847) (by decide +kernel)), (List.mem_of_getElem? (i := 599) (by decide +kernel)), (List.mem_of_getElem? (i := 600) (by decide +kernel)), ⟨_, rfl, rfl⟩⟩
theorem kM_X5_238 : zMV RX5 238 yX4_innermost cX4_innermost 1 (some (.object "ForgivenWork$Work")) 0 4 := ⟨kC_X4_innermost, (List.mem_of_getElem? (i := 855) (by decide +kernel)), (List.mem_of_getElem? (i := 516) (by decide +kernel)), (List.mem_of_getElem? (i := 517) (by decide +kernel)), ⟨_, rfl, rfl⟩⟩
theorem kF_X5_242 : zFL RX5 242 4 6 := ⟨_, _, _, rfl, by decide, zu_X4, Or.inr ⟨"ForgivenWork", (List.mem_of_getElem? (i := 177) (by decide +kernel))⟩⟩
theorem kC_X5_dropGroups : zMc yX5_dropGroups cX5_dropGroups 6 (some .long) 2 := ⟨(List.mem_of_getElem? (i := 38) (by decide +kernel)), (List.mem_of_getElem? (i := 867) (by decide +kernel)), by decide +kernel, by decide +kernel, by decide +kernel⟩
theorem kM_X5_253 : zMS RX5 253 yX5_dropGroups cX5_dropGroups 6 (some .long) 2 := ⟨kC_X5_dropGroups, Or.inl (List.mem_of_getElem? (i := 865) (by decide +kernel)), (List.mem_of_getElem? (i := 866) (by decide +kernel))⟩
theorem kC_X5_obeyGroup : zMc yX5_obeyGroup cX5_obeyGroup 5 (some .boolean) 1 := ⟨(List.mem_of_getElem? (i := 38) (by decide +kernel)), (List.mem_of_getElem? (i := 873) (by decide +kernel)), by decide +kernel, by decide +kernel, by decide +kernel⟩
theorem kM_X5_261 : zMV RX5 261 yX5_obeyGroup cX5_obeyGroup 5 (some .boolean) 1 5 := ⟨kC_X5_obeyGroup, (List.mem_of_getElem? (i := 870) (by decide +kernel)), (List.mem_of_getElem? (i := 872) (by decide +kernel)), (List.mem_of_getElem? (i := 9) (by decide +kernel)), ⟨_, rfl, rfl⟩⟩
theorem kC_X5_simulateStep : zMc yX5_simulateStep cX5_simulateStep 4 none 1 := ⟨(List.mem_of_getElem? (i := 38) (by decide +kernel)), (List.mem_of_getElem? (i := 892) (by decide +kernel)), by decide +kernel, by decide +kernel, by decide +kernel⟩
theorem kM_X5_270 : zMV RX5 270 yX5_simulateStep cX5_simulateStep 4 none 1 5 := ⟨kC_X5_simulateStep, (List.mem_of_getElem? (i := 889) (by decide +kernel)), (List.mem_of_getElem? (i := 891) (by decide +kernel)), (List.mem_of_getElem? (i := 11) (by decide +kernel)), ⟨_, rfl, rfl⟩⟩
theorem kC_X5_requireSlot : zMc yX5_requireSlot cX5_requireSlot 1 none 1 := ⟨(List.mem_of_getElem? (i := 38) (by decide +kernel)), (List.mem_of_getElem? (i := 902) (by decide +kernel)), by decide +kernel, by decide +kernel, by decide +kernel⟩
theorem kM_X5_273 : zMS RX5 273 yX5_requireSlot cX5_requireSlot 1 none 1 := ⟨kC_X5_requireSlot, Or.inl (List.mem_of_getElem? (i := 900) (by decide +kernel)), (List.mem_of_getElem? (i := 901) (by decide +kernel))⟩
theorem kM_X5_280 : zMS RX5 280 yX5_isCell cX5_isCell 1 (some .boolean) 1 := ⟨kC_X5_isCell, Or.inl (List.mem_of_getElem? (i := 357) (by decide +kernel)), (List.mem_of_getElem? (i := 358) (by decide +kernel))⟩
theorem kM_X5_285 : zMV RX5 285 yX4_hasPoint cX4_hasPoint 2 (some .boolean) 1 4 := ⟨kC_X4_hasPoint, (List.mem_of_getElem? (i := 768) (by decide +kernel)), (List.mem_of_getElem? (i := 533) (by decide +kernel)), (List.mem_of_getElem? (i := 534) (by decide +kernel)), ⟨_, rfl, rfl⟩⟩
theorem kM_X5_292 : zMV RX5 292 yX2_allows cX2_allows 5 (some .boolean) 4 2 := ⟨kC_X2_allows, (List.mem_of_getElem? (i := 713) (by decide +kernel)), (List.mem_of_getElem? (i := 508) (by decide +kernel)), (List.mem_of_getElem? (i := 509) (by decide +kernel)), ⟨_, rfl, rfl⟩⟩
theorem kM_X5_298 : zMV RX5 298 yX2_perform cX2_perform 5 (some .int) 4 2 := ⟨kC_X2_perform, (List.mem_of_getElem? (i := 741) (by decide +kernel)), (List.mem_of_getElem? (i := 556) (by decide +kernel)), (List.mem_of_getElem? (i := 557) (by decide +kernel)), ⟨_, rfl, rfl⟩⟩
theorem kC_J0_charAt_5068e : zMc yJ0_charAt_5068e cJ0_charAt_5068e 2 (some .char) 1 := ⟨(List.mem_of_getElem? (i := 53) (by decide +kernel)), (List.mem_of_getElem? (i := 314) (by decide +kernel)), by decide +kernel, by decide +kernel, by decide +kernel⟩
theorem kC_X5_fits : zMc yX5_fits cX5_fits 4 (some .boolean) 2 := ⟨(List.mem_of_getElem? (i := 38) (by decide +kernel)), (List.mem_of_getElem? (i := 352) (by decide +kernel)), by decide +kernel, by decide +kernel, by decide +kernel⟩
theorem kM_X5_317 : zMV RX5 317 yX5_fits cX5_fits 4 (some .boolean) 2 5 := ⟨kC_X5_fits, (List.mem_of_getElem? (i := 349) (by decide +kernel)), (List.mem_of_getElem? (i := 351) (by decide +kernel)), (List.mem_of_getElem? (i := 1) (by decide +kernel)), ⟨_, rfl, rfl⟩⟩
theorem kC_X5_digitAt : zMc yX5_digitAt cX5_digitAt 2 (some .int) 1 := ⟨(List.mem_of_getElem? (i := 38) (by decide +kernel)), (List.mem_of_getElem? (i := 356) (by decide +kernel)), by decide +kernel, by decide +kernel, by decide +kernel⟩
theorem kM_X5_321 : zMV RX5 321 yX5_digitAt cX5_digitAt 2 (some .int) 1 5 := ⟨kC_X5_digitAt, (List.mem_of_getElem? (i := 353) (by decide +kernel)), (List.mem_of_getElem? (i := 355) (by decide +kernel)), (List.mem_of_getElem? (i := 2) (by decide +kernel)), ⟨_, rfl, rfl⟩⟩
theorem kC_X5_numberAt : zMc yX5_numberAt cX5_numberAt 2 (some .int) 1 := ⟨(List.mem_of_getElem? (i := 38) (by decide +kernel)), (List.mem_of_getElem? (i := 363) (by decide +kernel)), by decide +kernel, by decide +kernel, by decide +kernel⟩
theorem kM_X5_324 : zMV RX5 324 yX5_numberAt cX5_numberAt 2 (some .int) 1 5 := ⟨kC_X5_numberAt, (List.mem_of_getElem? (i := 360) (by decide +kernel)), (List.mem_of_getElem? (i := 362) (by decide +kernel)), (List.mem_of_getElem? (i := 3) (by decide +kernel)), ⟨_, rfl, rfl⟩⟩
theorem kC_X5_isTrueOfWorker : zMc yX5_isTrueOfWorker cX5_isTrueOfWorker 6 (some .boolean) 4 := ⟨(List.mem_of_getElem? (i := 38) (by decide +kernel)), (List.mem_of_getElem? (i := 877) (by decide +kernel)), by decide +kernel, by decide +kernel, by decide +kernel⟩
theorem kM_X5_327 : zMV RX5 327 yX5_isTrueOfWorker cX5_isTrueOfWorker 6 (some .boolean) 4 5 := ⟨kC_X5_isTrueOfWorker, (List.mem_of_getElem? (i := 874) (by decide +kernel)), (List.mem_of_getElem? (i := 876) (by decide +kernel)), (List.mem_of_getElem? (i := 10) (by decide +kernel)), ⟨_, rfl, rfl⟩⟩
theorem kM_X5_330 : zMV RX5 330 yX4_isSpoiled cX4_isSpoiled 2 (some .boolean) 0 4 := ⟨kC_X4_isSpoiled, (List.mem_of_getElem? (i := 878) (by decide +kernel)), (List.mem_of_getElem? (i := 512) (by decide +kernel)), (List.mem_of_getElem? (i := 513) (by decide +kernel)), ⟨_, rfl, rfl⟩⟩
theorem kF_X6_7 : zFL RX6 7 6 1 := ⟨_, _, _, rfl, by decide, zu_X6, Or.inl (List.mem_of_getElem? (i := 922) (by decide +kernel))⟩
theorem kP_X6_7 : zFP RX6 7 6 1 true (.array .int) := ⟨_, _, _, tyX6, rfl, by decide, zu_X6, Or.inl (List.mem_of_getElem? (i := 922) (by decide +kernel)), tyX6_ok, nmX6, rfl, fun _ => rfl, rfl⟩
theorem kF_X6_13 : zFL RX6 13 6 6 := ⟨_, _, _, rfl, by decide, zu_X6, Or.inl (List.mem_of_getElem? (i := 927) (by decide +kernel))⟩
theorem kP_X6_13 : zFP RX6 13 6 6 true (.array .int) := ⟨_, _, _, tyX6, rfl, by decide, zu_X6, Or.inl (List.mem_of_getElem? (i := 927) (by decide +kernel)), tyX6_ok, nmX6, rfl, fun _ => rfl, rfl⟩
theorem kF_X6_16 : zFL RX6 16 6 7 := ⟨_, _, _, rfl, by decide, zu_X6, Or.inl (List.mem_of_getElem? (i := 928) (by decide +kernel))⟩
theorem kP_X6_16 : zFP RX6 16 6 7 true (.array .int) := ⟨_, _, _, tyX6, rfl, by decide, zu_X6, Or.inl (List.mem_of_getElem? (i := 928) (by decide +kernel)), tyX6_ok, nmX6, rfl, fun _ => rfl, rfl⟩
theorem kF_X6_19 : zFL RX6 19 6 8 := ⟨_, _, _, rfl, by decide, zu_X6, Or.inl (List.mem_of_getElem? (i := 929) (by decide +kernel))⟩
theorem kP_X6_19 : zFP RX6 19 6 8 true (.array .int) := ⟨_, _, _, tyX6, rfl, by decide, zu_X6, Or.inl (List.mem_of_getElem? (i := 929) (by decide +kernel)), tyX6_ok, nmX6, rfl, fun _ => rfl, rfl⟩
theorem kF_X6_22 : zFL RX6 22 6 9 := ⟨_, _, _, rfl, by decide, zu_X6, Or.inl (List.mem_of_getElem? (i := 930) (by decide +kernel))⟩
theorem kP_X6_22 : zFP RX6 22 6 9 true (.array .int) := ⟨_, _, _, tyX6, rfl, by decide, zu_X6, Or.inl (List.mem_of_getElem? (i := 930) (by decide +kernel)), tyX6_ok, nmX6, rfl, fun _ => rfl, rfl⟩
theorem kF_X6_25 : zFL RX6 25 6 10 := ⟨_, _, _, rfl, by decide, zu_X6, Or.inl (List.mem_of_getElem? (i := 931) (by decide +kernel))⟩
theorem kP_X6_25 : zFP RX6 25 6 10 true (.array .int) := ⟨_, _, _, tyX6, rfl, by decide, zu_X6, Or.inl (List.mem_of_getElem? (i := 931) (by decide +kernel)), tyX6_ok, nmX6, rfl, fun _ => rfl, rfl⟩
theorem kF_X6_28 : zFL RX6 28 6 11 := ⟨_, _, _, rfl, by decide, zu_X6, Or.inl (List.mem_of_getElem? (i := 932) (by decide +kernel))⟩
theorem kP_X6_28 : zFP RX6 28 6 11 true (.array .int) := ⟨_, _, _, tyX6, rfl, by decide, zu_X6, Or.inl (List.mem_of_getElem? (i := 932) (by decide +kernel)), tyX6_ok, nmX6, rfl, fun _ => rfl, rfl⟩
theorem kF_X6_31 : zFL RX6 31 6 12 := ⟨_, _, _, rfl, by decide, zu_X6, Or.inl (List.mem_of_getElem? (i := 933) (by decide +kernel))⟩
theorem kP_X6_31 : zFP RX6 31 6 12 true (.array .int) := ⟨_, _, _, tyX6, rfl, by decide, zu_X6, Or.inl (List.mem_of_getElem? (i := 933) (by decide +kernel)), tyX6_ok, nmX6, rfl, fun _ => rfl, rfl⟩
theorem kF_X6_34 : zFL RX6 34 6 15 := ⟨_, _, _, rfl, by decide, zu_X6, Or.inl (List.mem_of_getElem? (i := 936) (by decide +kernel))⟩
theorem kP_X6_34 : zFP RX6 34 6 15 true (.array .int) := ⟨_, _, _, tyX6, rfl, by decide, zu_X6, Or.inl (List.mem_of_getElem? (i := 936) (by decide +kernel)), tyX6_ok, nmX6, rfl, fun _ => rfl, rfl⟩
theorem kF_X6_37 : zFL RX6 37 6 16 := ⟨_, _, _, rfl, by decide, zu_X6, Or.inl (List.mem_of_getElem? (i := 937) (by decide +kernel))⟩
theorem kP_X6_37 : zFP RX6 37 6 16 true (.array .boolean) := ⟨_, _, _, tyX6, rfl, by decide, zu_X6, Or.inl (List.mem_of_getElem? (i := 937) (by decide +kernel)), tyX6_ok, nmX6, rfl, fun _ => rfl, rfl⟩
theorem kC_X6_clean : zMc yX6_clean cX6_clean 2 none 1 := ⟨(List.mem_of_getElem? (i := 47) (by decide +kernel)), (List.mem_of_getElem? (i := 920) (by decide +kernel)), by decide +kernel, by decide +kernel, by decide +kernel⟩
theorem kM_X6_41 : zMS RX6 41 yX6_clean cX6_clean 2 none 1 := ⟨kC_X6_clean, Or.inl (List.mem_of_getElem? (i := 918) (by decide +kernel)), (List.mem_of_getElem? (i := 919) (by decide +kernel))⟩
theorem kF_X6_45 : zFL RX6 45 6 0 := ⟨_, _, _, rfl, by decide, zu_X6, Or.inl (List.mem_of_getElem? (i := 921) (by decide +kernel))⟩
theorem kP_X6_45 : zFP RX6 45 6 0 false .int := ⟨_, _, _, tyX6, rfl, by decide, zu_X6, Or.inl (List.mem_of_getElem? (i := 921) (by decide +kernel)), tyX6_ok, nmX6, rfl, (fun h => nomatch h), rfl⟩
theorem kF_X6_51 : zFL RX6 51 6 13 := ⟨_, _, _, rfl, by decide, zu_X6, Or.inl (List.mem_of_getElem? (i := 934) (by decide +kernel))⟩
theorem kP_X6_51 : zFP RX6 51 6 13 false .int := ⟨_, _, _, tyX6, rfl, by decide, zu_X6, Or.inl (List.mem_of_getElem? (i := 934) (by decide +kernel)), tyX6_ok, nmX6, rfl, (fun h => nomatch h), rfl⟩
theorem kC_X6_copy : zMc yX6_copy cX6_copy 6 none 5 := ⟨(List.mem_of_getElem? (i := 47) (by decide +kernel)), (List.mem_of_getElem? (i := 1121) (by decide +kernel)), by decide +kernel, by decide +kernel, by decide +kernel⟩
theorem kM_X6_54 : zMS RX6 54 yX6_copy cX6_copy 6 none 5 := ⟨kC_X6_copy, Or.inl (List.mem_of_getElem? (i := 1119) (by decide +kernel)), (List.mem_of_getElem? (i := 1120) (by decide +kernel))⟩
theorem kF_X6_58 : zFL RX6 58 6 14 := ⟨_, _, _, rfl, by decide, zu_X6, Or.inl (List.mem_of_getElem? (i := 935) (by decide +kernel))⟩
theorem kP_X6_58 : zFP RX6 58 6 14 false .int := ⟨_, _, _, tyX6, rfl, by decide, zu_X6, Or.inl (List.mem_of_getElem? (i := 935) (by decide +kernel)), tyX6_ok, nmX6, rfl, (fun h => nomatch h), rfl⟩
theorem kC_X6_layDown : zMc yX6_layDown cX6_layDown 4 none 1 := ⟨(List.mem_of_getElem? (i := 47) (by decide +kernel)), (List.mem_of_getElem? (i := 1179) (by decide +kernel)), by decide +kernel, by decide +kernel, by decide +kernel⟩
theorem kM_X6_61 : zMV RX6 61 yX6_layDown cX6_layDown 4 none 1 6 := ⟨kC_X6_layDown, (List.mem_of_getElem? (i := 1176) (by decide +kernel)), (List.mem_of_getElem? (i := 1178) (by decide +kernel)), (List.mem_of_getElem? (i := 27) (by decide +kernel)), ⟨_, rfl, rfl⟩⟩
theorem kC_X6_at : zMc yX6_at cX6_at 2 (some .int) 2 := ⟨(List.mem_of_getElem? (i := 47) (by decide +kernel)), (List.mem_of_getElem? (i := 1038) (by decide +kernel)), by decide +kernel, by decide +kernel, by decide +kernel⟩
theorem kM_X6_65 : zMS RX6 65 yX6_at cX6_at 2 (some .int) 2 := ⟨kC_X6_at, Or.inl (List.mem_of_getElem? (i := 1036) (by decide +kernel)), (List.mem_of_getElem? (i := 1037) (by decide +kernel))⟩
theorem kC_X6_many : zMc yX6_many cX6_many 2 (some .int) 2 := ⟨(List.mem_of_getElem? (i := 47) (by decide +kernel)), (List.mem_of_getElem? (i := 1035) (by decide +kernel)), by decide +kernel, by decide +kernel, by decide +kernel⟩
theorem kM_X6_69 : zMS RX6 69 yX6_many cX6_many 2 (some .int) 2 := ⟨kC_X6_many, Or.inl (List.mem_of_getElem? (i := 1033) (by decide +kernel)), (List.mem_of_getElem? (i := 1034) (by decide +kernel))⟩
theorem kC_X6_workAt : zMc yX6_workAt cX6_workAt 3 (some .int) 3 := ⟨(List.mem_of_getElem? (i := 47) (by decide +kernel)), (List.mem_of_getElem? (i := 1047) (by decide +kernel)), by decide +kernel, by decide +kernel, by decide +kernel⟩
theorem kM_X6_73 : zMS RX6 73 yX6_workAt cX6_workAt 3 (some .int) 3 := ⟨kC_X6_workAt, Or.inl (List.mem_of_getElem? (i := 1045) (by decide +kernel)), (List.mem_of_getElem? (i := 1046) (by decide +kernel))⟩
theorem kC_X6_innerAt : zMc yX6_innerAt cX6_innerAt 3 (some .int) 3 := ⟨(List.mem_of_getElem? (i := 47) (by decide +kernel)), (List.mem_of_getElem? (i := 1044) (by decide +kernel)), by decide +kernel, by decide +kernel, by decide +kernel⟩
theorem kM_X6_77 : zMS RX6 77 yX6_innerAt cX6_innerAt 3 (some .int) 3 := ⟨kC_X6_innerAt, Or.inl (List.mem_of_getElem? (i := 1042) (by decide +kernel)), (List.mem_of_getElem? (i := 1043) (by decide +kernel))⟩
theorem kC_X6_isSpoiled : zMc yX6_isSpoiled cX6_isSpoiled 2 (some .boolean) 2 := ⟨(List.mem_of_getElem? (i := 47) (by decide +kernel)), (List.mem_of_getElem? (i := 1041) (by decide +kernel)), by decide +kernel, by decide +kernel, by decide +kernel⟩
theorem kM_X6_81 : zMS RX6 81 yX6_isSpoiled cX6_isSpoiled 2 (some .boolean) 2 := ⟨kC_X6_isSpoiled, Or.inl (List.mem_of_getElem? (i := 1039) (by decide +kernel)), (List.mem_of_getElem? (i := 1040) (by decide +kernel))⟩
theorem kC_X6_enter : zMc yX6_enter cX6_enter 3 none 3 := ⟨(List.mem_of_getElem? (i := 47) (by decide +kernel)), (List.mem_of_getElem? (i := 1057) (by decide +kernel)), by decide +kernel, by decide +kernel, by decide +kernel⟩
theorem kM_X6_85 : zMS RX6 85 yX6_enter cX6_enter 3 none 3 := ⟨kC_X6_enter, Or.inl (List.mem_of_getElem? (i := 1055) (by decide +kernel)), (List.mem_of_getElem? (i := 1056) (by decide +kernel))⟩
theorem kC_X6_isOpen : zMc yX6_isOpen cX6_isOpen 2 (some .boolean) 2 := ⟨(List.mem_of_getElem? (i := 47) (by decide +kernel)), (List.mem_of_getElem? (i := 1096) (by decide +kernel)), by decide +kernel, by decide +kernel, by decide +kernel⟩
theorem kM_X6_89 : zMS RX6 89 yX6_isOpen cX6_isOpen 2 (some .boolean) 2 := ⟨kC_X6_isOpen, Or.inl (List.mem_of_getElem? (i := 1094) (by decide +kernel)), (List.mem_of_getElem? (i := 1095) (by decide +kernel))⟩
theorem kC_X6_in : zMc yX6_in cX6_in 6 (some .boolean) 3 := ⟨(List.mem_of_getElem? (i := 47) (by decide +kernel)), (List.mem_of_getElem? (i := 984) (by decide +kernel)), by decide +kernel, by decide +kernel, by decide +kernel⟩
theorem kM_X6_92 : zMS RX6 92 yX6_in cX6_in 6 (some .boolean) 3 := ⟨kC_X6_in, Or.inl (List.mem_of_getElem? (i := 982) (by decide +kernel)), (List.mem_of_getElem? (i := 983) (by decide +kernel))⟩
theorem kC_X6_undoTo : zMc yX6_undoTo cX6_undoTo 5 (some .int) 3 := ⟨(List.mem_of_getElem? (i := 47) (by decide +kernel)), (List.mem_of_getElem? (i := 1083) (by decide +kernel)), by decide +kernel, by decide +kernel, by decide +kernel⟩
theorem kM_X6_96 : zMS RX6 96 yX6_undoTo cX6_undoTo 5 (some .int) 3 := ⟨kC_X6_undoTo, Or.inl (List.mem_of_getElem? (i := 1081) (by decide +kernel)), (List.mem_of_getElem? (i := 1082) (by decide +kernel))⟩
theorem kC_X6_reason : zMc yX6_reason cX6_reason 3 (some .int) 3 := ⟨(List.mem_of_getElem? (i := 47) (by decide +kernel)), (List.mem_of_getElem? (i := 1032) (by decide +kernel)), by decide +kernel, by decide +kernel, by decide +kernel⟩
theorem kM_X6_99 : zMS RX6 99 yX6_reason cX6_reason 3 (some .int) 3 := ⟨kC_X6_reason, Or.inl (List.mem_of_getElem? (i := 1030) (by decide +kernel)), (List.mem_of_getElem? (i := 1031) (by decide +kernel))⟩
theorem kC_X6_regretsOf : zMc yX6_regretsOf cX6_regretsOf 4 (some .int) 3 := ⟨(List.mem_of_getElem? (i := 47) (by decide +kernel)), (List.mem_of_getElem? (i := 1067) (by decide +kernel)), by decide +kernel, by decide +kernel, by decide +kernel⟩
theorem kM_X6_102 : zMS RX6 102 yX6_regretsOf cX6_regretsOf 4 (some .int) 3 := ⟨kC_X6_regretsOf, Or.inl (List.mem_of_getElem? (i := 1065) (by decide +kernel)), (List.mem_of_getElem? (i := 1066) (by decide +kernel))⟩
theorem kC_X6_end : zMc yX6_end cX6_end 3 none 2 := ⟨(List.mem_of_getElem? (i := 47) (by decide +kernel)), (List.mem_of_getElem? (i := 1108) (by decide +kernel)), by decide +kernel, by decide +kernel, by decide +kernel⟩
theorem kM_X6_105 : zMS RX6 105 yX6_end cX6_end 3 none 2 := ⟨kC_X6_end, Or.inl (List.mem_of_getElem? (i := 1106) (by decide +kernel)), (List.mem_of_getElem? (i := 1107) (by decide +kernel))⟩
theorem kC_X6_rue : zMc yX6_rue cX6_rue 6 none 4 := ⟨(List.mem_of_getElem? (i := 47) (by decide +kernel)), (List.mem_of_getElem? (i := 1114) (by decide +kernel)), by decide +kernel, by decide +kernel, by decide +kernel⟩
theorem kM_X6_109 : zMS RX6 109 yX6_rue cX6_rue 6 none 4 := ⟨kC_X6_rue, Or.inl (List.mem_of_getElem? (i := 1112) (by decide +kernel)), (List.mem_of_getElem? (i := 1113) (by decide +kernel))⟩
theorem kF_X6_115 : zFL RX6 115 6 2 := ⟨_, _, _, rfl, by decide, zu_X6, Or.inl (List.mem_of_getElem? (i := 923) (by decide +kernel))⟩
theorem kP_X6_115 : zFP RX6 115 6 2 false .int := ⟨_, _, _, tyX6, rfl, by decide, zu_X6, Or.inl (List.mem_of_getElem? (i := 923) (by decide +kernel)), tyX6_ok, nmX6, rfl, (fun h => nomatch h), rfl⟩
theorem kC_X6_refused : zMc yX6_refused cX6_refused 2 (some .boolean) 1 := ⟨(List.mem_of_getElem? (i := 47) (by decide +kernel)), (List.mem_of_getElem? (i := 988) (by decide +kernel)), by decide +kernel, by decide +kernel, by decide +kernel⟩
theorem kM_X6_118 : zMV RX6 118 yX6_refused cX6_refused 2 (some .boolean) 1 6 := ⟨kC_X6_refused, (List.mem_of_getElem? (i := 985) (by decide +kernel)), (List.mem_of_getElem? (i := 987) (by decide +kernel)), (List.mem_of_getElem? (i := 12) (by decide +kernel)), ⟨_, rfl, rfl⟩⟩
theorem kF_X6_122 : zFL RX6 122 6 3 := ⟨_, _, _, rfl, by decide, zu_X6, Or.inl (List.mem_of_getElem? (i := 924) (by decide +kernel))⟩
theorem kP_X6_122 : zFP RX6 122 6 3 false .int := ⟨_, _, _, tyX6, rfl, by decide, zu_X6, Or.inl (List.mem_of_getElem? (i := 924) (by decide +kernel)), tyX6_ok, nmX6, rfl, (fun h => nomatch h), rfl⟩
theorem kF_X6_125 : zFL RX6 125 6 4 := ⟨_, _, _, rfl, by decide, zu_X6, Or.inl (List.mem_of_getElem? (i := 925) (by decide +kernel))⟩
theorem kP_X6_125 : zFP RX6 125 6 4 false .boolean := ⟨_, _, _, tyX6, rfl, by decide, zu_X6, Or.inl (List.mem_of_getElem? (i := 925) (by decide +kernel)), tyX6_ok, nmX6, rfl, (fun h => nomatch h), rfl⟩
theorem kC_X6_accept : zMc yX6_accept cX6_accept 2 none 1 := ⟨(List.mem_of_getElem? (i := 47) (by decide +kernel)), (List.mem_of_getElem? (i := 1008) (by decide +kernel)), by decide +kernel, by decide +kernel, by decide +kernel⟩
theorem kM_X6_131 : zMV RX6 131 yX6_accept cX6_accept 2 none 1 6 := ⟨kC_X6_accept, (List.mem_of_getElem? (i := 1005) (by decide +kernel)), (List.mem_of_getElem? (i := 1007) (by decide +kernel)), (List.mem_of_getElem? (i := 15) (by decide +kernel)), ⟨_, rfl, rfl⟩⟩
theorem kC_X6_digit : zMc yX6_digit cX6_digit 4 (some .int) 2 := ⟨(List.mem_of_getElem? (i := 47) (by decide +kernel)), (List.mem_of_getElem? (i := 1016) (by decide +kernel)), by decide +kernel, by decide +kernel, by decide +kernel⟩
theorem kM_X6_135 : zMV RX6 135 yX6_digit cX6_digit 4 (some .int) 2 6 := ⟨kC_X6_digit, (List.mem_of_getElem? (i := 1013) (by decide +kernel)), (List.mem_of_getElem? (i := 1015) (by decide +kernel)), (List.mem_of_getElem? (i := 17) (by decide +kernel)), ⟨_, rfl, rfl⟩⟩
theorem kF_X6_138 : zFL RX6 138 6 5 := ⟨_, _, _, rfl, by decide, zu_X6, Or.inl (List.mem_of_getElem? (i := 926) (by decide +kernel))⟩
theorem kP_X6_138 : zFP RX6 138 6 5 false .int := ⟨_, _, _, tyX6, rfl, by decide, zu_X6, Or.inl (List.mem_of_getElem? (i := 926) (by decide +kernel)), tyX6_ok, nmX6, rfl, (fun h => nomatch h), rfl⟩
theorem kC_X6_cellRead : zMc yX6_cellRead cX6_cellRead 2 (some .int) 0 := ⟨(List.mem_of_getElem? (i := 47) (by decide +kernel)), (List.mem_of_getElem? (i := 1025) (by decide +kernel)), by decide +kernel, by decide +kernel, by decide +kernel⟩
theorem kM_X6_141 : zMV RX6 141 yX6_cellRead cX6_cellRead 2 (some .int) 0 6 := ⟨kC_X6_cellRead, (List.mem_of_getElem? (i := 1022) (by decide +kernel)), (List.mem_of_getElem? (i := 1024) (by decide +kernel)), (List.mem_of_getElem? (i := 19) (by decide +kernel)), ⟨_, rfl, rfl⟩⟩
theorem kC_X6_twoRead : zMc yX6_twoRead cX6_twoRead 3 (some .int) 1 := ⟨(List.mem_of_getElem? (i := 47) (by decide +kernel)), (List.mem_of_getElem? (i := 1029) (by decide +kernel)), by decide +kernel, by decide +kernel, by decide +kernel⟩
theorem kM_X6_145 : zMV RX6 145 yX6_twoRead cX6_twoRead 3 (some .int) 1 6 := ⟨kC_X6_twoRead, (List.mem_of_getElem? (i := 1026) (by decide +kernel)), (List.mem_of_getElem? (i := 1028) (by decide +kernel)), (List.mem_of_getElem? (i := 20) (by decide +kernel)), ⟨_, rfl, rfl⟩⟩
theorem kC_X6_doIt : zMc yX6_doIt cX6_doIt 2 none 1 := ⟨(List.mem_of_getElem? (i := 47) (by decide +kernel)), (List.mem_of_getElem? (i := 1051) (by decide +kernel)), by decide +kernel, by decide +kernel, by decide +kernel⟩
theorem kM_X6_149 : zMV RX6 149 yX6_doIt cX6_doIt 2 none 1 6 := ⟨kC_X6_doIt, (List.mem_of_getElem? (i := 1048) (by decide +kernel)), (List.mem_of_getElem? (i := 1050) (by decide +kernel)), (List.mem_of_getElem? (i := 21) (by decide +kernel)), ⟨_, rfl, rfl⟩⟩
theorem kC_X6_writeIn : zMc yX6_writeIn cX6_writeIn 5 (some .int) 4 := ⟨(List.mem_of_getElem? (i := 47) (by decide +kernel)), (List.mem_of_getElem? (i := 1054) (by decide +kernel)), by decide +kernel, by decide +kernel, by decide +kernel⟩
theorem kM_X6_152 : zMS RX6 152 yX6_writeIn cX6_writeIn 5 (some .int) 4 := ⟨kC_X6_writeIn, Or.inl (List.mem_of_getElem? (i := 1052) (by decide +kernel)), (List.mem_of_getElem? (i := 1053) (by decide +kernel))⟩
theorem kC_X6_canRegret : zMc yX6_canRegret cX6_canRegret 4 (some .boolean) 3 := ⟨(List.mem_of_getElem? (i := 47) (by decide +kernel)), (List.mem_of_getElem? (i := 1064) (by decide +kernel)), by decide +kernel, by decide +kernel, by decide +kernel⟩
theorem kM_X6_156 : zMS RX6 156 yX6_canRegret cX6_canRegret 4 (some .boolean) 3 := ⟨kC_X6_canRegret, Or.inl (List.mem_of_getElem? (i := 1062) (by decide +kernel)), (List.mem_of_getElem? (i := 1063) (by decide +kernel))⟩
theorem kC_X6_regretIn : zMc yX6_regretIn cX6_regretIn 4 (some .int) 4 := ⟨(List.mem_of_getElem? (i := 47) (by decide +kernel)), (List.mem_of_getElem? (i := 1070) (by decide +kernel)), by decide +kernel, by decide +kernel, by decide +kernel⟩
theorem kM_X6_160 : zMS RX6 160 yX6_regretIn cX6_regretIn 4 (some .int) 4 := ⟨kC_X6_regretIn, Or.inl (List.mem_of_getElem? (i := 1068) (by decide +kernel)), (List.mem_of_getElem? (i := 1069) (by decide +kernel))⟩
theorem kC_X6_hasPoint : zMc yX6_hasPoint cX6_hasPoint 3 (some .boolean) 3 := ⟨(List.mem_of_getElem? (i := 47) (by decide +kernel)), (List.mem_of_getElem? (i := 1077) (by decide +kernel)), by decide +kernel, by decide +kernel, by decide +kernel⟩
theorem kM_X6_163 : zMS RX6 163 yX6_hasPoint cX6_hasPoint 3 (some .boolean) 3 := ⟨kC_X6_hasPoint, Or.inl (List.mem_of_getElem? (i := 1075) (by decide +kernel)), (List.mem_of_getElem? (i := 1076) (by decide +kernel))⟩
theorem kC_X6_backIn : zMc yX6_backIn cX6_backIn 4 (some .int) 3 := ⟨(List.mem_of_getElem? (i := 47) (by decide +kernel)), (List.mem_of_getElem? (i := 1080) (by decide +kernel)), by decide +kernel, by decide +kernel, by decide +kernel⟩
theorem kM_X6_166 : zMS RX6 166 yX6_backIn cX6_backIn 4 (some .int) 3 := ⟨kC_X6_backIn, Or.inl (List.mem_of_getElem? (i := 1078) (by decide +kernel)), (List.mem_of_getElem? (i := 1079) (by decide +kernel))⟩
theorem kC_X6_canBegin : zMc yX6_canBegin cX6_canBegin 2 (some .boolean) 2 := ⟨(List.mem_of_getElem? (i := 47) (by decide +kernel)), (List.mem_of_getElem? (i := 1090) (by decide +kernel)), by decide +kernel, by decide +kernel, by decide +kernel⟩
theorem kM_X6_169 : zMS RX6 169 yX6_canBegin cX6_canBegin 2 (some .boolean) 2 := ⟨kC_X6_canBegin, Or.inl (List.mem_of_getElem? (i := 1088) (by decide +kernel)), (List.mem_of_getElem? (i := 1089) (by decide +kernel))⟩
theorem kC_X6_canPoint : zMc yX6_canPoint cX6_canPoint 2 (some .boolean) 2 := ⟨(List.mem_of_getElem? (i := 47) (by decide +kernel)), (List.mem_of_getElem? (i := 1093) (by decide +kernel)), by decide +kernel, by decide +kernel, by decide +kernel⟩
theorem kM_X6_172 : zMS RX6 172 yX6_canPoint cX6_canPoint 2 (some .boolean) 2 := ⟨kC_X6_canPoint, Or.inl (List.mem_of_getElem? (i := 1091) (by decide +kernel)), (List.mem_of_getElem? (i := 1092) (by decide +kernel))⟩
theorem kC_X6_beginIn : zMc yX6_beginIn cX6_beginIn 4 none 2 := ⟨(List.mem_of_getElem? (i := 47) (by decide +kernel)), (List.mem_of_getElem? (i := 1099) (by decide +kernel)), by decide +kernel, by decide +kernel, by decide +kernel⟩
theorem kM_X6_175 : zMS RX6 175 yX6_beginIn cX6_beginIn 4 none 2 := ⟨kC_X6_beginIn, Or.inl (List.mem_of_getElem? (i := 1097) (by decide +kernel)), (List.mem_of_getElem? (i := 1098) (by decide +kernel))⟩
theorem kC_X6_pointIn : zMc yX6_pointIn cX6_pointIn 3 (some .int) 2 := ⟨(List.mem_of_getElem? (i := 47) (by decide +kernel)), (List.mem_of_getElem? (i := 1102) (by decide +kernel)), by decide +kernel, by decide +kernel, by decide +kernel⟩
theorem kM_X6_178 : zMS RX6 178 yX6_pointIn cX6_pointIn 3 (some .int) 2 := ⟨kC_X6_pointIn, Or.inl (List.mem_of_getElem? (i := 1100) (by decide +kernel)), (List.mem_of_getElem? (i := 1101) (by decide +kernel))⟩
theorem kC_X6_doneIn : zMc yX6_doneIn cX6_doneIn 2 (some .int) 2 := ⟨(List.mem_of_getElem? (i := 47) (by decide +kernel)), (List.mem_of_getElem? (i := 1105) (by decide +kernel)), by decide +kernel, by decide +kernel, by decide +kernel⟩
theorem kM_X6_181 : zMS RX6 181 yX6_doneIn cX6_doneIn 2 (some .int) 2 := ⟨kC_X6_doneIn, Or.inl (List.mem_of_getElem? (i := 1103) (by decide +kernel)), (List.mem_of_getElem? (i := 1104) (by decide +kernel))⟩
theorem kC_X6_failIn : zMc yX6_failIn cX6_failIn 4 (some .int) 2 := ⟨(List.mem_of_getElem? (i := 47) (by decide +kernel)), (List.mem_of_getElem? (i := 1111) (by decide +kernel)), by decide +kernel, by decide +kernel, by decide +kernel⟩
theorem kM_X6_184 : zMS RX6 184 yX6_failIn cX6_failIn 4 (some .int) 2 := ⟨kC_X6_failIn, Or.inl (List.mem_of_getElem? (i := 1109) (by decide +kernel)), (List.mem_of_getElem? (i := 1110) (by decide +kernel))⟩
theorem kC_X6_isNext : zMc yX6_isNext cX6_isNext 2 (some .boolean) 1 := ⟨(List.mem_of_getElem? (i := 47) (by decide +kernel)), (List.mem_of_getElem? (i := 1004) (by decide +kernel)), by decide +kernel, by decide +kernel, by decide +kernel⟩
theorem kM_X6_187 : zMV RX6 187 yX6_isNext cX6_isNext 2 (some .boolean) 1 6 := ⟨kC_X6_isNext, (List.mem_of_getElem? (i := 1001) (by decide +kernel)), (List.mem_of_getElem? (i := 1003) (by decide +kernel)), (List.mem_of_getElem? (i := 14) (by decide +kernel)), ⟨_, rfl, rfl⟩⟩
theorem kC_X6_readWrite : zMc yX6_readWrite cX6_readWrite 5 none 1 := ⟨(List.mem_of_getElem? (i := 47) (by decide +kernel)), (List.mem_of_getElem? (i := 1021) (by decide +kernel)), by decide +kernel, by decide +kernel, by decide +kernel⟩
theorem kM_X6_190 : zMV RX6 190 yX6_readWrite cX6_readWrite 5 none 1 6 := ⟨kC_X6_readWrite, (List.mem_of_getElem? (i := 1018) (by decide +kernel)), (List.mem_of_getElem? (i := 1020) (by decide +kernel)), (List.mem_of_getElem? (i := 18) (by decide +kernel)), ⟨_, rfl, rfl⟩⟩
theorem kC_X6_readRegret : zMc yX6_readRegret cX6_readRegret 5 none 1 := ⟨(List.mem_of_getElem? (i := 47) (by decide +kernel)), (List.mem_of_getElem? (i := 1061) (by decide +kernel)), by decide +kernel, by decide +kernel, by decide +kernel⟩
theorem kM_X6_193 : zMV RX6 193 yX6_readRegret cX6_readRegret 5 none 1 6 := ⟨kC_X6_readRegret, (List.mem_of_getElem? (i := 1058) (by decide +kernel)), (List.mem_of_getElem? (i := 1060) (by decide +kernel)), (List.mem_of_getElem? (i := 22) (by decide +kernel)), ⟨_, rfl, rfl⟩⟩
theorem kC_X6_readBack : zMc yX6_readBack cX6_readBack 4 none 1 := ⟨(List.mem_of_getElem? (i := 47) (by decide +kernel)), (List.mem_of_getElem? (i := 1074) (by decide +kernel)), by decide +kernel, by decide +kernel, by decide +kernel⟩
theorem kM_X6_196 : zMV RX6 196 yX6_readBack cX6_readBack 4 none 1 6 := ⟨kC_X6_readBack, (List.mem_of_getElem? (i := 1071) (by decide +kernel)), (List.mem_of_getElem? (i := 1073) (by decide +kernel)), (List.mem_of_getElem? (i := 23) (by decide +kernel)), ⟨_, rfl, rfl⟩⟩
theorem kC_X6_readBare : zMc yX6_readBare cX6_readBare 4 none 2 := ⟨(List.mem_of_getElem? (i := 47) (by decide +kernel)), (List.mem_of_getElem? (i := 1087) (by decide +kernel)), by decide +kernel, by decide +kernel, by decide +kernel⟩
theorem kM_X6_199 : zMV RX6 199 yX6_readBare cX6_readBare 4 none 2 6 := ⟨kC_X6_readBare, (List.mem_of_getElem? (i := 1084) (by decide +kernel)), (List.mem_of_getElem? (i := 1086) (by decide +kernel)), (List.mem_of_getElem? (i := 24) (by decide +kernel)), ⟨_, rfl, rfl⟩⟩
theorem kC_X6_readCommand : zMc yX6_readCommand cX6_readCommand 3 none 0 := ⟨(List.mem_of_getElem? (i := 47) (by decide +kernel)), (List.mem_of_getElem? (i := 1012) (by decide +kernel)), by decide +kernel, by decide +kernel, by decide +kernel⟩
theorem kM_X6_203 : zMV RX6 203 yX6_readCommand cX6_readCommand 3 none 0 6 := ⟨kC_X6_readCommand, (List.mem_of_getElem? (i := 1009) (by decide +kernel)), (List.mem_of_getElem? (i := 1011) (by decide +kernel)), (List.mem_of_getElem? (i := 16) (by decide +kernel)), ⟨_, rfl, rfl⟩⟩
theorem kC_X6_readText : zMc yX6_readText cX6_readText 1 (some .int) 0 := ⟨(List.mem_of_getElem? (i := 47) (by decide +kernel)), (List.mem_of_getElem? (i := 1000) (by decide +kernel)), by decide +kernel, by decide +kernel, by decide +kernel⟩
theorem kM_X6_206 : zMV RX6 206 yX6_readText cX6_readText 1 (some .int) 0 6 := ⟨kC_X6_readText, (List.mem_of_getElem? (i := 997) (by decide +kernel)), (List.mem_of_getElem? (i := 999) (by decide +kernel)), (List.mem_of_getElem? (i := 13) (by decide +kernel)), ⟨_, rfl, rfl⟩⟩
theorem kC_X6_sum : zMc yX6_sum cX6_sum 3 (some .int) 1 := ⟨(List.mem_of_getElem? (i := 47) (by decide +kernel)), (List.mem_of_getElem? (i := 1128) (by decide +kernel)), by decide +kernel, by decide +kernel, by decide +kernel⟩
theorem kM_X6_209 : zMS RX6 209 yX6_sum cX6_sum 3 (some .int) 1 := ⟨kC_X6_sum, Or.inl (List.mem_of_getElem? (i := 1126) (by decide +kernel)), (List.mem_of_getElem? (i := 1127) (by decide +kernel))⟩
theorem kC_X6_locked : zMc yX6_locked cX6_locked 4 (some .int) 2 := ⟨(List.mem_of_getElem? (i := 47) (by decide +kernel)), (List.mem_of_getElem? (i := 1131) (by decide +kernel)), by decide +kernel, by decide +kernel, by decide +kernel⟩
theorem kM_X6_213 : zMS RX6 213 yX6_locked cX6_locked 4 (some .int) 2 := ⟨kC_X6_locked, Or.inl (List.mem_of_getElem? (i := 1129) (by decide +kernel)), (List.mem_of_getElem? (i := 1130) (by decide +kernel))⟩
theorem kC_X6_together : zMc yX6_together cX6_together 4 (some .int) 2 := ⟨(List.mem_of_getElem? (i := 47) (by decide +kernel)), (List.mem_of_getElem? (i := 1134) (by decide +kernel)), by decide +kernel, by decide +kernel, by decide +kernel⟩
theorem kM_X6_216 : zMS RX6 216 yX6_together cX6_together 4 (some .int) 2 := ⟨kC_X6_together, Or.inl (List.mem_of_getElem? (i := 1132) (by decide +kernel)), (List.mem_of_getElem? (i := 1133) (by decide +kernel))⟩
theorem kC_X6_spoiled : zMc yX6_spoiled cX6_spoiled 3 (some .int) 1 := ⟨(List.mem_of_getElem? (i := 47) (by decide +kernel)), (List.mem_of_getElem? (i := 1137) (by decide +kernel)), by decide +kernel, by decide +kernel, by decide +kernel⟩
theorem kM_X6_219 : zMS RX6 219 yX6_spoiled cX6_spoiled 3 (some .int) 1 := ⟨kC_X6_spoiled, Or.inl (List.mem_of_getElem? (i := 1135) (by decide +kernel)), (List.mem_of_getElem? (i := 1136) (by decide +kernel))⟩
theorem kC_X6_isCell : zMc yX6_isCell cX6_isCell 1 (some .boolean) 1 := ⟨(List.mem_of_getElem? (i := 47) (by decide +kernel)), (List.mem_of_getElem? (i := 1144) (by decide +kernel)), by decide +kernel, by decide +kernel, by decide +kernel⟩
theorem kM_X6_226 : zMS RX6 226 yX6_isCell cX6_isCell 1 (some .boolean) 1 := ⟨kC_X6_isCell, Or.inl (List.mem_of_getElem? (i := 1142) (by decide +kernel)), (List.mem_of_getElem? (i := 1143) (by decide +kernel))⟩
theorem kC_X6_oldest : zMc yX6_oldest cX6_oldest 6 (some .int) 1 := ⟨(List.mem_of_getElem? (i := 47) (by decide +kernel)), (List.mem_of_getElem? (i := 1150) (by decide +kernel)), by decide +kernel, by decide +kernel, by decide +kernel⟩
theorem kM_X6_229 : zMV RX6 229 yX6_oldest cX6_oldest 6 (some .int) 1 6 := ⟨kC_X6_oldest, (List.mem_of_getElem? (i := 1147) (by decide +kernel)), (List.mem_of_getElem? (i := 1149) (by decide +kernel)), (List.mem_of_getElem? (i := 25) (by decide +kernel)), ⟨_, rfl, rfl⟩⟩
theorem kC_X6_isWorker : zMc yX6_isWorker cX6_isWorker 1 (some .boolean) 1 := ⟨(List.mem_of_getElem? (i := 47) (by decide +kernel)), (List.mem_of_getElem? (i := 1157) (by decide +kernel)), by decide +kernel, by decide +kernel, by decide +kernel⟩
theorem kM_X6_232 : zMS RX6 232 yX6_isWorker cX6_isWorker 1 (some .boolean) 1 := ⟨kC_X6_isWorker, Or.inl (List.mem_of_getElem? (i := 1155) (by decide +kernel)), (List.mem_of_getElem? (i := 1156) (by decide +kernel))⟩
theorem kC_X6_remember : zMc yX6_remember cX6_remember 1 none 0 := ⟨(List.mem_of_getElem? (i := 47) (by decide +kernel)), (List.mem_of_getElem? (i := 1175) (by decide +kernel)), by decide +kernel, by decide +kernel, by decide +kernel⟩
theorem kM_X6_239 : zMV RX6 239 yX6_remember cX6_remember 1 none 0 6 := ⟨kC_X6_remember, (List.mem_of_getElem? (i := 1172) (by decide +kernel)), (List.mem_of_getElem? (i := 1174) (by decide +kernel)), (List.mem_of_getElem? (i := 26) (by decide +kernel)), ⟨_, rfl, rfl⟩⟩
theorem kC_X6_takeUp : zMc yX6_takeUp cX6_takeUp 4 none 1 := ⟨(List.mem_of_getElem? (i := 47) (by decide +kernel)), (List.mem_of_getElem? (i := 1217) (by decide +kernel)), by decide +kernel, by decide +kernel, by decide +kernel⟩
theorem kM_X6_246 : zMV RX6 246 yX6_takeUp cX6_takeUp 4 none 1 6 := ⟨kC_X6_takeUp, (List.mem_of_getElem? (i := 1214) (by decide +kernel)), (List.mem_of_getElem? (i := 1216) (by decide +kernel)), (List.mem_of_getElem? (i := 28) (by decide +kernel)), ⟨_, rfl, rfl⟩⟩
theorem kC_X6_tryIt : zMc yX6_tryIt cX6_tryIt 1 none 0 := ⟨(List.mem_of_getElem? (i := 47) (by decide +kernel)), (List.mem_of_getElem? (i := 1229) (by decide +kernel)), by decide +kernel, by decide +kernel, by decide +kernel⟩
theorem kM_X6_249 : zMV RX6 249 yX6_tryIt cX6_tryIt 1 none 0 6 := ⟨kC_X6_tryIt, (List.mem_of_getElem? (i := 1226) (by decide +kernel)), (List.mem_of_getElem? (i := 1228) (by decide +kernel)), (List.mem_of_getElem? (i := 29) (by decide +kernel)), ⟨_, rfl, rfl⟩⟩
theorem kC_X6_other : zMc yX6_other cX6_other 3 (some .int) 0 := ⟨(List.mem_of_getElem? (i := 47) (by decide +kernel)), (List.mem_of_getElem? (i := 1237) (by decide +kernel)), by decide +kernel, by decide +kernel, by decide +kernel⟩
theorem kM_X6_252 : zMV RX6 252 yX6_other cX6_other 3 (some .int) 0 6 := ⟨kC_X6_other, (List.mem_of_getElem? (i := 1234) (by decide +kernel)), (List.mem_of_getElem? (i := 1236) (by decide +kernel)), (List.mem_of_getElem? (i := 30) (by decide +kernel)), ⟨_, rfl, rfl⟩⟩
theorem kC_X6_bare : zMc yX6_bare cX6_bare 3 (some .boolean) 2 := ⟨(List.mem_of_getElem? (i := 47) (by decide +kernel)), (List.mem_of_getElem? (i := 1262) (by decide +kernel)), by decide +kernel, by decide +kernel, by decide +kernel⟩
theorem kM_X6_255 : zMV RX6 255 yX6_bare cX6_bare 3 (some .boolean) 2 6 := ⟨kC_X6_bare, (List.mem_of_getElem? (i := 1259) (by decide +kernel)), (List.mem_of_getElem? (i := 1261) (by decide +kernel)), (List.mem_of_getElem? (i := 32) (by decide +kernel)), ⟨_, rfl, rfl⟩⟩
theorem kC_X6_writes : zMc yX6_writes cX6_writes 4 (some .boolean) 3 := ⟨(List.mem_of_getElem? (i := 47) (by decide +kernel)), (List.mem_of_getElem? (i := 1266) (by decide +kernel)), by decide +kernel, by decide +kernel, by decide +kernel⟩
theorem kM_X6_259 : zMV RX6 259 yX6_writes cX6_writes 4 (some .boolean) 3 6 := ⟨kC_X6_writes, (List.mem_of_getElem? (i := 1263) (by decide +kernel)), (List.mem_of_getElem? (i := 1265) (by decide +kernel)), (List.mem_of_getElem? (i := 33) (by decide +kernel)), ⟨_, rfl, rfl⟩⟩
theorem kC_X6_goesBack : zMc yX6_goesBack cX6_goesBack 3 (some .boolean) 2 := ⟨(List.mem_of_getElem? (i := 47) (by decide +kernel)), (List.mem_of_getElem? (i := 1270) (by decide +kernel)), by decide +kernel, by decide +kernel, by decide +kernel⟩
theorem kM_X6_263 : zMV RX6 263 yX6_goesBack cX6_goesBack 3 (some .boolean) 2 6 := ⟨kC_X6_goesBack, (List.mem_of_getElem? (i := 1267) (by decide +kernel)), (List.mem_of_getElem? (i := 1269) (by decide +kernel)), (List.mem_of_getElem? (i := 34) (by decide +kernel)), ⟨_, rfl, rfl⟩⟩
theorem kC_X6_regrets : zMc yX6_regrets cX6_regrets 4 (some .boolean) 3 := ⟨(List.mem_of_getElem? (i := 47) (by decide +kernel)), (List.mem_of_getElem? (i := 1274) (by decide +kernel)), by decide +kernel, by decide +kernel, by decide +kernel⟩
theorem kM_X6_266 : zMV RX6 266 yX6_regrets cX6_regrets 4 (some .boolean) 3 6 := ⟨kC_X6_regrets, (List.mem_of_getElem? (i := 1271) (by decide +kernel)), (List.mem_of_getElem? (i := 1273) (by decide +kernel)), (List.mem_of_getElem? (i := 35) (by decide +kernel)), ⟨_, rfl, rfl⟩⟩
theorem kC_X6_tenTo : zMc yX6_tenTo cX6_tenTo 4 (some .long) 1 := ⟨(List.mem_of_getElem? (i := 47) (by decide +kernel)), (List.mem_of_getElem? (i := 1252) (by decide +kernel)), by decide +kernel, by decide +kernel, by decide +kernel⟩
theorem kM_X6_269 : zMS RX6 269 yX6_tenTo cX6_tenTo 4 (some .long) 1 := ⟨kC_X6_tenTo, Or.inl (List.mem_of_getElem? (i := 1250) (by decide +kernel)), (List.mem_of_getElem? (i := 1251) (by decide +kernel))⟩
theorem kC_X6_does : zMc yX6_does cX6_does 6 (some .boolean) 1 := ⟨(List.mem_of_getElem? (i := 47) (by decide +kernel)), (List.mem_of_getElem? (i := 1258) (by decide +kernel)), by decide +kernel, by decide +kernel, by decide +kernel⟩
theorem kM_X6_275 : zMV RX6 275 yX6_does cX6_does 6 (some .boolean) 1 6 := ⟨kC_X6_does, (List.mem_of_getElem? (i := 1255) (by decide +kernel)), (List.mem_of_getElem? (i := 1257) (by decide +kernel)), (List.mem_of_getElem? (i := 31) (by decide +kernel)), ⟨_, rfl, rfl⟩⟩
theorem kC_X6_stir : zMc yX6_stir cX6_stir 4 none 1 := ⟨(List.mem_of_getElem? (i := 47) (by decide +kernel)), (List.mem_of_getElem? (i := 1284) (by decide +kernel)), by decide +kernel, by decide +kernel, by decide +kernel⟩
theorem kM_X6_282 : zMV RX6 282 yX6_stir cX6_stir 4 none 1 6 := ⟨kC_X6_stir, (List.mem_of_getElem? (i := 1281) (by decide +kernel)), (List.mem_of_getElem? (i := 1283) (by decide +kernel)), (List.mem_of_getElem? (i := 36) (by decide +kernel)), ⟨_, rfl, rfl⟩⟩
theorem kA_47 : (vx_atS RX5 47 "java/lang/IllegalArgumentException" ["java/lang/RuntimeException", "java/lang/Exception"]).all (fun w => decide (w ∈ lw_tbl) && zGoodW w && w.onTables) = true := by decide +kernel
theorem kT_43_45_47 : zTh RX5 43 45 47 "java/lang/IllegalArgumentException" ["java/lang/RuntimeException", "java/lang/Exception"] := ⟨by decide +kernel, by decide +kernel, (List.mem_of_getElem? (i := 377) (by decide +kernel)), (List.mem_of_getElem? (i := 51) (by decide +kernel)), ⟨"no such character code", (List.mem_of_getElem? (i := 418) (by decide +kernel))⟩, kA_47⟩
theorem kT_43_124_47 : zTh RX5 43 124 47 "java/lang/IllegalArgumentException" ["java/lang/RuntimeException", "java/lang/Exception"] := ⟨by decide +kernel, by decide +kernel, (List.mem_of_getElem? (i := 377) (by decide +kernel)), (List.mem_of_getElem? (i := 51) (by decide +kernel)), ⟨"no such number", (List.mem_of_getElem? (i := 634) (by decide +kernel))⟩, kA_47⟩
theorem kT_43_138_47 : zTh RX5 43 138 47 "java/lang/IllegalArgumentException" ["java/lang/RuntimeException", "java/lang/Exception"] := ⟨by decide +kernel, by decide +kernel, (List.mem_of_getElem? (i := 377) (by decide +kernel)), (List.mem_of_getElem? (i := 51) (by decide +kernel)), ⟨"no such number of a cell", (List.mem_of_getElem? (i := 666) (by decide +kernel))⟩, kA_47⟩
theorem kT_43_144_47 : zTh RX5 43 144 47 "java/lang/IllegalArgumentException" ["java/lang/RuntimeException", "java/lang/Exception"] := ⟨by decide +kernel, by decide +kernel, (List.mem_of_getElem? (i := 377) (by decide +kernel)), (List.mem_of_getElem? (i := 51) (by decide +kernel)), ⟨"no such number of a worker", (List.mem_of_getElem? (i := 680) (by decide +kernel))⟩, kA_47⟩
theorem kT_43_177_47 : zTh RX5 43 177 47 "java/lang/IllegalArgumentException" ["java/lang/RuntimeException", "java/lang/Exception"] := ⟨by decide +kernel, by decide +kernel, (List.mem_of_getElem? (i := 377) (by decide +kernel)), (List.mem_of_getElem? (i := 51) (by decide +kernel)), ⟨"no such number of a work", (List.mem_of_getElem? (i := 693) (by decide +kernel))⟩, kA_47⟩
theorem kT_43_179_47 : zTh RX5 43 179 47 "java/lang/IllegalArgumentException" ["java/lang/RuntimeException", "java/lang/Exception"] := ⟨by decide +kernel, by decide +kernel, (List.mem_of_getElem? (i := 377) (by decide +kernel)), (List.mem_of_getElem? (i := 51) (by decide +kernel)), ⟨"entries are counted from 0", (List.mem_of_getElem? (i := 701) (by decide +kernel))⟩, kA_47⟩
theorem kT_43_191_47 : zTh RX5 43 191 47 "java/lang/IllegalArgumentException" ["java/lang/RuntimeException", "java/lang/Exception"] := ⟨by decide +kernel, by decide +kernel, (List.mem_of_getElem? (i := 377) (by decide +kernel)), (List.mem_of_getElem? (i := 51) (by decide +kernel)), ⟨"no such value", (List.mem_of_getElem? (i := 750) (by decide +kernel))⟩, kA_47⟩
theorem kT_43_200_47 : zTh RX5 43 200 47 "java/lang/IllegalArgumentException" ["java/lang/RuntimeException", "java/lang/Exception"] := ⟨by decide +kernel, by decide +kernel, (List.mem_of_getElem? (i := 377) (by decide +kernel)), (List.mem_of_getElem? (i := 51) (by decide +kernel)), ⟨"no such number for a regret", (List.mem_of_getElem? (i := 777) (by decide +kernel))⟩, kA_47⟩
theorem kT_43_202_47 : zTh RX5 43 202 47 "java/lang/IllegalArgumentException" ["java/lang/RuntimeException", "java/lang/Exception"] := ⟨by decide +kernel, by decide +kernel, (List.mem_of_getElem? (i := 377) (by decide +kernel)), (List.mem_of_getElem? (i := 51) (by decide +kernel)), ⟨"no such mercy", (List.mem_of_getElem? (i := 799) (by decide +kernel))⟩, kA_47⟩
theorem kT_43_219_47 : zTh RX5 43 219 47 "java/lang/IllegalArgumentException" ["java/lang/RuntimeException", "java/lang/Exception"] := ⟨by decide +kernel, by decide +kernel, (List.mem_of_getElem? (i := 377) (by decide +kernel)), (List.mem_of_getElem? (i := 51) (by decide +kernel)), ⟨"no such number of failures", (List.mem_of_getElem? (i := 827) (by decide +kernel))⟩, kA_47⟩
theorem kT_43_251_47 : zTh RX5 43 251 47 "java/lang/IllegalArgumentException" ["java/lang/RuntimeException", "java/lang/Exception"] := ⟨by decide +kernel, by decide +kernel, (List.mem_of_getElem? (i := 377) (by decide +kernel)), (List.mem_of_getElem? (i := 51) (by decide +kernel)), ⟨"no such number of commands", (List.mem_of_getElem? (i := 864) (by decide +kernel))⟩, kA_47⟩
theorem kT_43_257_47 : zTh RX5 43 257 47 "java/lang/IllegalArgumentException" ["java/lang/RuntimeException", "java/lang/Exception"] := ⟨by decide +kernel, by decide +kernel, (List.mem_of_getElem? (i := 377) (by decide +kernel)), (List.mem_of_getElem? (i := 51) (by decide +kernel)), ⟨"no such script", (List.mem_of_getElem? (i := 869) (by decide +kernel))⟩, kA_47⟩
theorem kT_43_264_47 : zTh RX5 43 264 47 "java/lang/IllegalArgumentException" ["java/lang/RuntimeException", "java/lang/Exception"] := ⟨by decide +kernel, by decide +kernel, (List.mem_of_getElem? (i := 377) (by decide +kernel)), (List.mem_of_getElem? (i := 51) (by decide +kernel)), ⟨"no such number of steps", (List.mem_of_getElem? (i := 886) (by decide +kernel))⟩, kA_47⟩
theorem kA_58 : (vx_atS RX5 58 "java/lang/IllegalStateException" ["java/lang/RuntimeException", "java/lang/Exception"]).all (fun w => decide (w ∈ lw_tbl) && zGoodW w && w.onTables) = true := by decide +kernel
theorem kT_54_56_58 : zTh RX5 54 56 58 "java/lang/IllegalStateException" ["java/lang/RuntimeException", "java/lang/Exception"] := ⟨by decide +kernel, by decide +kernel, (List.mem_of_getElem? (i := 444) (by decide +kernel)), (List.mem_of_getElem? (i := 52) (by decide +kernel)), ⟨"the text is full", (List.mem_of_getElem? (i := 453) (by decide +kernel))⟩, kA_58⟩
theorem kT_54_91_58 : zTh RX5 54 91 58 "java/lang/IllegalStateException" ["java/lang/RuntimeException", "java/lang/Exception"] := ⟨by decide +kernel, by decide +kernel, (List.mem_of_getElem? (i := 444) (by decide +kernel)), (List.mem_of_getElem? (i := 52) (by decide +kernel)), ⟨"the text is not a story", (List.mem_of_getElem? (i := 469) (by decide +kernel))⟩, kA_58⟩
theorem kT_54_211_58 : zTh RX5 54 211 58 "java/lang/IllegalStateException" ["java/lang/RuntimeException", "java/lang/Exception"] := ⟨by decide +kernel, by decide +kernel, (List.mem_of_getElem? (i := 444) (by decide +kernel)), (List.mem_of_getElem? (i := 52) (by decide +kernel)), ⟨"no state is remembered", (List.mem_of_getElem? (i := 807) (by decide +kernel))⟩, kA_58⟩
theorem kT_54_276_58 : zTh RX5 54 276 58 "java/lang/IllegalStateException" ["java/lang/RuntimeException", "java/lang/Exception"] := ⟨by decide +kernel, by decide +kernel, (List.mem_of_getElem? (i := 444) (by decide +kernel)), (List.mem_of_getElem? (i := 52) (by decide +kernel)), ⟨"nothing has been saved in this slot", (List.mem_of_getElem? (i := 911) (by decide +kernel))⟩, kA_58⟩
theorem kT_54_296_58 : zTh RX5 54 296 58 "java/lang/IllegalStateException" ["java/lang/RuntimeException", "java/lang/Exception"] := ⟨by decide +kernel, by decide +kernel, (List.mem_of_getElem? (i := 444) (by decide +kernel)), (List.mem_of_getElem? (i := 52) (by decide +kernel)), ⟨"not possible now", (List.mem_of_getElem? (i := 714) (by decide +kernel))⟩, kA_58⟩
theorem kA_160 : (vx_atS RX5 160 "java/lang/IndexOutOfBoundsException" ["java/lang/RuntimeException", "java/lang/Exception"]).all (fun w => decide (w ∈ lw_tbl) && zGoodW w && w.onTables) = true := by decide +kernel
theorem kT_156_158_160 : zTh RX5 156 158 160 "java/lang/IndexOutOfBoundsException" ["java/lang/RuntimeException", "java/lang/Exception"] := ⟨by decide +kernel, by decide +kernel, (List.mem_of_getElem? (i := 646) (by decide +kernel)), (List.mem_of_getElem? (i := 57) (by decide +kernel)), ⟨"no such work", (List.mem_of_getElem? (i := 690) (by decide +kernel))⟩, kA_160⟩
theorem kT_156_278_160 : zTh RX5 156 278 160 "java/lang/IndexOutOfBoundsException" ["java/lang/RuntimeException", "java/lang/Exception"] := ⟨by decide +kernel, by decide +kernel, (List.mem_of_getElem? (i := 646) (by decide +kernel)), (List.mem_of_getElem? (i := 57) (by decide +kernel)), ⟨"no such worker", (List.mem_of_getElem? (i := 679) (by decide +kernel))⟩, kA_160⟩
theorem kT_156_283_160 : zTh RX5 156 283 160 "java/lang/IndexOutOfBoundsException" ["java/lang/RuntimeException", "java/lang/Exception"] := ⟨by decide +kernel, by decide +kernel, (List.mem_of_getElem? (i := 646) (by decide +kernel)), (List.mem_of_getElem? (i := 57) (by decide +kernel)), ⟨"no such cell", (List.mem_of_getElem? (i := 655) (by decide +kernel))⟩, kA_160⟩
theorem kT_156_288_160 : zTh RX5 156 288 160 "java/lang/IndexOutOfBoundsException" ["java/lang/RuntimeException", "java/lang/Exception"] := ⟨by decide +kernel, by decide +kernel, (List.mem_of_getElem? (i := 646) (by decide +kernel)), (List.mem_of_getElem? (i := 57) (by decide +kernel)), ⟨"no such point", (List.mem_of_getElem? (i := 769) (by decide +kernel))⟩, kA_160⟩
theorem kT_156_290_160 : zTh RX5 156 290 160 "java/lang/IndexOutOfBoundsException" ["java/lang/RuntimeException", "java/lang/Exception"] := ⟨by decide +kernel, by decide +kernel, (List.mem_of_getElem? (i := 646) (by decide +kernel)), (List.mem_of_getElem? (i := 57) (by decide +kernel)), ⟨"no such save slot", (List.mem_of_getElem? (i := 903) (by decide +kernel))⟩, kA_160⟩
end
section
/-! ghosts: each cell has a tag (r), each row's array a length (k), by its tag -/
abbrev zH : Type := (Nat → Nat) × (Nat → Nat)
/-- from a heap to a later one: only cells whose tags are in T have changed -/
def zFr (H : Heap) (r : zH) (H1 : Heap) (r1 : zH) (T : Nat → Prop) : Prop := H.size ≤ H1.size ∧ (∀ q : Nat, q < H.size → r1.1 q = r.1 q) ∧ (∀ q : Nat, q < H.size → ¬ T (r.1 q) → H1[q]? = H[q]?) ∧ ∀ t : Nat, ¬ T t → r1.2 t = r.2 t
theorem zFr.rf {H : Heap} {r : zH} {T : Nat → Prop} : zFr H r H r T := ⟨Nat.le_refl _, fun _ _ => rfl, fun _ _ _ => rfl, fun _ _ => rfl⟩
theorem zFr.tr {H H1 H2 : Heap} {r r1 r2 : zH} {T : Nat → Prop} (a : zFr H r H1 r1 T) (b : zFr H1 r1 H2 r2 T) : zFr H r H2 r2 T :=
  ⟨Nat.le_trans a.1 b.1, fun q h => (b.2.1 q (Nat.lt_of_lt_of_le h a.1)).trans (a.2.1 q h), fun q h n => (b.2.2.1 q (Nat.lt_of_lt_of_le h a.1) (by rw [a.2.1 q h]; exact n)).trans (a.2.2.1 q h n), fun t n => (b.2.2.2 t n).trans (a.2.2.2 t n)⟩
theorem zFr.up {H H1 : Heap} {r r1 : zH} {T U : Nat → Prop} (a : zFr H r H1 r1 T) (h : ∀ t, T t → U t) : zFr H r H1 r1 U := ⟨a.1, a.2.1, fun q hq n => a.2.2.1 q hq (fun z => n (h _ z)), fun t n => a.2.2.2 t (fun z => n (h _ z))⟩
theorem zCh.fr {H H1 : Heap} {q : Nat} (h : zCh H H1 q) (r : zH) : zFr H r H1 r (fun t => t = r.1 q) := ⟨Nat.le_of_eq h.1.symm, fun _ _ => rfl, fun p _ n => h.2 p (fun e => n (by rw [e])), fun _ _ => rfl⟩
/-- a new cell gets its tag -/
def zTag (r : zH) (q t : Nat) : zH := (fun p => if p = q then t else r.1 p, r.2)
/-- a row's new length -/
def zCap (r : zH) (t c : Nat) : zH := (r.1, fun p => if p = t then c else r.2 p)
theorem zTag_1 {r : zH} {q t : Nat} : (zTag r q t).1 q = t := if_pos rfl
theorem zNew.fr {H H1 : Heap} (h : zNew H H1) (r : zH) (t : Nat) (T : Nat → Prop) : zFr H r H1 (zTag r H.size t) T := ⟨by rw [h.1]; omega, fun q hq => if_neg (by omega), fun q hq _ => h.2 q hq, fun _ _ => rfl⟩
theorem zCap.fr {H : Heap} {r : zH} {t c : Nat} : zFr H r H (zCap r t c) (fun s => s = t) := ⟨Nat.le_refl _, fun _ _ => rfl, fun _ _ _ => rfl, fun s n => if_neg n⟩
/-- an object with its tag; a row of numbers with its tag -/
def zO (E : zE) (H : Heap) (r : zH) (t q ci : Nat) (fs : List Value) : Prop := zOb E H q ci fs ∧ r.1 q = t
def zA (E : zE) (H : Heap) (r : zH) (t q n : Nat) (g : Int → Int) : Prop := zIA E H q 0 n g ∧ r.1 q = t
def zQr (E : zE) (H : Heap) (r : zH) (t q k n : Nat) (g : Int → Option Nat) : Prop := zRA E H q k n g ∧ r.1 q = t
section ZFR
variable {E : zE} {H H1 : Heap} {r r1 : zH} {T : Nat → Prop} {t q ci n k : Nat} {fs : List Value} {g : Int → Int} {gr : Int → Option Nat}
theorem zO.fr (h : zO E H r t q ci fs) (f : zFr H r H1 r1 T) (n : ¬ T t) : zO E H1 r1 t q ci fs := ⟨h.1.kept (f.2.2.1 q h.1.lt (by rw [h.2]; exact n)), (f.2.1 q h.1.lt).trans h.2⟩
theorem zA.fr (h : zA E H r t q n g) (f : zFr H r H1 r1 T) (m : ¬ T t) : zA E H1 r1 t q n g := ⟨h.1.kept (f.2.2.1 q h.1.lt (by rw [h.2]; exact m)), (f.2.1 q h.1.lt).trans h.2⟩
theorem zQr.fr (h : zQr E H r t q k n gr) (f : zFr H r H1 r1 T) (m : ¬ T t) : zQr E H1 r1 t q k n gr := ⟨h.1.kept (f.2.2.1 q h.1.lt (by rw [h.2]; exact m)), (f.2.1 q h.1.lt).trans h.2⟩
end ZFR
/-- a Row: 'n' numbers 'g', at most 'most' -/
def zRow (E : zE) (H : Heap) (r : zH) (t q : Nat) (most : Nat) (n : Int) (g : Int → Int) : Prop :=
  ∃ (it : Nat) (f : Int → Int), zO E H r t q 1 [.int (iI most), .ref it, .int (iI n)] ∧ zA E H r (t + 1) it (r.2 (t + 1)) f ∧ (∀ i : Int, 0 ≤ i → i < n → f i = g i) ∧ 0 ≤ n ∧ n ≤ r.2 (t + 1) ∧ 1 ≤ r.2 (t + 1) ∧ r.2 (t + 1) ≤ most ∧ most ≤ 1024
theorem zRow.fr {E : zE} {H H1 : Heap} {r r1 : zH} {T : Nat → Prop} {t q most : Nat} {n : Int} {g : Int → Int} (h : zRow E H r t q most n g) (f : zFr H r H1 r1 T) (a : ¬ T t) (b : ¬ T (t + 1)) : zRow E H1 r1 t q most n g := by
  obtain ⟨it, f0, h1, h2, h3⟩ := h
  have e := f.2.2.2 (t + 1) b
  exact ⟨it, f0, h1.fr f a, by rw [e]; exact h2.fr f b, by rw [e]; exact h3⟩
theorem zRow.to {E : zE} {H : Heap} {r : zH} {t q most : Nat} {n : Int} {g g1 : Int → Int} (h : zRow E H r t q most n g) (e : ∀ i : Int, 0 ≤ i → i < n → g i = g1 i) : zRow E H r t q most n g1 := by
  obtain ⟨it, f0, h1, h2, h3, h4⟩ := h
  exact ⟨it, f0, h1, h2, fun i a b => (h3 i a b).trans (e i a b), h4⟩
end
section
/-! rules of the walk: calls by what they answer; ends -/
def zRi (r : Int) (P : Heap → Prop) : Option Value → Heap → Prop := fun v H1 => v = some (.int (iI r)) ∧ P H1
def zRv (P : Heap → Prop) : Option Value → Heap → Prop := fun v H1 => v = none ∧ P H1
def zRr (o : Option Nat) (P : Heap → Prop) : Option Value → Heap → Prop := fun v H1 => v = some (va_rf o) ∧ P H1
def zRl (r : Int) (P : Heap → Prop) : Option Value → Heap → Prop := fun v H1 => v = some (.long (iL r)) ∧ P H1
/-- nothing has changed -/
abbrev zSm (H : Heap) : Heap → Prop := fun H1 => H1 = H
theorem zNx {x : zX} : ∀ (X : String) (H1 : Heap), zN X H1 → zPx x X H1 := fun _ _ h => h.elim
theorem zT1 {t s : Nat} (h : s ≠ t) : ¬ (fun p => p = t) s := h
theorem zb_t {c : Bool} (h : c = true) : 1 = zb c := by rw [h]; rfl
theorem zb_f {c : Bool} (h : c = false) : 0 = zb c := by rw [h]; rfl
theorem zO.ch {E : zE} {H H1 : Heap} {r : zH} {t q ci : Nat} {fs : List Value} (h : zO E H r t q ci fs) (c : zCh H H1 q) : zFr H r H1 r (fun s => s = t) := by have f := c.fr r; rw [h.2] at f; exact f
theorem zA.ch {E : zE} {H H1 : Heap} {r : zH} {t q n : Nat} {g : Int → Int} (h : zA E H r t q n g) (c : zCh H H1 q) : zFr H r H1 r (fun s => s = t) := by have f := c.fr r; rw [h.2] at f; exact f
theorem zQr.ch {E : zE} {H H1 : Heap} {r : zH} {t q n k : Nat} {g : Int → Option Nat} (h : zQr E H r t q k n g) (c : zCh H H1 q) : zFr H r H1 r (fun s => s = t) := by have f := c.fr r; rw [h.2] at f; exact f
section ZD
variable {x : zX} {own : String} {cc : ByteArray} {nL : Nat} {ret : Option FieldType} {nm : String} {F L mc ms : Nat} {H : Heap} {a b pc : Nat} {lv : List (Nat × Value)} {rest st : List Value} {idx : Nat}
variable {y : MethodName} {cc2 : ByteArray} {nL2 : Nat} {ret2 : Option FieldType} {n F2 L2 mc2 ms2 : Nat} {P : Heap → Prop} {px : String → Heap → Prop} {q ci : Nat} {fs : List Value} {r : Int} {o : Option Nat}
theorem z_Vi (As rest : List Value) (Lk : zMV own idx y cc2 nL2 ret2 n ci) (O : zOk x own cc nL ret nm F L mc ms) (d : decode cc pc = .ok (.invokevirtual idx, 3)) (C : zC (zEn x) y cc2 nL2 ret2 F2 L2 (.ref q :: As) H 0 0 (zRi r (zSm H)) px) (hs : As.reverse ++ .ref q :: rest = st) (hn : As.length = n) (ho : zOb (zEn x) H q ci fs) (hF : F2 + 1 ≤ F) (hL : 8 + (nL2 + 11) + L2 ≤ L) (hmc : a ≤ mc) (hms : b ≤ ms) (hW : (rest.map fun v => v.category).sum ≤ 8) (hpx : ∀ X H1, px X H1 → zPx x X H1) (K : zG x H a b (pc + 3) lv (.int (iI r) :: rest)) : zG x H a b pc lv st := by
  subst hs
  exact z_invV Lk O d C hn ho hF hL hmc hms hW hpx (fun v H1 hp hz => by obtain ⟨rfl, rfl⟩ := hp; exact K)
theorem z_Vim (As rest : List Value) (Lk : zMV own idx y cc2 nL2 ret2 n ci) (O : zOk x own cc nL ret nm F L mc ms) (d : decode cc pc = .ok (.invokevirtual idx, 3)) (C : zC (zEn x) y cc2 nL2 ret2 F2 L2 (.ref q :: As) H mc2 ms2 (zRi r P) px) (hs : As.reverse ++ .ref q :: rest = st) (hn : As.length = n) (ho : zOb (zEn x) H q ci fs) (hF : F2 + 1 ≤ F) (hL : 8 + (nL2 + 11) + L2 ≤ L) (hmc : a + mc2 ≤ mc) (hms : b + ms2 ≤ ms) (hW : (rest.map fun v => v.category).sum ≤ 8) (hpx : ∀ X H1, px X H1 → zPx x X H1) (K : ∀ H1 : Heap, P H1 → zF (zEn x) H H1 → zG x H1 (a + mc2) (b + ms2) (pc + 3) lv (.int (iI r) :: rest)) : zG x H a b pc lv st := by
  subst hs
  exact z_invV Lk O d C hn ho hF hL hmc hms hW hpx (fun v H1 hp hz => by obtain ⟨rfl, h2⟩ := hp; exact K H1 h2 hz)
theorem z_Vv (As rest : List Value) (Lk : zMV own idx y cc2 nL2 ret2 n ci) (O : zOk x own cc nL ret nm F L mc ms) (d : decode cc pc = .ok (.invokevirtual idx, 3)) (C : zC (zEn x) y cc2 nL2 ret2 F2 L2 (.ref q :: As) H 0 0 (zRv (zSm H)) px) (hs : As.reverse ++ .ref q :: rest = st) (hn : As.length = n) (ho : zOb (zEn x) H q ci fs) (hF : F2 + 1 ≤ F) (hL : 8 + (nL2 + 11) + L2 ≤ L) (hmc : a ≤ mc) (hms : b ≤ ms) (hW : (rest.map fun v => v.category).sum ≤ 8) (hpx : ∀ X H1, px X H1 → zPx x X H1) (K : zG x H a b (pc + 3) lv rest) : zG x H a b pc lv st := by
  subst hs
  exact z_invV Lk O d C hn ho hF hL hmc hms hW hpx (fun v H1 hp hz => by obtain ⟨rfl, rfl⟩ := hp; exact K)
theorem z_Vvm (As rest : List Value) (Lk : zMV own idx y cc2 nL2 ret2 n ci) (O : zOk x own cc nL ret nm F L mc ms) (d : decode cc pc = .ok (.invokevirtual idx, 3)) (C : zC (zEn x) y cc2 nL2 ret2 F2 L2 (.ref q :: As) H mc2 ms2 (zRv P) px) (hs : As.reverse ++ .ref q :: rest = st) (hn : As.length = n) (ho : zOb (zEn x) H q ci fs) (hF : F2 + 1 ≤ F) (hL : 8 + (nL2 + 11) + L2 ≤ L) (hmc : a + mc2 ≤ mc) (hms : b + ms2 ≤ ms) (hW : (rest.map fun v => v.category).sum ≤ 8) (hpx : ∀ X H1, px X H1 → zPx x X H1) (K : ∀ H1 : Heap, P H1 → zF (zEn x) H H1 → zG x H1 (a + mc2) (b + ms2) (pc + 3) lv rest) : zG x H a b pc lv st := by
  subst hs
  exact z_invV Lk O d C hn ho hF hL hmc hms hW hpx (fun v H1 hp hz => by obtain ⟨rfl, h2⟩ := hp; exact K H1 h2 hz)
theorem z_Vr (As rest : List Value) (Lk : zMV own idx y cc2 nL2 ret2 n ci) (O : zOk x own cc nL ret nm F L mc ms) (d : decode cc pc = .ok (.invokevirtual idx, 3)) (C : zC (zEn x) y cc2 nL2 ret2 F2 L2 (.ref q :: As) H 0 0 (zRr o (zSm H)) px) (hs : As.reverse ++ .ref q :: rest = st) (hn : As.length = n) (ho : zOb (zEn x) H q ci fs) (hF : F2 + 1 ≤ F) (hL : 8 + (nL2 + 11) + L2 ≤ L) (hmc : a ≤ mc) (hms : b ≤ ms) (hW : (rest.map fun v => v.category).sum ≤ 8) (hpx : ∀ X H1, px X H1 → zPx x X H1) (K : zG x H a b (pc + 3) lv (va_rf o :: rest)) : zG x H a b pc lv st := by
  subst hs
  exact z_invV Lk O d C hn ho hF hL hmc hms hW hpx (fun v H1 hp hz => by obtain ⟨rfl, rfl⟩ := hp; exact K)
theorem z_Vrm (As rest : List Value) (Lk : zMV own idx y cc2 nL2 ret2 n ci) (O : zOk x own cc nL ret nm F L mc ms) (d : decode cc pc = .ok (.invokevirtual idx, 3)) (C : zC (zEn x) y cc2 nL2 ret2 F2 L2 (.ref q :: As) H mc2 ms2 (zRr o P) px) (hs : As.reverse ++ .ref q :: rest = st) (hn : As.length = n) (ho : zOb (zEn x) H q ci fs) (hF : F2 + 1 ≤ F) (hL : 8 + (nL2 + 11) + L2 ≤ L) (hmc : a + mc2 ≤ mc) (hms : b + ms2 ≤ ms) (hW : (rest.map fun v => v.category).sum ≤ 8) (hpx : ∀ X H1, px X H1 → zPx x X H1) (K : ∀ H1 : Heap, P H1 → zF (zEn x) H H1 → zG x H1 (a + mc2) (b + ms2) (pc + 3) lv (va_rf o :: rest)) : zG x H a b pc lv st := by
  subst hs
  exact z_invV Lk O d C hn ho hF hL hmc hms hW hpx (fun v H1 hp hz => by obtain ⟨rfl, h2⟩ := hp; exact K H1 h2 hz)
theorem z_Vl (As rest : List Value) (Lk : zMV own idx y cc2 nL2 ret2 n ci) (O : zOk x own cc nL ret nm F L mc ms) (d : decode cc pc = .ok (.invokevirtual idx, 3)) (C : zC (zEn x) y cc2 nL2 ret2 F2 L2 (.ref q :: As) H 0 0 (zRl r (zSm H)) px) (hs : As.reverse ++ .ref q :: rest = st) (hn : As.length = n) (ho : zOb (zEn x) H q ci fs) (hF : F2 + 1 ≤ F) (hL : 8 + (nL2 + 11) + L2 ≤ L) (hmc : a ≤ mc) (hms : b ≤ ms) (hW : (rest.map fun v => v.category).sum ≤ 8) (hpx : ∀ X H1, px X H1 → zPx x X H1) (K : zG x H a b (pc + 3) lv (.long (iL r) :: rest)) : zG x H a b pc lv st := by
  subst hs
  exact z_invV Lk O d C hn ho hF hL hmc hms hW hpx (fun v H1 hp hz => by obtain ⟨rfl, rfl⟩ := hp; exact K)
theorem z_Vlm (As rest : List Value) (Lk : zMV own idx y cc2 nL2 ret2 n ci) (O : zOk x own cc nL ret nm F L mc ms) (d : decode cc pc = .ok (.invokevirtual idx, 3)) (C : zC (zEn x) y cc2 nL2 ret2 F2 L2 (.ref q :: As) H mc2 ms2 (zRl r P) px) (hs : As.reverse ++ .ref q :: rest = st) (hn : As.length = n) (ho : zOb (zEn x) H q ci fs) (hF : F2 + 1 ≤ F) (hL : 8 + (nL2 + 11) + L2 ≤ L) (hmc : a + mc2 ≤ mc) (hms : b + ms2 ≤ ms) (hW : (rest.map fun v => v.category).sum ≤ 8) (hpx : ∀ X H1, px X H1 → zPx x X H1) (K : ∀ H1 : Heap, P H1 → zF (zEn x) H H1 → zG x H1 (a + mc2) (b + ms2) (pc + 3) lv (.long (iL r) :: rest)) : zG x H a b pc lv st := by
  subst hs
  exact z_invV Lk O d C hn ho hF hL hmc hms hW hpx (fun v H1 hp hz => by obtain ⟨rfl, h2⟩ := hp; exact K H1 h2 hz)
theorem z_Si (As rest : List Value) (Lk : zMS own idx y cc2 nL2 ret2 n) (O : zOk x own cc nL ret nm F L mc ms) (d : decode cc pc = .ok (.invokestatic idx, 3)) (C : zC (zEn x) y cc2 nL2 ret2 F2 L2 (As) H 0 0 (zRi r (zSm H)) px) (hs : As.reverse ++ rest = st) (hn : As.length = n) (hF : F2 + 1 ≤ F) (hL : 8 + (nL2 + 11) + L2 ≤ L) (hmc : a ≤ mc) (hms : b ≤ ms) (hW : (rest.map fun v => v.category).sum ≤ 8) (hpx : ∀ X H1, px X H1 → zPx x X H1) (K : zG x H a b (pc + 3) lv (.int (iI r) :: rest)) : zG x H a b pc lv st := by
  subst hs
  exact z_invS Lk O d C hn hF hL hmc hms hW hpx (fun v H1 hp hz => by obtain ⟨rfl, rfl⟩ := hp; exact K)
theorem z_Sim (As rest : List Value) (Lk : zMS own idx y cc2 nL2 ret2 n) (O : zOk x own cc nL ret nm F L mc ms) (d : decode cc pc = .ok (.invokestatic idx, 3)) (C : zC (zEn x) y cc2 nL2 ret2 F2 L2 (As) H mc2 ms2 (zRi r P) px) (hs : As.reverse ++ rest = st) (hn : As.length = n) (hF : F2 + 1 ≤ F) (hL : 8 + (nL2 + 11) + L2 ≤ L) (hmc : a + mc2 ≤ mc) (hms : b + ms2 ≤ ms) (hW : (rest.map fun v => v.category).sum ≤ 8) (hpx : ∀ X H1, px X H1 → zPx x X H1) (K : ∀ H1 : Heap, P H1 → zF (zEn x) H H1 → zG x H1 (a + mc2) (b + ms2) (pc + 3) lv (.int (iI r) :: rest)) : zG x H a b pc lv st := by
  subst hs
  exact z_invS Lk O d C hn hF hL hmc hms hW hpx (fun v H1 hp hz => by obtain ⟨rfl, h2⟩ := hp; exact K H1 h2 hz)
theorem z_Sv (As rest : List Value) (Lk : zMS own idx y cc2 nL2 ret2 n) (O : zOk x own cc nL ret nm F L mc ms) (d : decode cc pc = .ok (.invokestatic idx, 3)) (C : zC (zEn x) y cc2 nL2 ret2 F2 L2 (As) H 0 0 (zRv (zSm H)) px) (hs : As.reverse ++ rest = st) (hn : As.length = n) (hF : F2 + 1 ≤ F) (hL : 8 + (nL2 + 11) + L2 ≤ L) (hmc : a ≤ mc) (hms : b ≤ ms) (hW : (rest.map fun v => v.category).sum ≤ 8) (hpx : ∀ X H1, px X H1 → zPx x X H1) (K : zG x H a b (pc + 3) lv rest) : zG x H a b pc lv st := by
  subst hs
  exact z_invS Lk O d C hn hF hL hmc hms hW hpx (fun v H1 hp hz => by obtain ⟨rfl, rfl⟩ := hp; exact K)
theorem z_Svm (As rest : List Value) (Lk : zMS own idx y cc2 nL2 ret2 n) (O : zOk x own cc nL ret nm F L mc ms) (d : decode cc pc = .ok (.invokestatic idx, 3)) (C : zC (zEn x) y cc2 nL2 ret2 F2 L2 (As) H mc2 ms2 (zRv P) px) (hs : As.reverse ++ rest = st) (hn : As.length = n) (hF : F2 + 1 ≤ F) (hL : 8 + (nL2 + 11) + L2 ≤ L) (hmc : a + mc2 ≤ mc) (hms : b + ms2 ≤ ms) (hW : (rest.map fun v => v.category).sum ≤ 8) (hpx : ∀ X H1, px X H1 → zPx x X H1) (K : ∀ H1 : Heap, P H1 → zF (zEn x) H H1 → zG x H1 (a + mc2) (b + ms2) (pc + 3) lv rest) : zG x H a b pc lv st := by
  subst hs
  exact z_invS Lk O d C hn hF hL hmc hms hW hpx (fun v H1 hp hz => by obtain ⟨rfl, h2⟩ := hp; exact K H1 h2 hz)
theorem z_Sr (As rest : List Value) (Lk : zMS own idx y cc2 nL2 ret2 n) (O : zOk x own cc nL ret nm F L mc ms) (d : decode cc pc = .ok (.invokestatic idx, 3)) (C : zC (zEn x) y cc2 nL2 ret2 F2 L2 (As) H 0 0 (zRr o (zSm H)) px) (hs : As.reverse ++ rest = st) (hn : As.length = n) (hF : F2 + 1 ≤ F) (hL : 8 + (nL2 + 11) + L2 ≤ L) (hmc : a ≤ mc) (hms : b ≤ ms) (hW : (rest.map fun v => v.category).sum ≤ 8) (hpx : ∀ X H1, px X H1 → zPx x X H1) (K : zG x H a b (pc + 3) lv (va_rf o :: rest)) : zG x H a b pc lv st := by
  subst hs
  exact z_invS Lk O d C hn hF hL hmc hms hW hpx (fun v H1 hp hz => by obtain ⟨rfl, rfl⟩ := hp; exact K)
theorem z_Srm (As rest : List Value) (Lk : zMS own idx y cc2 nL2 ret2 n) (O : zOk x own cc nL ret nm F L mc ms) (d : decode cc pc = .ok (.invokestatic idx, 3)) (C : zC (zEn x) y cc2 nL2 ret2 F2 L2 (As) H mc2 ms2 (zRr o P) px) (hs : As.reverse ++ rest = st) (hn : As.length = n) (hF : F2 + 1 ≤ F) (hL : 8 + (nL2 + 11) + L2 ≤ L) (hmc : a + mc2 ≤ mc) (hms : b + ms2 ≤ ms) (hW : (rest.map fun v => v.category).sum ≤ 8) (hpx : ∀ X H1, px X H1 → zPx x X H1) (K : ∀ H1 : Heap, P H1 → zF (zEn x) H H1 → zG x H1 (a + mc2) (b + ms2) (pc + 3) lv (va_rf o :: rest)) : zG x H a b pc lv st := by
  subst hs
  exact z_invS Lk O d C hn hF hL hmc hms hW hpx (fun v H1 hp hz => by obtain ⟨rfl, h2⟩ := hp; exact K H1 h2 hz)
theorem z_Sl (As rest : List Value) (Lk : zMS own idx y cc2 nL2 ret2 n) (O : zOk x own cc nL ret nm F L mc ms) (d : decode cc pc = .ok (.invokestatic idx, 3)) (C : zC (zEn x) y cc2 nL2 ret2 F2 L2 (As) H 0 0 (zRl r (zSm H)) px) (hs : As.reverse ++ rest = st) (hn : As.length = n) (hF : F2 + 1 ≤ F) (hL : 8 + (nL2 + 11) + L2 ≤ L) (hmc : a ≤ mc) (hms : b ≤ ms) (hW : (rest.map fun v => v.category).sum ≤ 8) (hpx : ∀ X H1, px X H1 → zPx x X H1) (K : zG x H a b (pc + 3) lv (.long (iL r) :: rest)) : zG x H a b pc lv st := by
  subst hs
  exact z_invS Lk O d C hn hF hL hmc hms hW hpx (fun v H1 hp hz => by obtain ⟨rfl, rfl⟩ := hp; exact K)
theorem z_Slm (As rest : List Value) (Lk : zMS own idx y cc2 nL2 ret2 n) (O : zOk x own cc nL ret nm F L mc ms) (d : decode cc pc = .ok (.invokestatic idx, 3)) (C : zC (zEn x) y cc2 nL2 ret2 F2 L2 (As) H mc2 ms2 (zRl r P) px) (hs : As.reverse ++ rest = st) (hn : As.length = n) (hF : F2 + 1 ≤ F) (hL : 8 + (nL2 + 11) + L2 ≤ L) (hmc : a + mc2 ≤ mc) (hms : b + ms2 ≤ ms) (hW : (rest.map fun v => v.category).sum ≤ 8) (hpx : ∀ X H1, px X H1 → zPx x X H1) (K : ∀ H1 : Heap, P H1 → zF (zEn x) H H1 → zG x H1 (a + mc2) (b + ms2) (pc + 3) lv (.long (iL r) :: rest)) : zG x H a b pc lv st := by
  subst hs
  exact z_invS Lk O d C hn hF hL hmc hms hW hpx (fun v H1 hp hz => by obtain ⟨rfl, h2⟩ := hp; exact K H1 h2 hz)
theorem z_Ivm (As rest : List Value) (Lk : zMI own idx y cc2 nL2 n) (O : zOk x own cc nL ret nm F L mc ms) (d : decode cc pc = .ok (.invokespecial idx, 3)) (C : zC (zEn x) y cc2 nL2 none F2 L2 (.ref q :: As) H mc2 ms2 (zRv P) px) (hs : As.reverse ++ .ref q :: rest = st) (hn : As.length = n) (hF : F2 + 1 ≤ F) (hL : 8 + (nL2 + 11) + L2 ≤ L) (hmc : a + mc2 ≤ mc) (hms : b + ms2 ≤ ms) (hW : (rest.map fun v => v.category).sum ≤ 8) (hpx : ∀ X H1, px X H1 → zPx x X H1) (K : ∀ H1 : Heap, P H1 → zF (zEn x) H H1 → zG x H1 (a + mc2) (b + ms2) (pc + 3) lv rest) : zG x H a b pc lv st := by
  subst hs
  exact z_invI Lk O d C hn hF hL hmc hms hW hpx (fun v H1 hp hz => by obtain ⟨rfl, h2⟩ := hp; exact K H1 h2 hz)
theorem z_ireti {e : Int} (O : zOk x own cc nL ret nm F L mc ms) (d : decode cc pc = .ok (.ireturn, 1)) (hr9 : ret = some .int) (h1 : a ≤ mc) (h2 : b ≤ ms) (hpo : zPo x = zRi r P) (he : e = r) (hP : P H) : zG x H a b pc lv [.int (iI e)] := z_ireturn O d hr9 h1 h2 (by rw [hpo, he]; exact ⟨rfl, hP⟩)
theorem z_iretb {e : Int} (O : zOk x own cc nL ret nm F L mc ms) (d : decode cc pc = .ok (.ireturn, 1)) (hr9 : ret = some .boolean) (h1 : a ≤ mc) (h2 : b ≤ ms) {u : Bool} (hpo : zPo x = zRi (zb u) P) (he : e = zb u) (hP : P H) : zG x H a b pc lv [.int (iI e)] := z_zreturn O d hr9 (by rw [he]; cases u <;> decide +kernel) h1 h2 (by rw [hpo, he]; exact ⟨rfl, hP⟩)
theorem z_iretv (O : zOk x own cc nL ret nm F L mc ms) (d : decode cc pc = .ok (.return_, 1)) (hr9 : ret = none) (h1 : a ≤ mc) (h2 : b ≤ ms) (hpo : zPo x = zRv P) (hP : P H) : zG x H a b pc lv [] := z_vreturn O d hr9 h1 h2 (by rw [hpo]; exact ⟨rfl, hP⟩)
theorem z_iretr {v : Nat} {rt : FieldType} (O : zOk x own cc nL ret nm F L mc ms) (d : decode cc pc = .ok (.areturn, 1)) (hr9 : ret = some rt) (hrt : (∃ n, rt = .object n) ∨ ∃ t, rt = .array t) (h1 : a ≤ mc) (h2 : b ≤ ms) (hpo : zPo x = zRr o P) (he : o = some v) (hP : P H) : zG x H a b pc lv [.ref v] := z_areturn O d hr9 hrt h1 h2 (by rw [hpo, he]; exact ⟨rfl, hP⟩)
theorem z_iretrN {rt : FieldType} (O : zOk x own cc nL ret nm F L mc ms) (d : decode cc pc = .ok (.areturn, 1)) (hr9 : ret = some rt) (hrt : (∃ n, rt = .object n) ∨ ∃ t, rt = .array t) (h1 : a ≤ mc) (h2 : b ≤ ms) (hpo : zPo x = zRr o P) (he : o = none) (hP : P H) : zG x H a b pc lv [.null] := z_areturnN O d hr9 hrt h1 h2 (by rw [hpo, he]; exact ⟨rfl, hP⟩)
theorem z_iretl {e : Int} (O : zOk x own cc nL ret nm F L mc ms) (d : decode cc pc = .ok (.lreturn, 1)) (hr9 : ret = some .long) (h1 : a ≤ mc) (h2 : b ≤ ms) (hpo : zPo x = zRl r P) (he : e = r) (hP : P H) : zG x H a b pc lv [.long (iL e)] := z_lreturn O d hr9 h1 h2 (by rw [hpo, he]; exact ⟨rfl, hP⟩)
end ZD
end
section
/-! Row: its methods (written by program: wip/whole/gen/rows.py) -/
/-- what get answers -/
def zRg (n : Int) (g : Int → Int) (i : Int) : Int := if 0 ≤ i ∧ i < n then g i else 0
/-- what set leaves -/
def zRs (n : Int) (g : Int → Int) (i v : Int) : Int → Int := if 0 ≤ i ∧ i < n then zU g i v else g
/-- what cutTo leaves -/
def zRc (n l : Int) : Int := if 0 ≤ l ∧ l < n then l else n
theorem c_X1_get {E : zE} (hst : E.1.stackTraces = false) {H : Heap} {r : zH} {t q most : Nat} {n : Int} {g : Int → Int} {i : Int} (h : zRow E H r t q most n g) (hi : zR i) : zC E yX1_get cX1_get 2 (some .int) 0 0 [.ref q, .int (iI i)] H 0 0 (zRi (zRg n g i) (zSm H)) zN := by
  refine zC.of (by decide) (Nat.le_of_ble_eq_true rfl) hst ?_
  intro x O hE hpo hpx
  subst hE
  change zG x H 0 0 0 [(0, .ref q), (1, .int (iI i))] []
  obtain ⟨it, f, hO, hA, hfg, hn0, hn1, hc1, hcm, hmo⟩ := h
  refine z_iload_n 1 O dX1_get_0 rfl ?_
  refine z_if_lt 30 O dX1_get_1 (by decide) ⟨by omega, by omega⟩ (fun c_1 => ?_) (fun c_1 => ?_)
  · skip
    refine z_iconst 0 O dX1_get_30 (by decide +kernel) ?_
    exact z_ireti O dX1_get_31 rfl (by omega) (by omega) hpo (by unfold zRg; first | (rw [if_pos ⟨by omega, by omega⟩]; exact hfg i (by omega) (by omega)) | rw [if_neg (by omega)]) (rfl)
  · skip
    refine z_iload_n 1 O dX1_get_4 rfl ?_
    refine z_aload_n 0 O dX1_get_5 rfl ?_
    refine z_getf kF_X1_23 O dX1_get_6 hO.1 rfl ?_
    refine z_icmp_ge 30 O dX1_get_9 (by decide) ⟨by omega, by omega⟩ ⟨by omega, by omega⟩ (fun c_9 => ?_) (fun c_9 => ?_)
    · skip
      refine z_iconst 0 O dX1_get_30 (by decide +kernel) ?_
      exact z_ireti O dX1_get_31 rfl (by omega) (by omega) hpo (by unfold zRg; first | (rw [if_pos ⟨by omega, by omega⟩]; exact hfg i (by omega) (by omega)) | rw [if_neg (by omega)]) (rfl)
    · skip
      refine z_iload_n 1 O dX1_get_12 rfl ?_
      refine z_aload_n 0 O dX1_get_13 rfl ?_
      refine z_getf kF_X1_13 O dX1_get_14 hO.1 rfl ?_
      refine z_alen (by decide) O dX1_get_17 hA.1 ?_
      refine z_icmp_ge 30 O dX1_get_18 (by decide) ⟨by omega, by omega⟩ ⟨by omega, by omega⟩ (fun c_18 => ?_) (fun c_18 => ?_)
      · skip
        refine z_iconst 0 O dX1_get_30 (by decide +kernel) ?_
        exact z_ireti O dX1_get_31 rfl (by omega) (by omega) hpo (by unfold zRg; first | (rw [if_pos ⟨by omega, by omega⟩]; exact hfg i (by omega) (by omega)) | rw [if_neg (by omega)]) (rfl)
      · skip
        refine z_aload_n 0 O dX1_get_21 rfl ?_
        refine z_getf kF_X1_13 O dX1_get_22 hO.1 rfl ?_
        refine z_iload_n 1 O dX1_get_25 rfl ?_
        refine z_iald O dX1_get_26 hA.1 ⟨by omega, by omega⟩ (by omega) (by omega) ?_
        refine z_goto 31 O dX1_get_27 (by decide) ?_
        exact z_ireti O dX1_get_31 rfl (by omega) (by omega) hpo (by unfold zRg; first | (rw [if_pos ⟨by omega, by omega⟩]; exact hfg i (by omega) (by omega)) | rw [if_neg (by omega)]) (rfl)

theorem c_X1_set {E : zE} (hst : E.1.stackTraces = false) {H : Heap} {r : zH} {t q most : Nat} {n : Int} {g : Int → Int} {i v : Int} (h : zRow E H r t q most n g) (hi : zR i) : zC E yX1_set cX1_set 3 none 0 0 [.ref q, .int (iI i), .int (iI v)] H 0 0 (zRv (fun H1 => ∃ r1, zFr H r H1 r1 (fun s => s = t + 1) ∧ zRow E H1 r1 t q most n (zRs n g i v))) zN := by
  refine zC.of (by decide) (Nat.le_of_ble_eq_true rfl) hst ?_
  intro x O hE hpo hpx
  subst hE
  change zG x H 0 0 0 [(0, .ref q), (1, .int (iI i)), (2, .int (iI v))] []
  obtain ⟨it, f, hO, hA, hfg, hn0, hn1, hc1, hcm, hmo⟩ := h
  refine z_iload_n 1 O dX1_set_0 rfl ?_
  refine z_if_lt 28 O dX1_set_1 (by decide) ⟨by omega, by omega⟩ (fun c_1 => ?_) (fun c_1 => ?_)
  · skip
    exact z_iretv O dX1_set_28 rfl (by omega) (by omega) hpo (⟨r, zFr.rf, (by unfold zRs; rw [if_neg (by omega)]; exact ⟨it, f, hO, hA, hfg, hn0, hn1, hc1, hcm, hmo⟩)⟩)
  · skip
    refine z_iload_n 1 O dX1_set_4 rfl ?_
    refine z_aload_n 0 O dX1_set_5 rfl ?_
    refine z_getf kF_X1_23 O dX1_set_6 hO.1 rfl ?_
    refine z_icmp_ge 28 O dX1_set_9 (by decide) ⟨by omega, by omega⟩ ⟨by omega, by omega⟩ (fun c_9 => ?_) (fun c_9 => ?_)
    · skip
      exact z_iretv O dX1_set_28 rfl (by omega) (by omega) hpo (⟨r, zFr.rf, (by unfold zRs; rw [if_neg (by omega)]; exact ⟨it, f, hO, hA, hfg, hn0, hn1, hc1, hcm, hmo⟩)⟩)
    · skip
      refine z_iload_n 1 O dX1_set_12 rfl ?_
      refine z_aload_n 0 O dX1_set_13 rfl ?_
      refine z_getf kF_X1_13 O dX1_set_14 hO.1 rfl ?_
      refine z_alen (by decide) O dX1_set_17 hA.1 ?_
      refine z_icmp_ge 28 O dX1_set_18 (by decide) ⟨by omega, by omega⟩ ⟨by omega, by omega⟩ (fun c_18 => ?_) (fun c_18 => ?_)
      · skip
        exact z_iretv O dX1_set_28 rfl (by omega) (by omega) hpo (⟨r, zFr.rf, (by unfold zRs; rw [if_neg (by omega)]; exact ⟨it, f, hO, hA, hfg, hn0, hn1, hc1, hcm, hmo⟩)⟩)
      · skip
        refine z_aload_n 0 O dX1_set_21 rfl ?_
        refine z_getf kF_X1_13 O dX1_set_22 hO.1 rfl ?_
        refine z_iload_n 1 O dX1_set_25 rfl ?_
        refine z_iload_n 2 O dX1_set_26 rfl ?_
        refine z_iast O dX1_set_27 hA.1 ⟨by omega, by omega⟩ (by omega) (by omega) (fun H1 hA2 hC3 => ?_)
        have hf4 := hA.ch hC3
        have ha5 : zA (zEn x) H1 r (t + 1) it (r.2 (t + 1)) (zU f i v) := ⟨hA2, hA.2⟩
        have hO6 := hO.fr hf4 (zT1 (by omega))
        exact z_iretv O dX1_set_28 rfl (by omega) (by omega) hpo (⟨r, hf4.up (fun _ h => h), (by unfold zRs; rw [if_pos ⟨by omega, by omega⟩]; exact ⟨it, zU f i v, hO6, ha5, fun j h1 h2 => by unfold zU; split; rfl; exact hfg j h1 h2, hn0, hn1, hc1, hcm, hmo⟩)⟩)

theorem c_X1_cutTo {E : zE} (hst : E.1.stackTraces = false) {H : Heap} {r : zH} {t q most : Nat} {n : Int} {g : Int → Int} {l : Int} (h : zRow E H r t q most n g) (hi : zR l) : zC E yX1_cutTo cX1_cutTo 2 none 0 0 [.ref q, .int (iI l)] H 0 0 (zRv (fun H1 => ∃ r1, zFr H r H1 r1 (fun s => s = t) ∧ zRow E H1 r1 t q most (zRc n l) g)) zN := by
  refine zC.of (by decide) (Nat.le_of_ble_eq_true rfl) hst ?_
  intro x O hE hpo hpx
  subst hE
  change zG x H 0 0 0 [(0, .ref q), (1, .int (iI l))] []
  obtain ⟨it, f, hO, hA, hfg, hn0, hn1, hc1, hcm, hmo⟩ := h
  refine z_iload_n 1 O dX1_cutTo_0 rfl ?_
  refine z_if_lt 17 O dX1_cutTo_1 (by decide) ⟨by omega, by omega⟩ (fun c_1 => ?_) (fun c_1 => ?_)
  · skip
    exact z_iretv O dX1_cutTo_17 rfl (by omega) (by omega) hpo (⟨r, zFr.rf, (by unfold zRc; rw [if_neg (by omega)]; exact ⟨it, f, hO, hA, hfg, hn0, hn1, hc1, hcm, hmo⟩)⟩)
  · skip
    refine z_iload_n 1 O dX1_cutTo_4 rfl ?_
    refine z_aload_n 0 O dX1_cutTo_5 rfl ?_
    refine z_getf kF_X1_23 O dX1_cutTo_6 hO.1 rfl ?_
    refine z_icmp_ge 17 O dX1_cutTo_9 (by decide) ⟨by omega, by omega⟩ ⟨by omega, by omega⟩ (fun c_9 => ?_) (fun c_9 => ?_)
    · skip
      exact z_iretv O dX1_cutTo_17 rfl (by omega) (by omega) hpo (⟨r, zFr.rf, (by unfold zRc; rw [if_neg (by omega)]; exact ⟨it, f, hO, hA, hfg, hn0, hn1, hc1, hcm, hmo⟩)⟩)
    · skip
      refine z_aload_n 0 O dX1_cutTo_12 rfl ?_
      refine z_iload_n 1 O dX1_cutTo_13 rfl ?_
      refine z_putf kP_X1_23 O (fun h => nomatch h) dX1_cutTo_14 hO.1 rfl rfl (Nat.le_of_ble_eq_true rfl) (fun H1 hO2 hC3 => ?_)
      have hf4 := hO.ch hC3
      have ho5 : zO (zEn x) H1 r t q 1 [.int (iI (most : Int)), .ref it, .int (iI l)] := ⟨hO2, hO.2⟩
      have hA6 := hA.fr hf4 (zT1 (by omega))
      exact z_iretv O dX1_cutTo_17 rfl (by omega) (by omega) hpo (⟨r, hf4, (by unfold zRc; rw [if_pos ⟨by omega, by omega⟩]; exact ⟨it, f, ho5, hA6, fun j h1 h2 => hfg j h1 (by omega), by omega, by omega, hc1, hcm, hmo⟩)⟩)
end
section
/-- Arrays.copyOf, to a longer one -/
theorem c_J7_copyOf {E : zE} (hst : E.1.stackTraces = false) {H : Heap} {q n m : Nat} {f : Int → Int} (h : zIA E H q 0 n f) (hnm : n < m) (hm : m ≤ 100000) : zC E yJ7_copyOf_59c91 cJ7_copyOf_59c91 3 (some (.array .int)) 1 40 [.ref q, .int (iI m)] H 1 m (zRr (some H.size) (fun H1 => zIA E H1 H.size 0 m (zCpy f (fun _ => 0) 0 0 n) ∧ zNew H H1)) zN := by
  refine zC.of (by decide) (Nat.le_of_ble_eq_true rfl) hst ?_
  intro x O hE hpo hpx
  subst hE
  change zG x H 0 0 0 [(0, .ref q), (1, .int (iI m))] []
  refine z_iload_n 1 O dJ7_copyOf_59c91_0 rfl ?_
  refine z_aload_n 0 O dJ7_copyOf_59c91_1 rfl ?_
  refine z_alen (by decide) O dJ7_copyOf_59c91_2 h ?_
  refine z_icmp_ne 14 O dJ7_copyOf_59c91_3 (by decide) ⟨by omega, by omega⟩ ⟨by omega, by omega⟩ (fun c_3 => ?_) (fun c_3 => ?_)
  · refine z_iload_n 1 O dJ7_copyOf_59c91_14 rfl ?_
    refine z_newi (n := m) O dJ7_copyOf_59c91_15 ⟨by omega, by omega⟩ (by omega) rfl (by omega) (by omega) (by omega) (fun H1 hA hN => ?_)
    refine z_astore_n [(2, .ref H.size), (0, .ref q), (1, .int (iI m))] O dJ7_copyOf_59c91_17 (by decide) rfl ?_
    refine z_aload_n 1 O dJ7_copyOf_59c91_18 rfl ?_
    refine z_iconst 0 O dJ7_copyOf_59c91_19 (by decide +kernel) ?_
    refine z_aload_n 0 O dJ7_copyOf_59c91_20 rfl ?_
    refine z_iconst 0 O dJ7_copyOf_59c91_21 (by decide +kernel) ?_
    refine z_aload_n 1 O dJ7_copyOf_59c91_22 rfl ?_
    have h1 := h.kept (hN.2 q h.lt)
    refine z_alen (by decide) O dJ7_copyOf_59c91_23 h1 ?_
    refine z_iload_n 2 O dJ7_copyOf_59c91_24 rfl ?_
    refine z_mmin (List.mem_of_getElem? (i := 116) (by decide +kernel)) O dJ7_copyOf_59c91_25 (by decide) (Nat.le_of_ble_eq_true rfl) (by omega) (by omega) ⟨by omega, by omega⟩ ⟨by omega, by omega⟩ ?_
    refine z_acopy (List.mem_of_getElem? (i := 117) (by decide +kernel)) O dJ7_copyOf_59c91_28 (by decide) (Nat.le_of_ble_eq_true rfl) h1 hA ⟨by omega, by omega⟩ ⟨by omega, by omega⟩ ⟨by omega, by omega⟩ (by omega) (by omega) (by omega) (by omega) (by omega) (fun H2 hA2 hC2 => ?_)
    refine z_aload_n 0 O dJ7_copyOf_59c91_31 rfl ?_
    refine z_iretr O dJ7_copyOf_59c91_32 rfl (Or.inr ⟨_, rfl⟩) (by omega) (by omega) hpo rfl ⟨?_, hC2.1.trans hN.1, fun p hp => (hC2.2 p (by omega)).trans (hN.2 p hp)⟩
    rw [show min (n : Int) (m : Int) = n by omega] at hA2
    exact hA2
  · exfalso; omega
/-- the length of a row's array behind a push -/
def zPc (c most : Nat) (n : Int) : Nat := if n < c then c else min most (2 * n.toNat + 1)
theorem c_X1_push {E : zE} (hst : E.1.stackTraces = false) {H : Heap} {r : zH} {t q most : Nat} {n : Int} {g : Int → Int} {v : Int} (h : zRow E H r t q most n g) (hlt : n < most) (hcs : (n ≤ 900 ∧ most = 1024) ∨ most ≤ 20) : zC E yX1_push cX1_push 2 none 2 62 [.ref q, .int (iI v)] H (zPc (r.2 (t + 1)) most n - r.2 (t + 1)) (20 * (zPc (r.2 (t + 1)) most n - r.2 (t + 1))) (zRv (fun H1 => ∃ r1, zFr H r H1 r1 (fun s => s = t ∨ s = t + 1) ∧ zRow E H1 r1 t q most (n + 1) (zU g n v) ∧ r1.2 (t + 1) = zPc (r.2 (t + 1)) most n)) zN := by
  refine zC.of (by decide) (Nat.le_of_ble_eq_true rfl) hst ?_
  intro x O hE hpo hpx
  subst hE
  change zG x H 0 0 0 [(0, .ref q), (1, .int (iI v))] []
  obtain ⟨it, f, hO, hA, hfg, hn0, hn1, hc1, hcm, hmo⟩ := h
  have e1 : n < (r.2 (t + 1) : Nat) → zPc (r.2 (t + 1)) most n = r.2 (t + 1) := fun h => if_pos h
  have e2 : ¬ n < (r.2 (t + 1) : Nat) → (zPc (r.2 (t + 1)) most n = most ∧ most ≤ 2 * n.toNat + 1) ∨ (zPc (r.2 (t + 1)) most n = 2 * n.toNat + 1 ∧ 2 * n.toNat + 1 ≤ most) := fun h => by unfold zPc; rw [if_neg h]; omega
  refine z_aload_n 0 O dX1_push_0 rfl ?_
  refine z_getf kF_X1_23 O dX1_push_1 hO.1 rfl ?_
  refine z_if_lt 18 O dX1_push_4 (by decide) ⟨by omega, by omega⟩ (fun c_4 => ?_) (fun c_4 => ?_)
  · exfalso; omega
  · skip
    refine z_aload_n 0 O dX1_push_7 rfl ?_
    refine z_getf kF_X1_23 O dX1_push_8 hO.1 rfl ?_
    refine z_aload_n 0 O dX1_push_11 rfl ?_
    refine z_getf kF_X1_19 O dX1_push_12 hO.1 rfl ?_
    refine z_icmp_lt 19 O dX1_push_15 (by decide) ⟨by omega, by omega⟩ ⟨by omega, by omega⟩ (fun c_15 => ?_) (fun c_15 => ?_)
    · skip
      refine z_aload_n 0 O dX1_push_19 rfl ?_
      refine z_getf kF_X1_23 O dX1_push_20 hO.1 rfl ?_
      refine z_aload_n 0 O dX1_push_23 rfl ?_
      refine z_getf kF_X1_13 O dX1_push_24 hO.1 rfl ?_
      refine z_alen (by decide) O dX1_push_27 hA.1 ?_
      refine z_icmp_lt 57 O dX1_push_28 (by decide) ⟨by omega, by omega⟩ ⟨by omega, by omega⟩ (fun c_28 => ?_) (fun c_28 => ?_)
      · skip
        have e9 := e1 c_28
        refine z_aload_n 0 O dX1_push_57 rfl ?_
        refine z_getf kF_X1_23 O dX1_push_58 hO.1 rfl ?_
        refine z_aload_n 0 O dX1_push_61 rfl ?_
        refine z_getf kF_X1_13 O dX1_push_62 hO.1 rfl ?_
        refine z_alen (by decide) O dX1_push_65 hA.1 ?_
        refine z_icmp_ge 89 O dX1_push_66 (by decide) ⟨by omega, by omega⟩ ⟨by omega, by omega⟩ (fun c_66 => ?_) (fun c_66 => ?_)
        · exfalso; omega
        · skip
          refine z_aload_n 0 O dX1_push_69 rfl ?_
          refine z_getf kF_X1_13 O dX1_push_70 hO.1 rfl ?_
          refine z_aload_n 0 O dX1_push_73 rfl ?_
          refine z_getf kF_X1_23 O dX1_push_74 hO.1 rfl ?_
          refine z_iload_n 1 O dX1_push_77 rfl ?_
          refine z_iast O dX1_push_78 hA.1 ⟨by omega, by omega⟩ (by omega) (by omega) (fun H1 hA2 hC3 => ?_)
          have hf4 := hA.ch hC3
          have ha5 : zA (zEn x) H1 r (t + 1) it (r.2 (t + 1)) (zU f n v) := ⟨hA2, hA.2⟩
          have hO6 := hO.fr hf4 (zT1 (by omega))
          refine z_aload_n 0 O dX1_push_79 rfl ?_
          refine z_dup O dX1_push_80 rfl ?_
          refine z_getf kF_X1_23 O dX1_push_81 hO6.1 rfl ?_
          refine z_iconst 1 O dX1_push_84 (by decide +kernel) ?_
          refine z_iadd O dX1_push_85 ?_
          refine z_putf kP_X1_23 O (fun h => nomatch h) dX1_push_86 hO6.1 rfl rfl (Nat.le_of_ble_eq_true rfl) (fun H7 hO8 hC9 => ?_)
          have hf10 := hO6.ch hC9
          have ho11 : zO (zEn x) H7 r t q 1 [.int (iI (most : Int)), .ref it, .int (iI (n + 1))] := ⟨hO8, hO6.2⟩
          have ha12 := ha5.fr hf10 (zT1 (by omega))
          exact z_iretv O dX1_push_89 rfl (by omega) (by omega) hpo (⟨r, (((hf4.up (fun s h => by first | exact h.elim | omega | (simp at h ⊢; omega)))).tr (hf10.up (fun s h => by first | exact h.elim | omega | (simp at h ⊢; omega)))), ⟨it, _, ho11, ha12, fun j h1 h2 => by unfold zU; split; rfl; exact hfg j h1 (by omega), by omega, by omega, hc1, hcm, hmo⟩, e9.symm⟩)
      · skip
        have e9 := e2 (by omega)
        refine z_aload_n 0 O dX1_push_31 rfl ?_
        refine z_aload_n 0 O dX1_push_32 rfl ?_
        refine z_getf kF_X1_13 O dX1_push_33 hO.1 rfl ?_
        refine z_aload_n 0 O dX1_push_36 rfl ?_
        refine z_getf kF_X1_19 O dX1_push_37 hO.1 rfl ?_
        refine z_iconst 2 O dX1_push_40 (by decide +kernel) ?_
        refine z_aload_n 0 O dX1_push_41 rfl ?_
        refine z_getf kF_X1_23 O dX1_push_42 hO.1 rfl ?_
        refine z_imul O dX1_push_45 ?_
        refine z_iconst 1 O dX1_push_46 (by decide +kernel) ?_
        refine z_iadd O dX1_push_47 ?_
        refine z_mmin (List.mem_of_getElem? (i := 103) (by decide +kernel)) O dX1_push_48 (by decide) (Nat.le_of_ble_eq_true rfl) (by omega) (by omega) ⟨by omega, by omega⟩ ⟨by omega, by omega⟩ ?_
        obtain ⟨m, hm⟩ : ∃ z : Nat, (z : Int) = min (most : Int) ((2 * n) + 1) := ⟨zPc (r.2 (t + 1)) most n, by omega⟩
        rw [← hm]
        refine z_Srm [.ref it, .int (iI (m : Int))] [.ref q] kM_X1_29 O dX1_push_51 (c_J7_copyOf hst hA.1 (m := m) (by omega) (by omega)) rfl rfl (by decide) (Nat.le_of_ble_eq_true rfl) (by omega) (by omega) (Nat.le_of_ble_eq_true rfl) zNx (fun H1 hp hz => ?_)
        obtain ⟨hI, hN⟩ := hp
        obtain ⟨r1, er1⟩ : ∃ z, z = zCap (zTag r H.size (t + 1)) (t + 1) m := ⟨_, rfl⟩
        have hf1 : zFr H r H1 r1 (fun s => s = t + 1) := by rw [er1]; exact ((hN.fr r (t + 1) _).up (fun _ h => h)).tr zCap.fr
        obtain ⟨q1, eq1⟩ : ∃ z, z = H.size := ⟨_, rfl⟩
        have q1t : r1.1 q1 = t + 1 := by rw [er1, eq1]; exact zTag_1
        have hcap : r1.2 (t + 1) = m := by rw [er1]; exact if_pos rfl
        have hgz : ∀ i : Int, 0 ≤ i → i < n → zCpy f (fun _ => 0) 0 0 (r.2 (t + 1)) i = g i := fun i h1 h2 => by unfold zCpy; rw [if_pos ⟨by omega, by omega⟩, show (0 : Int) + (i - 0) = i by omega]; exact hfg i h1 h2
        change zG x H1 _ _ _ _ (.ref H.size :: .ref q :: [])
        rw [← eq1]
        have ha1 : zA (zEn x) H1 r1 (t + 1) q1 m (zCpy f (fun _ => 0) 0 0 (r.2 (t + 1))) := ⟨by rw [eq1]; exact hI, q1t⟩
        have ho1 := hO.fr hf1 (zT1 (by omega))
        refine z_putf kP_X1_13 O (fun h => nomatch h) dX1_push_54 ho1.1 rfl rfl (Nat.le_of_ble_eq_true rfl) (fun H13 hO14 hC15 => ?_)
        have hf16 := ho1.ch hC15
        have ho17 : zO (zEn x) H13 r1 t q 1 [.int (iI (most : Int)), .ref q1, .int (iI n)] := ⟨hO14, ho1.2⟩
        have ha18 := ha1.fr hf16 (zT1 (by omega))
        refine z_aload_n 0 O dX1_push_57 rfl ?_
        refine z_getf kF_X1_23 O dX1_push_58 ho17.1 rfl ?_
        refine z_aload_n 0 O dX1_push_61 rfl ?_
        refine z_getf kF_X1_13 O dX1_push_62 ho17.1 rfl ?_
        refine z_alen (by decide) O dX1_push_65 ha18.1 ?_
        refine z_icmp_ge 89 O dX1_push_66 (by decide) ⟨by omega, by omega⟩ ⟨by omega, by omega⟩ (fun c_66 => ?_) (fun c_66 => ?_)
        · exfalso; omega
        · skip
          refine z_aload_n 0 O dX1_push_69 rfl ?_
          refine z_getf kF_X1_13 O dX1_push_70 ho17.1 rfl ?_
          refine z_aload_n 0 O dX1_push_73 rfl ?_
          refine z_getf kF_X1_23 O dX1_push_74 ho17.1 rfl ?_
          refine z_iload_n 1 O dX1_push_77 rfl ?_
          refine z_iast O dX1_push_78 ha18.1 ⟨by omega, by omega⟩ (by omega) (by omega) (fun H19 hA20 hC21 => ?_)
          have hf22 := ha18.ch hC21
          have ha23 : zA (zEn x) H19 r1 (t + 1) q1 m (zU (zCpy f (fun _ => 0) 0 0 (r.2 (t + 1))) n v) := ⟨hA20, ha18.2⟩
          have ho24 := ho17.fr hf22 (zT1 (by omega))
          refine z_aload_n 0 O dX1_push_79 rfl ?_
          refine z_dup O dX1_push_80 rfl ?_
          refine z_getf kF_X1_23 O dX1_push_81 ho24.1 rfl ?_
          refine z_iconst 1 O dX1_push_84 (by decide +kernel) ?_
          refine z_iadd O dX1_push_85 ?_
          refine z_putf kP_X1_23 O (fun h => nomatch h) dX1_push_86 ho24.1 rfl rfl (Nat.le_of_ble_eq_true rfl) (fun H25 hO26 hC27 => ?_)
          have hf28 := ho24.ch hC27
          have ho29 : zO (zEn x) H25 r1 t q 1 [.int (iI (most : Int)), .ref q1, .int (iI (n + 1))] := ⟨hO26, ho24.2⟩
          have ha30 := ha23.fr hf28 (zT1 (by omega))
          exact z_iretv O dX1_push_89 rfl (by omega) (by omega) hpo (⟨r1, (((((((hf1.up (fun s h => by first | exact h.elim | omega | (simp at h ⊢; omega)))).tr (hf16.up (fun s h => by first | exact h.elim | omega | (simp at h ⊢; omega))))).tr (hf22.up (fun s h => by first | exact h.elim | omega | (simp at h ⊢; omega))))).tr (hf28.up (fun s h => by first | exact h.elim | omega | (simp at h ⊢; omega)))), ⟨q1, _, ho29, (by rw [hcap]; exact ha30), fun j h1 h2 => by unfold zU; split; rfl; exact hgz j h1 (by omega), by omega, by omega, by omega, by omega, hmo⟩, by omega⟩)
    · exfalso; omega

theorem c_X1_copyFrom {E : zE} (hst : E.1.stackTraces = false) {H : Heap} {r : zH} {t q most t2 q2 : Nat} {n n2 : Int} {g g2 : Int → Int} (h : zRow E H r t q most n g) (h2 : zRow E H r t2 q2 most n2 g2) (ht : t2 ≠ t ∧ t2 ≠ t + 1 ∧ t ≠ t2 + 1) : zC E yX1_copyFrom cX1_copyFrom 2 none 1 40 [.ref q, .ref q2] H 1 most (zRv (fun H1 => ∃ r1, zFr H r H1 r1 (fun s => s = t ∨ s = t + 1) ∧ zRow E H1 r1 t q most n2 g2 ∧ r.2 (t + 1) ≤ r1.2 (t + 1))) zN := by
  refine zC.of (by decide) (Nat.le_of_ble_eq_true rfl) hst ?_
  intro x O hE hpo hpx
  subst hE
  change zG x H 0 0 0 [(0, .ref q), (1, .ref q2)] []
  obtain ⟨it, f, hO, hA, hfg, hn0, hn1, hc1, hcm, hmo⟩ := h
  obtain ⟨it2, f2, gO, gA, hfg2, hm0, hm1, hd1, hdm, -⟩ := h2
  refine z_aload_n 1 O dX1_copyFrom_0 rfl ?_
  refine z_getf kF_X1_23 O dX1_copyFrom_1 gO.1 rfl ?_
  refine z_aload_n 0 O dX1_copyFrom_4 rfl ?_
  refine z_getf kF_X1_13 O dX1_copyFrom_5 hO.1 rfl ?_
  refine z_alen (by decide) O dX1_copyFrom_8 hA.1 ?_
  refine z_icmp_le 29 O dX1_copyFrom_9 (by decide) ⟨by omega, by omega⟩ ⟨by omega, by omega⟩ (fun c_9 => ?_) (fun c_9 => ?_)
  · skip
    refine z_aload_n 1 O dX1_copyFrom_29 rfl ?_
    refine z_getf kF_X1_23 O dX1_copyFrom_30 gO.1 rfl ?_
    refine z_if_lt 65 O dX1_copyFrom_33 (by decide) ⟨by omega, by omega⟩ (fun c_33 => ?_) (fun c_33 => ?_)
    · exfalso; omega
    · skip
      refine z_aload_n 1 O dX1_copyFrom_36 rfl ?_
      refine z_getf kF_X1_23 O dX1_copyFrom_37 gO.1 rfl ?_
      refine z_aload_n 1 O dX1_copyFrom_40 rfl ?_
      refine z_getf kF_X1_13 O dX1_copyFrom_41 gO.1 rfl ?_
      refine z_alen (by decide) O dX1_copyFrom_44 gA.1 ?_
      refine z_icmp_gt 65 O dX1_copyFrom_45 (by decide) ⟨by omega, by omega⟩ ⟨by omega, by omega⟩ (fun c_45 => ?_) (fun c_45 => ?_)
      · exfalso; omega
      · skip
        refine z_aload_n 1 O dX1_copyFrom_48 rfl ?_
        refine z_getf kF_X1_13 O dX1_copyFrom_49 gO.1 rfl ?_
        refine z_iconst 0 O dX1_copyFrom_52 (by decide +kernel) ?_
        refine z_aload_n 0 O dX1_copyFrom_53 rfl ?_
        refine z_getf kF_X1_13 O dX1_copyFrom_54 hO.1 rfl ?_
        refine z_iconst 0 O dX1_copyFrom_57 (by decide +kernel) ?_
        refine z_aload_n 1 O dX1_copyFrom_58 rfl ?_
        refine z_getf kF_X1_23 O dX1_copyFrom_59 gO.1 rfl ?_
        refine z_acopy (List.mem_of_getElem? (i := 730) (by decide +kernel)) O dX1_copyFrom_62 (by decide) (Nat.le_of_ble_eq_true rfl) gA.1 hA.1 ⟨by omega, by omega⟩ ⟨by omega, by omega⟩ ⟨by omega, by omega⟩ (by omega) (by omega) (by omega) (by omega) (by omega) (fun H1 hA2 hC3 => ?_)
        have hf4 := hA.ch hC3
        have ha5 : zA (zEn x) H1 r (t + 1) it (r.2 (t + 1)) (zCpy f2 f 0 0 n2) := ⟨hA2, hA.2⟩
        have hO6 := hO.fr hf4 (zT1 (by omega))
        have gO7 := gO.fr hf4 (zT1 (by omega))
        have gA8 := gA.fr hf4 (zT1 (by omega))
        refine z_aload_n 0 O dX1_copyFrom_65 rfl ?_
        refine z_aload_n 1 O dX1_copyFrom_66 rfl ?_
        refine z_getf kF_X1_23 O dX1_copyFrom_67 gO7.1 rfl ?_
        refine z_putf kP_X1_23 O (fun h => nomatch h) dX1_copyFrom_70 hO6.1 rfl rfl (Nat.le_of_ble_eq_true rfl) (fun H9 hO10 hC11 => ?_)
        have hf12 := hO6.ch hC11
        have ho13 : zO (zEn x) H9 r t q 1 [.int (iI (most : Int)), .ref it, .int (iI n2)] := ⟨hO10, hO6.2⟩
        have ha14 := ha5.fr hf12 (zT1 (by omega))
        have gO15 := gO7.fr hf12 (zT1 (by omega))
        have gA16 := gA8.fr hf12 (zT1 (by omega))
        exact z_iretv O dX1_copyFrom_73 rfl (by omega) (by omega) hpo (⟨r, (((hf4.up (fun s h => by first | exact h.elim | omega | (simp at h ⊢; omega)))).tr (hf12.up (fun s h => by first | exact h.elim | omega | (simp at h ⊢; omega)))), ⟨it, _, ho13, ha14, fun j h1 h2 => by unfold zCpy; rw [if_pos ⟨by omega, by omega⟩, show (0 : Int) + (j - 0) = j by omega]; exact hfg2 j h1 h2, hm0, by omega, hc1, hcm, hmo⟩, Nat.le_refl _⟩)
  · skip
    refine z_aload_n 0 O dX1_copyFrom_12 rfl ?_
    refine z_aload_n 1 O dX1_copyFrom_13 rfl ?_
    refine z_getf kF_X1_13 O dX1_copyFrom_14 gO.1 rfl ?_
    refine z_clone (List.mem_of_getElem? (i := 728) (by decide +kernel)) O dX1_copyFrom_17 (by decide) (Nat.le_of_ble_eq_true rfl) (by omega) (by omega) gA.1 (fun H17 hA18 hN19 => ?_)
    obtain ⟨r21, er21⟩ : ∃ z, z = zCap (zTag r H.size (t + 1)) (t + 1) (r.2 (t2 + 1)) := ⟨_, rfl⟩
    have hf22 : zFr H r H17 r21 (fun s => s = (t + 1)) := by rw [er21]; exact (hN19.fr r (t + 1) _).tr zCap.fr
    obtain ⟨q20, eq20⟩ : ∃ z, z = H.size := ⟨_, rfl⟩
    have q20t : r21.1 q20 = (t + 1) := by rw [er21, eq20]; exact zTag_1
    have q20c : r21.2 (t + 1) = r.2 (t2 + 1) := by rw [er21]; exact if_pos rfl
    rw [← eq20]
    have hO23 := hO.fr hf22 (zT1 (by omega))
    have gO24 := gO.fr hf22 (zT1 (by omega))
    have gA25 := gA.fr hf22 (zT1 (by omega))
    have ha26 : zA (zEn x) H17 r21 (t + 1) q20 (r.2 (t2 + 1)) f2 := ⟨by rw [eq20]; exact hA18, q20t⟩
    refine z_castI (List.mem_of_getElem? (i := 729) (by decide +kernel)) O dX1_copyFrom_20 ha26.1 ?_
    refine z_putf kP_X1_13 O (fun h => nomatch h) dX1_copyFrom_23 hO23.1 rfl rfl (Nat.le_of_ble_eq_true rfl) (fun H27 hO28 hC29 => ?_)
    have hf30 := hO23.ch hC29
    have ho31 : zO (zEn x) H27 r21 t q 1 [.int (iI (most : Int)), .ref q20, .int (iI n)] := ⟨hO28, hO23.2⟩
    have gO32 := gO24.fr hf30 (zT1 (by omega))
    have gA33 := gA25.fr hf30 (zT1 (by omega))
    have ha34 := ha26.fr hf30 (zT1 (by omega))
    refine z_goto 65 O dX1_copyFrom_26 (by decide) ?_
    refine z_aload_n 0 O dX1_copyFrom_65 rfl ?_
    refine z_aload_n 1 O dX1_copyFrom_66 rfl ?_
    refine z_getf kF_X1_23 O dX1_copyFrom_67 gO32.1 rfl ?_
    refine z_putf kP_X1_23 O (fun h => nomatch h) dX1_copyFrom_70 ho31.1 rfl rfl (Nat.le_of_ble_eq_true rfl) (fun H35 hO36 hC37 => ?_)
    have hf38 := ho31.ch hC37
    have ho39 : zO (zEn x) H35 r21 t q 1 [.int (iI (most : Int)), .ref q20, .int (iI n2)] := ⟨hO36, ho31.2⟩
    have gO40 := gO32.fr hf38 (zT1 (by omega))
    have gA41 := gA33.fr hf38 (zT1 (by omega))
    have ha42 := ha34.fr hf38 (zT1 (by omega))
    exact z_iretv O dX1_copyFrom_73 rfl (by omega) (by omega) hpo (⟨r21, (((((hf22.up (fun s h => by first | exact h.elim | omega | (simp at h ⊢; omega)))).tr (hf30.up (fun s h => by first | exact h.elim | omega | (simp at h ⊢; omega))))).tr (hf38.up (fun s h => by first | exact h.elim | omega | (simp at h ⊢; omega)))), ⟨q20, _, ho39, (by rw [q20c]; exact ha42), fun j h1 h2 => hfg2 j h1 h2, hm0, by omega, by omega, by omega, hmo⟩, by omega⟩)

theorem c_X1_init {E : zE} (hst : E.1.stackTraces = false) {H : Heap} {r : zH} {t q most c : Nat} (hO : zO E H r t q 1 [.int (iI 0), .null, .int (iI 0)]) (hc : 1 ≤ c ∧ c ≤ most) (hmo : most ≤ 1024) : zC E yX1_init cX1_init 3 none 1 20 [.ref q, .int (iI (c : Int)), .int (iI (most : Int))] H 1 c (zRv (fun H1 => ∃ r1, zFr H r H1 r1 (fun s => s = t ∨ s = t + 1) ∧ zRow E H1 r1 t q most 0 (fun _ => 0) ∧ r1.2 (t + 1) = c)) zN := by
  refine zC.of (by decide) (Nat.le_of_ble_eq_true rfl) hst ?_
  intro x O hE hpo hpx
  subst hE
  change zG x H 0 0 0 [(0, .ref q), (1, .int (iI (c : Int))), (2, .int (iI (most : Int)))] []
  refine z_aload_n 0 O dX1_init_0 rfl ?_
  refine z_objInit (List.mem_of_getElem? (i := 71) (by decide +kernel)) O dX1_init_1 (by decide) (Nat.le_of_ble_eq_true rfl) ?_
  refine z_aload_n 0 O dX1_init_4 rfl ?_
  refine z_iconst 1 O dX1_init_5 (by decide +kernel) ?_
  refine z_iload_n 1 O dX1_init_6 rfl ?_
  refine z_mmax (List.mem_of_getElem? (i := 72) (by decide +kernel)) O dX1_init_7 (by decide) (Nat.le_of_ble_eq_true rfl) (by omega) (by omega) ⟨by omega, by omega⟩ ⟨by omega, by omega⟩ ?_
  refine z_newi (n := c) O dX1_init_10 ⟨by omega, by omega⟩ (by omega) (by omega) (by omega) (by omega) (by omega) (fun H1 hA2 hN3 => ?_)
  obtain ⟨r5, er5⟩ : ∃ z, z = zCap (zTag r H.size (t + 1)) (t + 1) c := ⟨_, rfl⟩
  have hf6 : zFr H r H1 r5 (fun s => s = (t + 1)) := by rw [er5]; exact (hN3.fr r (t + 1) _).tr zCap.fr
  obtain ⟨q4, eq4⟩ : ∃ z, z = H.size := ⟨_, rfl⟩
  have q4t : r5.1 q4 = (t + 1) := by rw [er5, eq4]; exact zTag_1
  have q4c : r5.2 (t + 1) = c := by rw [er5]; exact if_pos rfl
  rw [← eq4]
  have hO7 := hO.fr hf6 (zT1 (by omega))
  have ha8 : zA (zEn x) H1 r5 (t + 1) q4 c (fun _ => 0) := ⟨by rw [eq4]; exact hA2, q4t⟩
  refine z_putf kP_X1_13 O (fun _ => rfl) dX1_init_12 hO7.1 rfl rfl (Nat.le_of_ble_eq_true rfl) (fun H9 hO10 hC11 => ?_)
  have hf12 := hO7.ch hC11
  have ho13 : zO (zEn x) H9 r5 t q 1 [.int (iI 0), .ref q4, .int (iI 0)] := ⟨hO10, hO7.2⟩
  have ha14 := ha8.fr hf12 (zT1 (by omega))
  refine z_aload_n 0 O dX1_init_15 rfl ?_
  refine z_iload_n 2 O dX1_init_16 rfl ?_
  refine z_putf kP_X1_19 O (fun _ => rfl) dX1_init_17 ho13.1 rfl rfl (Nat.le_of_ble_eq_true rfl) (fun H15 hO16 hC17 => ?_)
  have hf18 := ho13.ch hC17
  have ho19 : zO (zEn x) H15 r5 t q 1 [.int (iI (most : Int)), .ref q4, .int (iI 0)] := ⟨hO16, ho13.2⟩
  have ha20 := ha14.fr hf18 (zT1 (by omega))
  exact z_iretv O dX1_init_20 rfl (by omega) (by omega) hpo (⟨r5, (((((hf6.up (fun s h => by first | exact h.elim | omega | (simp at h ⊢; omega)))).tr (hf12.up (fun s h => by first | exact h.elim | omega | (simp at h ⊢; omega))))).tr (hf18.up (fun s h => by first | exact h.elim | omega | (simp at h ⊢; omega)))), ⟨q4, _, ho19, (by rw [q4c]; exact ha20), fun j h1 h2 => by omega, by omega, by omega, by omega, by omega, hmo⟩, q4c⟩)
end
