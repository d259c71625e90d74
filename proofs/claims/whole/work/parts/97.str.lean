/-! the class: the shapes, Strings (written by program: wip/whole/gen/class24.py) -/
def zLn (i : Nat) : Nat := (zLit i).2.2.length
def zLc (i k : Nat) : Int := ((zLit i).2.2.getD k 0).toInt
abbrev zAs (E : zE) (i : Nat) : Nat := E.2.2.1 (100 + i)
abbrev zAv (E : zE) (i : Nat) : Nat := E.2.2.1 (200 + i)
theorem zS_len : ∀ i : Nat, i < 6 → zLn i < 6 := by decide
theorem zS_ch : ∀ i : Nat, i < 6 → ∀ k : Nat, k < 5 → ((zLit i).2.2.getD k 0) = iI (zLc i k) ∧ (0 ≤ zLc i k ∧ zLc i k < 128) ∧ iI (zLc i k) &&& iI 255 = iI (zLc i k) ∧ ((iI (zLc i k)).toUInt32 % 65536).toInt32 = iI (zLc i k) ∧ narrow .char (.int (iI (zLc i k))) = .int (iI (zLc i k)) := by decide +kernel
theorem zS_sh : ∀ n : Nat, n < 6 → iI (n : Int) >>> (iI 0 &&& 31) = iI (n : Int) := by decide +kernel
theorem zSx_back {E : zE} {s : State} {H : Heap} {locs : List Loc} (hk : zKn E s H) (hf : zF E s.heap H) (hl : ∀ z ∈ locs, E.2.2.2 ≤ z.base) : zSx E s s.heap ∧ va_S (fun q => E.2.2.2 ≤ q) s.heap H locs :=
  ⟨hk.2.2.2.2.2.2.kept (fun a _ ha => (hf.2 a (Nat.not_le.mp ha)).symm), hf.1, fun q _ hn => hf.2 q (Nat.not_le.mp hn), hl⟩
/-- a method of String, of a constant -/
def zMT (own : String) (idx : Nat) (y : MethodName) (cc : ByteArray) (nL : Nat) (ret : Option FieldType) (n : Nat) : Prop := zMc y cc nL ret n ∧ Cond.methodLink own idx y ∈ lw_tbl ∧ Cond.instanceMethod y ∈ lw_tbl ∧ Cond.selects y.cls y y ∈ lw_tbl ∧ "java/lang/String" = y.cls
section ZT
variable {x : zX} {own : String} {cc : ByteArray} {nL : Nat} {ret : Option FieldType} {nm : String} {F L mc ms : Nat} {H : Heap} {a b pc : Nat} {lv : List (Nat × Value)} {rest st : List Value} {idx : Nat} {i : Nat}
variable {y : MethodName} {cc2 : ByteArray} {nL2 : Nat} {ret2 : Option FieldType} {n F2 L2 : Nat} {px : String → Heap → Prop} {As : List Value} {P : Heap → Prop}
theorem z_sval (hi : i < 6) (hm : Cond.fieldLink own idx "java/lang/String" "value" "[B" ∈ lw_tbl) (O : zOk x own cc nL ret nm F L mc ms) (d : decode cc pc = .ok (.getfield idx, 3)) (K : zG x H a b (pc + 3) lv (.ref (zAv (zEn x) i) :: st)) : zG x H a b pc lv (.ref (zAs (zEn x) i) :: st) := by
  obtain ⟨⟨p, e, R, s, m⟩, ⟨args, below, meth, c⟩, E, mc', ms', post, px⟩ := x
  obtain ⟨hx, hb, hml, hr, hown, hlk, htb, hst, hnm, hR, hm1, hm2⟩ := O
  intro hk hf locs ls hl hlv
  obtain ⟨hA, hS⟩ := zSx_back hk hf hl
  exact vk_getf hx hb ((hA.1 i hi).1.1 0 (by decide)).2.2.1 hS hown (hk.2.2.1.at hm rfl rfl) (fun _ h => h) d (K hk hf locs ls hl hlv)
theorem z_scod (hi : i < 6) (hm : Cond.fieldLink own idx "java/lang/String" "coder" "B" ∈ lw_tbl) (O : zOk x own cc nL ret nm F L mc ms) (d : decode cc pc = .ok (.getfield idx, 3)) (K : zG x H a b (pc + 3) lv (.int (iI 0) :: st)) : zG x H a b pc lv (.ref (zAs (zEn x) i) :: st) := by
  obtain ⟨⟨p, e, R, s, m⟩, ⟨args, below, meth, c⟩, E, mc', ms', post, px⟩ := x
  obtain ⟨hx, hb, hml, hr, hown, hlk, htb, hst, hnm, hR, hm1, hm2⟩ := O
  intro hk hf locs ls hl hlv
  obtain ⟨hA, hS⟩ := zSx_back hk hf hl
  exact vk_getf hx hb ((hA.1 i hi).1.1 0 (by decide)).2.1 hS hown (hk.2.2.1.at hm rfl rfl) (fun _ h => h) d (by rw [iI_0]; exact K hk hf locs ls hl hlv)
theorem z_slen (hi : i < 6) (O : zOk x own cc nL ret nm F L mc ms) (d : decode cc pc = .ok (.arraylength, 1)) (K : zG x H a b (pc + 1) lv (.int (iI (zLn i : Nat)) :: st)) : zG x H a b pc lv (.ref (zAv (zEn x) i) :: st) := by
  obtain ⟨⟨p, e, R, s, m⟩, ⟨args, below, meth, c⟩, E, mc', ms', post, px⟩ := x
  obtain ⟨hx, hb, hml, hr, hown, hlk, htb, hst, hnm, hR, hm1, hm2⟩ := O
  intro hk hf locs ls hl hlv
  obtain ⟨hA, hS⟩ := zSx_back hk hf hl
  exact va_tlen hx hb ((hA.1 i hi).1.1 0 (by decide)).2.2.2 hS (iI_nat (zLn i)) d (K hk hf locs ls hl hlv)
theorem z_sbyte {k : Int} (hi : i < 6) (hz : zR k) (h0 : 0 ≤ k) (h1 : k < (zLn i : Nat)) (O : zOk x own cc nL ret nm F L mc ms) (d : decode cc pc = .ok (.baload, 1)) (K : zG x H a b (pc + 1) lv (.int (iI (zLc i k.toNat)) :: st)) : zG x H a b pc lv (.int (iI k) :: .ref (zAv (zEn x) i) :: st) := by
  have hln := zS_len i hi
  have hch := (zS_ch i hi k.toNat (by omega)).1
  obtain ⟨⟨p, e, R, s, m⟩, ⟨args, below, meth, c⟩, E, mc', ms', post, px⟩ := x
  obtain ⟨hx, hb, hml, hr, hown, hlk, htb, hst, hnm, hR, hm1, hm2⟩ := O
  intro hk hf locs ls hl hlv
  obtain ⟨hA, hS⟩ := zSx_back hk hf hl
  exact va_tb hx hb ((hA.1 i hi).1.1 0 (by decide)).2.2.2 hS (zix hz h0 h1) (v := .int (iI (zLc i k.toNat))) (by rw [zcl hz]; exact congrArg Value.int hch) d (K hk hf locs ls hl hlv)
theorem z_scmp (hm : Cond.fieldLink own idx "java/lang/String" "COMPACT_STRINGS" "Z" ∈ lw_tbl) (O : zOk x own cc nL ret nm F L mc ms) (d : decode cc pc = .ok (.getstatic idx, 3)) (K : zG x H a b (pc + 3) lv (.int (iI 1) :: st)) : zG x H a b pc lv st := by
  obtain ⟨⟨p, e, R, s, m⟩, ⟨args, below, meth, c⟩, E, mc', ms', post, px⟩ := x
  obtain ⟨hx, hb, hml, hr, hown, hlk, htb, hst, hnm, hR, hm1, hm2⟩ := O
  intro hk hf locs ls hl hlv
  obtain ⟨hA, hS⟩ := zSx_back hk hf hl
  exact va_gets hx hb hA.2.1 hS hown (hk.2.2.1.at hm rfl rfl) (fun _ h => h) d (by rw [show (1 : Int32) = iI 1 by decide +kernel]; exact K hk hf locs ls hl hlv)
theorem z_ssio (hm : Cond.fieldLink own idx "jdk/internal/util/Preconditions" "SIOOBE_FORMATTER" "Ljava/util/function/BiFunction;" ∈ lw_tbl) (O : zOk x own cc nL ret nm F L mc ms) (d : decode cc pc = .ok (.getstatic idx, 3)) (K : ∀ v : Value, (v = .null ∨ ∃ t, v = .ref t) → zG x H a b (pc + 3) lv (v :: st)) : zG x H a b pc lv st := by
  obtain ⟨⟨p, e, R, s, m⟩, ⟨args, below, meth, c⟩, E, mc', ms', post, px⟩ := x
  obtain ⟨hx, hb, hml, hr, hown, hlk, htb, hst, hnm, hR, hm1, hm2⟩ := O
  intro hk hf locs ls hl hlv
  obtain ⟨hA, hS⟩ := zSx_back hk hf hl
  rcases hA.2.2.1 with hz | ⟨t, hz⟩
  · exact va_gets hx hb hz hS hown (hk.2.2.1.at hm rfl rfl) (fun _ h => h) d (K _ (Or.inl rfl) hk hf locs ls hl hlv)
  · exact va_gets hx hb hz hS hown (hk.2.2.1.at hm rfl rfl) (fun _ h => h) d (K _ (Or.inr ⟨t, rfl⟩) hk hf locs ls hl hlv)
theorem z_ldcSw (hi : i < 6) (he : (zLit i).1 = idx) (O : zOk x RX5 cc nL ret nm F L mc ms) (d : decode cc pc = .ok (.ldc_w idx, 3)) (K : zG x H a b (pc + 3) lv (.ref (zAs (zEn x) i) :: st)) : zG x H a b pc lv st := by
  subst he
  obtain ⟨⟨p, e, R, s, m⟩, ⟨args, below, meth, c⟩, E, mc', ms', post, px⟩ := x
  obtain ⟨hx, hb, hml, hr, hown, hlk, htb, hst, hnm, hR, hm1, hm2⟩ := O
  intro hk hf locs ls hl hlv T hT X
  have hZ := (hk.2.2.2.2.2.2.1 i hi).2
  obtain ⟨t, a1, b1⟩ := K hk hf locs ls hl hlv T hT X
  exact ⟨t, X.ldcStringW hx hown (text := (zLit i).2.1) (a := zAs E i) hZ.1 hZ.2 (g := F0 m pc ls st) rfl (by rw [hb]; exact d) t a1, b1⟩
theorem z_ishr {u v w : Int32} (hv : u >>> (v &&& 31) = w) (O : zOk x own cc nL ret nm F L mc ms) (d : decode cc pc = .ok (.ishr, 1)) (K : zG x H a b (pc + 1) lv (.int w :: st)) : zG x H a b pc lv (.int v :: .int u :: st) := by
  subst hv
  obtain ⟨⟨p, e, R, s, m⟩, ⟨args, below, meth, c⟩, E, mc', ms', post, px⟩ := x
  obtain ⟨hx, hb, hml, hr, hown, hlk, htb, hst, hnm, hR, hm1, hm2⟩ := O
  intro hk hf locs ls hl hlv
  exact lv_ishr hx hb d (K hk hf locs ls hl hlv)
theorem z_iand {u v w : Int32} (hv : u &&& v = w) (O : zOk x own cc nL ret nm F L mc ms) (d : decode cc pc = .ok (.iand, 1)) (K : zG x H a b (pc + 1) lv (.int w :: st)) : zG x H a b pc lv (.int v :: .int u :: st) := by
  subst hv
  obtain ⟨⟨p, e, R, s, m⟩, ⟨args, below, meth, c⟩, E, mc', ms', post, px⟩ := x
  obtain ⟨hx, hb, hml, hr, hown, hlk, htb, hst, hnm, hR, hm1, hm2⟩ := O
  intro hk hf locs ls hl hlv
  exact lv_iand hx hb d (K hk hf locs ls hl hlv)
theorem z_i2cS {u w : Int32} (hv : (u.toUInt32 % 65536).toInt32 = w) (O : zOk x own cc nL ret nm F L mc ms) (d : decode cc pc = .ok (.i2c, 1)) (K : zG x H a b (pc + 1) lv (.int w :: st)) : zG x H a b pc lv (.int u :: st) := by
  obtain ⟨⟨p, e, R, s, m⟩, ⟨args, below, meth, c⟩, E, mc', ms', post, px⟩ := x
  obtain ⟨hx, hb, hml, hr, hown, hlk, htb, hst, hnm, hR, hm1, hm2⟩ := O
  intro hk hf locs ls hl hlv
  exact lv_i2c hx hb d hv (K hk hf locs ls hl hlv)
theorem z_iretn {ty : FieldType} {e r : Int} (O : zOk x own cc nL ret nm F L mc ms) (d : decode cc pc = .ok (.ireturn, 1)) (hr9 : ret = some ty) (hn : narrow ty (.int (iI e)) = .int (iI e)) (hty : ty = .char ∨ ty = .byte) (h1 : a ≤ mc) (h2 : b ≤ ms) (hpo : zPo x = zRi r P) (he : e = r) (hP : P H) : zG x H a b pc lv [.int (iI e)] := by
  subst he
  obtain ⟨⟨p, e, R, s, m⟩, ⟨args, below, meth, c⟩, E, mc', ms', post, px⟩ := x
  obtain ⟨hx, hb, hml, hr, hown, hlk, htb, hst, hnm, hR, hm1, hm2⟩ := O
  intro hk hf locs ls hl hlv
  have hpo : post = zRi _ P := hpo
  subst hm1 hm2
  subst hr9
  refine W.widen h1 h2 (vx_ret ?_)
  rcases hty with q | q
  · subst q
    exact W.zret (ty := .char) hx hb hr hn (fun t ht hW => by subst ht; exact ⟨⟨_, rfl, by rw [hpo]; exact ⟨rfl, hP⟩⟩, hf⟩) hl d hlk
  · subst q
    exact W.zret (ty := .byte) hx hb hr hn (fun t ht hW => by subst ht; exact ⟨⟨_, rfl, by rw [hpo]; exact ⟨rfl, hP⟩⟩, hf⟩) hl d hlk
theorem z_Ti (As rest : List Value) {r : Int} (hi : i < 6) (Lk : zMT own idx y cc2 nL2 ret2 n) (O : zOk x own cc nL ret nm F L mc ms) (d : decode cc pc = .ok (.invokevirtual idx, 3)) (C : zC (zEn x) y cc2 nL2 ret2 F2 L2 (.ref (zAs (zEn x) i) :: As) H 0 0 (zRi r (zSm H)) px) (hs : As.reverse ++ .ref (zAs (zEn x) i) :: rest = st) (hn : As.length = n) (hF : F2 + 1 ≤ F) (hL : 8 + (nL2 + 11) + L2 ≤ L) (hmc : a ≤ mc) (hms : b ≤ ms) (hW : (rest.map fun v => v.category).sum ≤ 8) (hpx : ∀ X H1, px X H1 → zPx x X H1) (K : zG x H a b (pc + 3) lv (.int (iI r) :: rest)) : zG x H a b pc lv st := by
  subst hs
  obtain ⟨⟨p, e, R, s, m⟩, ⟨args, below, meth, c⟩, E, mc', ms', post', px'⟩ := x
  obtain ⟨hx, hb, hml, hr, hown, hlk, htb, hst, hnm, hR, hm1, hm2⟩ := O
  intro hk hf locs ls hl hlv
  subst hR
  subst hm1 hm2
  obtain ⟨hmc9, hl9, hi9, hs9, hC9⟩ := Lk
  have hw := hk.2.2.1
  refine z_go (mc2 := 0) (ms2 := 0) (post := zRi r (zSm H)) (px := px) hown hlk htb hk hf hl hlv ?_ (by omega) (by omega) hpx (fun v H1 hp hz => by obtain ⟨rfl, rfl⟩ := hp; exact K)
  obtain ⟨cell, h1, h2, h3, -⟩ := ((hk.2.2.2.2.2.2.1 i hi).1.1 0 (by decide)).1
  exact vx_runV (Ts := []) (As := As) (b := zAs E i) (rest := rest) (g := F0 m pc ls (As.reverse ++ .ref (zAs E i) :: rest)) ⟨hx, hb, hml, hown, fun w h => nomatch h⟩ C ⟨z_callB hw hmc9 hl9 ⟨hF, hL⟩, hw.at hi9 rfl rfl, hw.at hs9 rfl rfl⟩ ⟨(zPreS hk).1, ⟨cell, h1, h2, by rw [← hC9]; exact h3⟩, (zPreS hk).2⟩ rfl hn (by rw [← hml]; exact hlv.1) rfl (lv_room hW) d ⟨by omega, by omega⟩
end ZT
theorem kM_J0_335 : zMT RJ0 335 yJ0_coder_7d493 cJ0_coder_7d493 1 (some .byte) 0 := ⟨⟨(List.mem_of_getElem? (i := 53) (by decide +kernel)), (List.mem_of_getElem? (i := 308) (by decide +kernel)), by decide +kernel, by decide +kernel, by decide +kernel⟩, (List.mem_of_getElem? (i := 305) (by decide +kernel)), (List.mem_of_getElem? (i := 306) (by decide +kernel)), (List.mem_of_getElem? (i := 307) (by decide +kernel)), rfl⟩
theorem kM_J0_492 : zMT RJ0 492 yJ0_isLatin1_aae02 cJ0_isLatin1_aae02 1 (some .boolean) 0 := ⟨⟨(List.mem_of_getElem? (i := 53) (by decide +kernel)), (List.mem_of_getElem? (i := 318) (by decide +kernel)), by decide +kernel, by decide +kernel, by decide +kernel⟩, (List.mem_of_getElem? (i := 315) (by decide +kernel)), (List.mem_of_getElem? (i := 316) (by decide +kernel)), (List.mem_of_getElem? (i := 317) (by decide +kernel)), rfl⟩
theorem kM_J0_495 : zMS RJ0 495 yJ1_charAt_3b067 cJ1_charAt_3b067 2 (some .char) 2 := ⟨⟨(List.mem_of_getElem? (i := 54) (by decide +kernel)), (List.mem_of_getElem? (i := 321) (by decide +kernel)), by decide +kernel, by decide +kernel, by decide +kernel⟩, Or.inl (List.mem_of_getElem? (i := 319) (by decide +kernel)), (List.mem_of_getElem? (i := 320) (by decide +kernel))⟩
theorem kM_J1_9 : zMS RJ1 9 yJ0_checkIndex_df160 cJ0_checkIndex_df160 2 none 2 := ⟨⟨(List.mem_of_getElem? (i := 53) (by decide +kernel)), (List.mem_of_getElem? (i := 324) (by decide +kernel)), by decide +kernel, by decide +kernel, by decide +kernel⟩, Or.inl (List.mem_of_getElem? (i := 322) (by decide +kernel)), (List.mem_of_getElem? (i := 323) (by decide +kernel))⟩
theorem kM_J0_1059 : zMS RJ0 1059 yJ3_checkIndex_8e157 cJ3_checkIndex_8e157 3 (some .int) 3 := ⟨⟨(List.mem_of_getElem? (i := 55) (by decide +kernel)), (List.mem_of_getElem? (i := 329) (by decide +kernel)), by decide +kernel, by decide +kernel, by decide +kernel⟩, Or.inl (List.mem_of_getElem? (i := 327) (by decide +kernel)), (List.mem_of_getElem? (i := 328) (by decide +kernel))⟩
theorem kM_X5_74 : zMT RX5 74 yJ0_isEmpty_aae02 cJ0_isEmpty_aae02 1 (some .boolean) 0 := ⟨⟨(List.mem_of_getElem? (i := 53) (by decide +kernel)), (List.mem_of_getElem? (i := 296) (by decide +kernel)), by decide +kernel, by decide +kernel, by decide +kernel⟩, (List.mem_of_getElem? (i := 293) (by decide +kernel)), (List.mem_of_getElem? (i := 294) (by decide +kernel)), (List.mem_of_getElem? (i := 295) (by decide +kernel)), rfl⟩
theorem kM_X5_84 : zMT RX5 84 yJ0_length_8abf5 cJ0_length_8abf5 1 (some .int) 0 := ⟨⟨(List.mem_of_getElem? (i := 53) (by decide +kernel)), (List.mem_of_getElem? (i := 304) (by decide +kernel)), by decide +kernel, by decide +kernel, by decide +kernel⟩, (List.mem_of_getElem? (i := 301) (by decide +kernel)), (List.mem_of_getElem? (i := 302) (by decide +kernel)), (List.mem_of_getElem? (i := 303) (by decide +kernel)), rfl⟩
theorem kM_X5_313 : zMT RX5 313 yJ0_charAt_5068e cJ0_charAt_5068e 2 (some .char) 1 := ⟨⟨(List.mem_of_getElem? (i := 53) (by decide +kernel)), (List.mem_of_getElem? (i := 314) (by decide +kernel)), by decide +kernel, by decide +kernel, by decide +kernel⟩, (List.mem_of_getElem? (i := 311) (by decide +kernel)), (List.mem_of_getElem? (i := 312) (by decide +kernel)), (List.mem_of_getElem? (i := 313) (by decide +kernel)), rfl⟩
theorem c_J0_coder {E : zE} (hst : E.1.stackTraces = false) {H : Heap} {i : Nat} (hi : i < 6) : zC E yJ0_coder_7d493 cJ0_coder_7d493 1 (some .byte) 0 0 [.ref (zAs E i)] H 0 0 (zRi 0 (zSm H)) zN := by
  refine zC.of (by decide) (Nat.le_of_ble_eq_true rfl) hst ?_
  intro x O hE hpo hpx
  subst hE
  change zG x H 0 0 0 [(0, .ref (zAs (zEn x) i))] []
  refine z_scmp (List.mem_of_getElem? (i := 309) (by decide +kernel)) O dJ0_coder_7d493_0 ?_
  refine z_if_eq 13 O dJ0_coder_7d493_3 (by decide) ⟨by omega, by omega⟩ (fun c => ?_) (fun c => ?_)
  · exfalso; omega
  refine z_aload_n 0 O dJ0_coder_7d493_6 rfl ?_
  refine z_scod hi (List.mem_of_getElem? (i := 1297) (by decide +kernel)) O dJ0_coder_7d493_7 ?_
  refine z_goto 14 O dJ0_coder_7d493_10 (by decide) ?_
  exact z_iretn O dJ0_coder_7d493_14 rfl (by decide +kernel) (Or.inr rfl) (by omega) (by omega) hpo rfl rfl
theorem c_J0_isLatin1 {E : zE} (hst : E.1.stackTraces = false) {H : Heap} {i : Nat} (hi : i < 6) : zC E yJ0_isLatin1_aae02 cJ0_isLatin1_aae02 1 (some .boolean) 0 0 [.ref (zAs E i)] H 0 0 (zRi (zb true) (zSm H)) zN := by
  refine zC.of (by decide) (Nat.le_of_ble_eq_true rfl) hst ?_
  intro x O hE hpo hpx
  subst hE
  change zG x H 0 0 0 [(0, .ref (zAs (zEn x) i))] []
  refine z_scmp (List.mem_of_getElem? (i := 309) (by decide +kernel)) O dJ0_isLatin1_aae02_0 ?_
  refine z_if_eq 17 O dJ0_isLatin1_aae02_3 (by decide) ⟨by omega, by omega⟩ (fun c => ?_) (fun c => ?_)
  · exfalso; omega
  refine z_aload_n 0 O dJ0_isLatin1_aae02_6 rfl ?_
  refine z_scod hi (List.mem_of_getElem? (i := 1297) (by decide +kernel)) O dJ0_isLatin1_aae02_7 ?_
  refine z_if_ne 17 O dJ0_isLatin1_aae02_10 (by decide) ⟨by omega, by omega⟩ (fun c => ?_) (fun c => ?_)
  · exfalso; omega
  refine z_iconst 1 O dJ0_isLatin1_aae02_13 (by decide +kernel) ?_
  refine z_goto 18 O dJ0_isLatin1_aae02_14 (by decide) ?_
  exact z_iretb O dJ0_isLatin1_aae02_18 rfl (by omega) (by omega) hpo rfl rfl
theorem c_J0_length {E : zE} (hst : E.1.stackTraces = false) {H : Heap} {i : Nat} (hi : i < 6) : zC E yJ0_length_8abf5 cJ0_length_8abf5 1 (some .int) 1 20 [.ref (zAs E i)] H 0 0 (zRi (zLn i : Nat) (zSm H)) zN := by
  refine zC.of (by decide) (Nat.le_of_ble_eq_true rfl) hst ?_
  intro x O hE hpo hpx
  subst hE
  change zG x H 0 0 0 [(0, .ref (zAs (zEn x) i))] []
  refine z_aload_n 0 O dJ0_length_8abf5_0 rfl ?_
  refine z_sval hi (List.mem_of_getElem? (i := 1296) (by decide +kernel)) O dJ0_length_8abf5_1 ?_
  refine z_slen hi O dJ0_length_8abf5_4 ?_
  refine z_aload_n 0 O dJ0_length_8abf5_5 rfl ?_
  refine z_Ti [] [.int (iI (zLn i : Nat))] hi kM_J0_335 O dJ0_length_8abf5_6 (c_J0_coder hst hi) rfl rfl (by decide) (Nat.le_of_ble_eq_true rfl) (by omega) (by omega) (Nat.le_of_ble_eq_true rfl) zNx ?_
  refine z_ishr (zS_sh (zLn i) (zS_len i hi)) O dJ0_length_8abf5_9 ?_
  exact z_ireti O dJ0_length_8abf5_10 rfl (by omega) (by omega) hpo rfl rfl
theorem c_J0_isEmpty {E : zE} (hst : E.1.stackTraces = false) {H : Heap} {i : Nat} (hi : i < 6) : zC E yJ0_isEmpty_aae02 cJ0_isEmpty_aae02 1 (some .boolean) 0 0 [.ref (zAs E i)] H 0 0 (zRi (zb (decide (zLn i = 0))) (zSm H)) zN := by
  refine zC.of (by decide) (Nat.le_of_ble_eq_true rfl) hst ?_
  intro x O hE hpo hpx
  subst hE
  have hln := zS_len i hi
  change zG x H 0 0 0 [(0, .ref (zAs (zEn x) i))] []
  refine z_aload_n 0 O dJ0_isEmpty_aae02_0 rfl ?_
  refine z_sval hi (List.mem_of_getElem? (i := 1296) (by decide +kernel)) O dJ0_isEmpty_aae02_1 ?_
  refine z_slen hi O dJ0_isEmpty_aae02_4 ?_
  refine z_if_ne 12 O dJ0_isEmpty_aae02_5 (by decide) ⟨by omega, by omega⟩ (fun c => ?_) (fun c => ?_)
  · refine z_iconst 0 O dJ0_isEmpty_aae02_12 (by decide +kernel) ?_
    exact z_iretb O dJ0_isEmpty_aae02_13 rfl (by omega) (by omega) hpo (by rw [decide_eq_false (by omega)]; rfl) rfl
  · refine z_iconst 1 O dJ0_isEmpty_aae02_8 (by decide +kernel) ?_
    refine z_goto 13 O dJ0_isEmpty_aae02_9 (by decide) ?_
    exact z_iretb O dJ0_isEmpty_aae02_13 rfl (by omega) (by omega) hpo (by rw [decide_eq_true (by omega)]; rfl) rfl
theorem c_J3_checkIndexN {E : zE} (hst : E.1.stackTraces = false) {H : Heap} {k n : Int} (hz : zR k) (hzn : zR n) (h0 : 0 ≤ k) (h1 : k < n) : zC E yJ3_checkIndex_8e157 cJ3_checkIndex_8e157 3 (some .int) 0 0 [.int (iI k), .int (iI n), .null] H 0 0 (zRi k (zSm H)) zN := by
  refine zC.of (by decide) (Nat.le_of_ble_eq_true rfl) hst ?_
  intro x O hE hpo hpx
  subst hE
  change zG x H 0 0 0 [(0, .int (iI k)), (1, .int (iI n)), (2, .null)] []
  refine z_iload_n 0 O dJ3_checkIndex_8e157_0 rfl ?_
  refine z_if_lt 9 O dJ3_checkIndex_8e157_1 (by decide) ⟨by omega, by omega⟩ (fun c => ?_) (fun c => ?_)
  · exfalso; omega
  refine z_iload_n 0 O dJ3_checkIndex_8e157_4 rfl ?_
  refine z_iload_n 1 O dJ3_checkIndex_8e157_5 rfl ?_
  refine z_icmp_lt 16 O dJ3_checkIndex_8e157_6 (by decide) ⟨by omega, by omega⟩ ⟨by omega, by omega⟩ (fun c => ?_) (fun c => ?_)
  · refine z_iload_n 0 O dJ3_checkIndex_8e157_16 rfl ?_
    exact z_ireti O dJ3_checkIndex_8e157_17 rfl (by omega) (by omega) hpo rfl rfl
  · exfalso; omega
theorem c_J3_checkIndexR {E : zE} (hst : E.1.stackTraces = false) {H : Heap} {k n : Int} {t : Nat} (hz : zR k) (hzn : zR n) (h0 : 0 ≤ k) (h1 : k < n) : zC E yJ3_checkIndex_8e157 cJ3_checkIndex_8e157 3 (some .int) 0 0 [.int (iI k), .int (iI n), .ref t] H 0 0 (zRi k (zSm H)) zN := by
  refine zC.of (by decide) (Nat.le_of_ble_eq_true rfl) hst ?_
  intro x O hE hpo hpx
  subst hE
  change zG x H 0 0 0 [(0, .int (iI k)), (1, .int (iI n)), (2, .ref t)] []
  refine z_iload_n 0 O dJ3_checkIndex_8e157_0 rfl ?_
  refine z_if_lt 9 O dJ3_checkIndex_8e157_1 (by decide) ⟨by omega, by omega⟩ (fun c => ?_) (fun c => ?_)
  · exfalso; omega
  refine z_iload_n 0 O dJ3_checkIndex_8e157_4 rfl ?_
  refine z_iload_n 1 O dJ3_checkIndex_8e157_5 rfl ?_
  refine z_icmp_lt 16 O dJ3_checkIndex_8e157_6 (by decide) ⟨by omega, by omega⟩ ⟨by omega, by omega⟩ (fun c => ?_) (fun c => ?_)
  · refine z_iload_n 0 O dJ3_checkIndex_8e157_16 rfl ?_
    exact z_ireti O dJ3_checkIndex_8e157_17 rfl (by omega) (by omega) hpo rfl rfl
  · exfalso; omega
theorem c_J0_checkIndex {E : zE} (hst : E.1.stackTraces = false) {H : Heap} {k n : Int} (hz : zR k) (hzn : zR n) (h0 : 0 ≤ k) (h1 : k < n) : zC E yJ0_checkIndex_df160 cJ0_checkIndex_df160 2 none 1 22 [.int (iI k), .int (iI n)] H 0 0 (zRv (zSm H)) zN := by
  refine zC.of (by decide) (Nat.le_of_ble_eq_true rfl) hst ?_
  intro x O hE hpo hpx
  subst hE
  change zG x H 0 0 0 [(0, .int (iI k)), (1, .int (iI n))] []
  refine z_iload_n 0 O dJ0_checkIndex_df160_0 rfl ?_
  refine z_iload_n 1 O dJ0_checkIndex_df160_1 rfl ?_
  refine z_ssio (List.mem_of_getElem? (i := 325) (by decide +kernel)) O dJ0_checkIndex_df160_2 (fun v hv => ?_)
  rcases hv with q | ⟨t, q⟩ <;> subst q
  · refine z_Si [.int (iI k), .int (iI n), .null] [] kM_J0_1059 O dJ0_checkIndex_df160_5 (c_J3_checkIndexN hst hz hzn h0 h1) rfl rfl (by decide) (Nat.le_of_ble_eq_true rfl) (by omega) (by omega) (Nat.le_of_ble_eq_true rfl) zNx ?_
    refine z_pop O dJ0_checkIndex_df160_8 rfl ?_
    exact z_iretv O dJ0_checkIndex_df160_9 rfl (by omega) (by omega) hpo rfl
  · refine z_Si [.int (iI k), .int (iI n), .ref t] [] kM_J0_1059 O dJ0_checkIndex_df160_5 (c_J3_checkIndexR hst hz hzn h0 h1) rfl rfl (by decide) (Nat.le_of_ble_eq_true rfl) (by omega) (by omega) (Nat.le_of_ble_eq_true rfl) zNx ?_
    refine z_pop O dJ0_checkIndex_df160_8 rfl ?_
    exact z_iretv O dJ0_checkIndex_df160_9 rfl (by omega) (by omega) hpo rfl
theorem c_J1_charAt {E : zE} (hst : E.1.stackTraces = false) {H : Heap} {i : Nat} {k : Int} (hi : i < 6) (hz : zR k) (h0 : 0 ≤ k) (h1 : k < (zLn i : Nat)) : zC E yJ1_charAt_3b067 cJ1_charAt_3b067 2 (some .char) 2 43 [.ref (zAv E i), .int (iI k)] H 0 0 (zRi (zLc i k.toNat) (zSm H)) zN := by
  refine zC.of (by decide) (Nat.le_of_ble_eq_true rfl) hst ?_
  intro x O hE hpo hpx
  subst hE
  have hln := zS_len i hi
  have hch := zS_ch i hi k.toNat (by omega)
  change zG x H 0 0 0 [(0, .ref (zAv (zEn x) i)), (1, .int (iI k))] []
  refine z_iload_n 1 O dJ1_charAt_3b067_0 rfl ?_
  refine z_aload_n 0 O dJ1_charAt_3b067_1 rfl ?_
  refine z_slen hi O dJ1_charAt_3b067_2 ?_
  refine z_Sv [.int (iI k), .int (iI (zLn i : Nat))] [] kM_J1_9 O dJ1_charAt_3b067_3 (c_J0_checkIndex hst hz ⟨by omega, by omega⟩ h0 h1) rfl rfl (by decide) (Nat.le_of_ble_eq_true rfl) (by omega) (by omega) (Nat.le_of_ble_eq_true rfl) zNx ?_
  refine z_aload_n 0 O dJ1_charAt_3b067_6 rfl ?_
  refine z_iload_n 1 O dJ1_charAt_3b067_7 rfl ?_
  refine z_sbyte hi hz h0 h1 O dJ1_charAt_3b067_8 ?_
  refine z_sipush 255 O dJ1_charAt_3b067_9 (by decide +kernel) ?_
  refine z_iand hch.2.2.1 O dJ1_charAt_3b067_12 ?_
  refine z_i2cS hch.2.2.2.1 O dJ1_charAt_3b067_13 ?_
  exact z_iretn O dJ1_charAt_3b067_14 rfl hch.2.2.2.2 (Or.inl rfl) (by omega) (by omega) hpo rfl rfl
theorem c_J0_charAt {E : zE} (hst : E.1.stackTraces = false) {H : Heap} {i : Nat} {k : Int} (hi : i < 6) (hz : zR k) (h0 : 0 ≤ k) (h1 : k < (zLn i : Nat)) : zC E yJ0_charAt_5068e cJ0_charAt_5068e 2 (some .char) 3 64 [.ref (zAs E i), .int (iI k)] H 0 0 (zRi (zLc i k.toNat) (zSm H)) zN := by
  refine zC.of (by decide) (Nat.le_of_ble_eq_true rfl) hst ?_
  intro x O hE hpo hpx
  subst hE
  have hln := zS_len i hi
  have hch := zS_ch i hi k.toNat (by omega)
  change zG x H 0 0 0 [(0, .ref (zAs (zEn x) i)), (1, .int (iI k))] []
  refine z_aload_n 0 O dJ0_charAt_5068e_0 rfl ?_
  refine z_Ti [] [] hi kM_J0_492 O dJ0_charAt_5068e_1 (c_J0_isLatin1 hst hi) rfl rfl (by decide) (Nat.le_of_ble_eq_true rfl) (by omega) (by omega) (Nat.le_of_ble_eq_true rfl) zNx ?_
  refine z_ifb_eq 16 O dJ0_charAt_5068e_4 (by decide) (fun c => ?_) (fun c => ?_)
  · exact absurd c (by decide)
  refine z_aload_n 0 O dJ0_charAt_5068e_7 rfl ?_
  refine z_sval hi (List.mem_of_getElem? (i := 1296) (by decide +kernel)) O dJ0_charAt_5068e_8 ?_
  refine z_iload_n 1 O dJ0_charAt_5068e_11 rfl ?_
  refine z_Si [.ref (zAv (zEn x) i), .int (iI k)] [] kM_J0_495 O dJ0_charAt_5068e_12 (c_J1_charAt hst hi hz h0 h1) rfl rfl (by decide) (Nat.le_of_ble_eq_true rfl) (by omega) (by omega) (Nat.le_of_ble_eq_true rfl) zNx ?_
  exact z_iretn O dJ0_charAt_5068e_15 rfl hch.2.2.2.2 (Or.inl rfl) (by omega) (by omega) hpo rfl rfl
