/-! the class: scripts and simulations (written by program: wip/whole/gen/class19.py) -/
theorem zTen_5 (k : Nat) : zTen (5 * (k + 1)) = zTen (5 * k) * 100000 := by
  show zTen (5 * k) * 10 * 10 * 10 * 10 * 10 = _
  omega
theorem zTen_d {s : Int} (k : Nat) (hk : k ≤ 2) : s / zTen (5 * k) / 100000 = s / zTen (5 * (k + 1)) := by
  rw [zTen_5, Int.ediv_ediv_of_nonneg (by have := zTen_R (5 * k) (by omega); omega)]
theorem bT_a {K : Int → Int} {w k : Int} (h0 : 0 ≤ k) (h3 : k ≤ 3) : alD K k w 0 0 = bT K w k ∧ opD K k w 0 0 = bR K w k := by
  rcases (show k = 0 ∨ k = 1 ∨ k = 2 ∨ k = 3 by omega) with q | q | q | q <;> subst q <;> exact ⟨rfl, rfl⟩
theorem uT_a {K : Int → Int} {w c v : Int} (h0 : 0 ≤ v ∧ v ≤ 99) : alD K 6 w c v = uT K w c := by
  show (sBt c 0 15 && (sBt v 0 99 && decide (sRe K w c = 0))) = decide ((0 ≤ c ∧ c ≤ 15) ∧ sRe K w c = 0)
  rw [sBt_t.mpr h0, Bool.true_and]
  exact (Bool.decide_and _ _).symm
theorem rT_a {K : Int → Int} {w c v : Int} (h0 : 0 ≤ v ∧ v ≤ 99) : alD K 5 w c v = rT K w c v := by
  show (sBt c 0 15 && (sBt v 1 99 && sCr K w c)) = (decide ((0 ≤ c ∧ c ≤ 15) ∧ ¬ v = 0) && sCr K w c)
  rw [← Bool.and_assoc]
  congr 1
  by_cases q : v = 0
  · rw [sBt_f.mpr (show ¬ (1 ≤ v ∧ v ≤ 99) by omega), decide_eq_false (by omega), Bool.and_false]
  · rw [sBt_t.mpr (show 1 ≤ v ∧ v ≤ 99 by omega), Bool.and_true]
    by_cases z : 0 ≤ c ∧ c ≤ 15
    · rw [sBt_t.mpr z, decide_eq_true ⟨z, q⟩]
    · rw [sBt_f.mpr z, decide_eq_false (fun y => z y.1)]
theorem atR_i {K : Int → Int} {k w u v : Int} (hw : 0 ≤ w ∧ w ≤ 2) : atR K k w u v = sIf (alD K k w u v) (opD K k w u v) K := by unfold atR; rw [atT_w hw]
theorem atR_n {K : Int → Int} {k w u v : Int} (hw : ¬ (0 ≤ w ∧ w ≤ 2)) : atR K k w u v = K := by unfold atR; rw [atT_n hw]; rfl
section GRP
variable {K : Int → Int} {g : Int}
theorem grp_1 (h0 : 0 ≤ g) (h1 : g < 100000) (c : g / 10000 = 1) (cx : g / 10 % 100 = 0) (cv : g % 10 ≤ 3) : sDo K g = atT K (g % 10) (g / 1000 % 10) 0 0 ∧ sDn_ K g = atR K (g % 10) (g / 1000 % 10) 0 0 := by
  by_cases hw : 3 ≤ g / 1000 % 10
  · rw [atT_n (by omega), atR_n (by omega)]
    exact ⟨if_pos hw, if_pos hw⟩
  · rw [atT_w (by omega), atR_i (by omega)]
    unfold sDo sDn_ gC gW gX gV
    (repeat first | rw [if_pos (by omega)] | rw [if_neg (by omega)])
    rw [decide_eq_true cx, (bT_a (by omega) cv).1, (bT_a (by omega) cv).2]; exact ⟨rfl, rfl⟩
theorem grp_2 (h0 : 0 ≤ g) (h1 : g < 100000) (c : g / 10000 = 2) : sDo K g = atT K 6 (g / 1000 % 10) (g / 10 % 100) (g % 10) ∧ sDn_ K g = atR K 6 (g / 1000 % 10) (g / 10 % 100) (g % 10) := by
  by_cases hw : 3 ≤ g / 1000 % 10
  · rw [atT_n (by omega), atR_n (by omega)]
    exact ⟨if_pos hw, if_pos hw⟩
  · rw [atT_w (by omega), atR_i (by omega)]
    unfold sDo sDn_ gC gW gX gV
    (repeat first | rw [if_pos (by omega)] | rw [if_neg (by omega)])
    rw [uT_a (by omega)]; exact ⟨rfl, rfl⟩
theorem grp_3 (h0 : 0 ≤ g) (h1 : g < 100000) (c : g / 10000 = 3) (cx : g / 10 % 100 = 0) : sDo K g = atT K 4 (g / 1000 % 10) (g % 10) 0 ∧ sDn_ K g = atR K 4 (g / 1000 % 10) (g % 10) 0 := by
  by_cases hw : 3 ≤ g / 1000 % 10
  · rw [atT_n (by omega), atR_n (by omega)]
    exact ⟨if_pos hw, if_pos hw⟩
  · rw [atT_w (by omega), atR_i (by omega)]
    unfold sDo sDn_ gC gW gX gV
    (repeat first | rw [if_pos (by omega)] | rw [if_neg (by omega)])
    rw [decide_eq_true cx]; exact ⟨rfl, rfl⟩
theorem grp_4 (h0 : 0 ≤ g) (h1 : g < 100000) (c : g / 10000 = 4) : sDo K g = atT K 5 (g / 1000 % 10) (g / 10 % 100) (g % 10) ∧ sDn_ K g = atR K 5 (g / 1000 % 10) (g / 10 % 100) (g % 10) := by
  by_cases hw : 3 ≤ g / 1000 % 10
  · rw [atT_n (by omega), atR_n (by omega)]
    exact ⟨if_pos hw, if_pos hw⟩
  · rw [atT_w (by omega), atR_i (by omega)]
    unfold sDo sDn_ gC gW gX gV
    (repeat first | rw [if_pos (by omega)] | rw [if_neg (by omega)])
    rw [rT_a (by omega)]; exact ⟨rfl, rfl⟩
theorem grp_1n (h0 : 0 ≤ g) (c : g / 10000 = 1) (cx : ¬ (g / 10 % 100 = 0 ∧ g % 10 ≤ 3)) : sDo K g = false ∧ sDn_ K g = K := by
  have hb : (decide (g / 10 % 100 = 0) && bT K (g / 1000 % 10) (g % 10)) = false := by
    by_cases q : g / 10 % 100 = 0
    · have e : bT K (g / 1000 % 10) (g % 10) = false := by unfold bT; (repeat rw [if_neg (by omega)])
      rw [e, Bool.and_false]
    · rw [decide_eq_false q, Bool.false_and]
  unfold sDo sDn_ gC gW gX gV
  by_cases hw : 3 ≤ g / 1000 % 10
  · exact ⟨if_pos hw, if_pos hw⟩
  · (repeat first | rw [if_pos (by omega)] | rw [if_neg (by omega)])
    rw [hb]
    exact ⟨rfl, rfl⟩
theorem grp_3n (h0 : 0 ≤ g) (c : g / 10000 = 3) (cx : ¬ g / 10 % 100 = 0) : sDo K g = false ∧ sDn_ K g = K := by
  unfold sDo sDn_ gC gW gX gV
  by_cases hw : 3 ≤ g / 1000 % 10
  · exact ⟨if_pos hw, if_pos hw⟩
  · (repeat first | rw [if_pos (by omega)] | rw [if_neg (by omega)])
    rw [decide_eq_false cx]
    exact ⟨rfl, rfl⟩
theorem grp_o (c : g / 10000 < 1 ∨ 5 ≤ g / 10000) : sDn_ K g = K := by
  unfold sDn_ gC gW
  by_cases hw : 3 ≤ g / 1000 % 10
  · exact if_pos hw
  · (repeat first | rw [if_pos (by omega)] | rw [if_neg (by omega)])
theorem stp {v : Int} {k u y : Int} (h0 : 0 ≤ v) (he : sSt K v = sIf (alD K k (v / 16 % 3) u y) (opD K k (v / 16 % 3) u y) K) : sSt K v = atR K k (v / 16 % 3) u y := by
  rw [atR_i (by omega)]; exact he
end GRP
theorem c_X5_dropGroups {E : zE} (hst : E.1.stackTraces = false) {H : Heap} {s0 m : Int} {k : Nat} (hs : 0 ≤ s0 ∧ s0 < 9223372036854775808) (hm : m = (k : Int)) (hk : k ≤ 3) : zC E yX5_dropGroups cX5_dropGroups 6 (some .long) 0 0 [.long (iL s0), .int (iI m)] H 0 0 (zRl (s0 / zTen (5 * k)) (zSm H)) zN := by
  refine zC.of (by decide) (Nat.le_of_ble_eq_true rfl) hst ?_
  intro x O hE hpo hpx
  subst hE
  change zG x H 0 0 0 [(0, .long (iL s0)), (2, .int (iI m))] []
  refine z_lload_n 0 O dX5_dropGroups_0 rfl ?_
  refine z_lstore_n [(3, .long (iL s0)), (0, .long (iL s0)), (2, .int (iI m))] O dX5_dropGroups_1 (by decide) rfl ?_
  refine z_iconst 0 O dX5_dropGroups_2 (by decide +kernel) ?_
  refine z_istore [(5, .int (iI 0)), (3, .long (iL s0)), (0, .long (iL s0)), (2, .int (iI m))] O dX5_dropGroups_3 (by decide) rfl ?_
  have loop : ∀ (d : Nat) (j : Nat), (j + d = k) → zG x H 0 0 5 [(5, .int (iI (j : Int))), (3, .long (iL (s0 / zTen (5 * j)))), (0, .long (iL s0)), (2, .int (iI m))] [] := by
    intro d
    induction d with
    | zero =>
      intro j hjd
      refine z_iload 0 O dX5_dropGroups_5 rfl ?_
      refine z_iload_n 3 O dX5_dropGroups_7 rfl ?_
      have ht9 := zTen_R (5 * j) (by omega)
      have hd9 := zDv (s := s0) (t := zTen (5 * j)) (by omega) (by omega)
      refine z_icmp_ge 23 O dX5_dropGroups_8 (by decide) ⟨by omega, by omega⟩ ⟨by omega, by omega⟩ (fun c_8 => ?_) (fun c_8 => ?_)
      · skip
        refine z_lload_n 1 O dX5_dropGroups_23 rfl ?_
        exact z_iretl O dX5_dropGroups_24 rfl (by omega) (by omega) hpo (by rw [show j = k by omega]) (rfl)
      · exfalso; omega
    | succ d ih =>
      intro j hjd
      refine z_iload 0 O dX5_dropGroups_5 rfl ?_
      refine z_iload_n 3 O dX5_dropGroups_7 rfl ?_
      have ht9 := zTen_R (5 * j) (by omega)
      have hd9 := zDv (s := s0) (t := zTen (5 * j)) (by omega) (by omega)
      refine z_icmp_ge 23 O dX5_dropGroups_8 (by decide) ⟨by omega, by omega⟩ ⟨by omega, by omega⟩ (fun c_8 => ?_) (fun c_8 => ?_)
      · exfalso; omega
      · skip
        refine z_lload_n 1 O dX5_dropGroups_11 rfl ?_
        refine z_ldc2 (iL 100000) O dX5_dropGroups_12 (List.mem_of_getElem? (i := 868) (by decide +kernel)) ?_
        refine z_ldiv O dX5_dropGroups_15 ⟨by omega, by omega⟩ ⟨by omega, by omega⟩ (by omega) (by omega) ?_
        refine z_lstore_n [(3, .long (iL ((s0 / zTen (5 * j)) / 100000))), (5, .int (iI (j : Int))), (0, .long (iL s0)), (2, .int (iI m))] O dX5_dropGroups_16 (by decide) rfl ?_
        refine z_iinc 1 [(5, .int (iI ((j : Int) + 1))), (3, .long (iL ((s0 / zTen (5 * j)) / 100000))), (0, .long (iL s0)), (2, .int (iI m))] O dX5_dropGroups_17 (by decide) rfl rfl ?_
        refine z_goto 5 O dX5_dropGroups_20 (by decide) ?_
        have e9 := ih (j + 1) (by omega); rw [← zTen_d j (by omega)] at e9; exact e9
  have e9 := loop k 0 (by omega); rw [show s0 / zTen (5 * 0) = s0 from Int.ediv_one s0] at e9; exact e9

theorem c_X5_isTrueOfWorker {E : zE} (hst : E.1.stackTraces = false) {H : Heap} {r : zH} {a : Nat → Nat} {K : Int → Int} {N : Int} {g cq w cc la : Int} (fO : zO E H r 1200 (a 1200) 5 [.ref (a 1202), .ref (a 0), .ref (a 64), .ref (a 1204), .ref (a 1206), .ref (a 1207)]) (fC : zSt E H r a 64 K) (hG : sW K N) (hg : 0 ≤ g ∧ g < 100000) (hcq : g / 10000 = cq) (hwg : g / 1000 % 10 = w) (hcc : g / 10 % 100 = cc) (hla : g % 10 = la) (hq : cq < 1 ∨ 5 < cq) : zC E yX5_isTrueOfWorker cX5_isTrueOfWorker 6 (some .boolean) 2 41 [.ref (a 1200), .int (iI cq), .int (iI w), .int (iI cc), .int (iI la)] H 0 0 (zRi (zb (sDo K g)) (zSm H)) zN := by
  refine zC.of (by decide) (Nat.le_of_ble_eq_true rfl) hst ?_
  intro x O hE hpo hpx
  subst hE
  change zG x H 0 0 0 [(0, .ref (a 1200)), (1, .int (iI cq)), (2, .int (iI w)), (3, .int (iI cc)), (4, .int (iI la))] []
  have hzw : zR w := ⟨by omega, by omega⟩
  refine z_aload_n 0 O dX5_isTrueOfWorker_0 rfl ?_
  refine z_getf kF_X5_25 O dX5_isTrueOfWorker_1 fO.1 rfl ?_
  refine z_iload_n 2 O dX5_isTrueOfWorker_4 rfl ?_
  by_cases hd1 : 0 ≤ w ∧ w < 3
  · skip
    obtain ⟨hO1, _⟩ := id fC
    refine z_Vr [.int (iI w)] [] kM_X5_232 O dX5_isTrueOfWorker_5 (by have c := c_X2_workerAt hst fC hG hzw; rw [if_pos hd1] at c; exact c) rfl rfl hO1.1 (by decide) (Nat.le_of_ble_eq_true rfl) (by omega) (by omega) (Nat.le_of_ble_eq_true rfl) zNx ?_
    have hw : 0 ≤ w ∧ w ≤ 2 := by omega
    obtain ⟨hWk, hOt⟩ := zSt_w fC.2.2.2.2 hw
    obtain ⟨np, f1, f2, V, hO, hQ, hLg, hRg, hPL, hPR, hWs, hRl⟩ := id hWk
    have hm := hG.m hw
    have hl := hG.l hw
    refine z_astore [(5, .ref (a (64 + 6 + 16 * w.toNat))), (0, .ref (a 1200)), (1, .int (iI cq)), (2, .int (iI w)), (3, .int (iI cc)), (4, .int (iI la))] O dX5_isTrueOfWorker_8 (by decide) rfl ?_
    refine z_aload 0 O dX5_isTrueOfWorker_10 rfl ?_
    refine z_ifnonnull 17 O dX5_isTrueOfWorker_12 (by decide) ?_
    refine z_iload_n 2 O dX5_isTrueOfWorker_17 rfl ?_
    rcases (show cq = 6 ∨ cq = 7 ∨ cq = 8 ∨ cq = 9 ∨ (cq < 6 ∨ 9 < cq) by omega) with c_18 | c_18 | c_18 | c_18 | c_18
    · skip
      refine z_tsw 0 48 O dX5_isTrueOfWorker_18 ⟨by omega, by omega⟩ (by omega) (by decide) rfl (by decide) ?_
      refine z_iload 5 O dX5_isTrueOfWorker_48 rfl ?_
      refine z_if_ne 79 O dX5_isTrueOfWorker_50 (by decide) ⟨by omega, by omega⟩ (fun c_50 => ?_) (fun c_50 => ?_)
      · skip
        refine z_iconst 0 O dX5_isTrueOfWorker_79 (by decide +kernel) ?_
        exact z_iretb O dX5_isTrueOfWorker_80 rfl (by omega) (by omega) hpo (by rw [show sDo K g = false from by unfold sDo gC gW gX gV; rw [hcq, hwg, hcc, hla]; (repeat first | rw [if_pos (by omega)] | rw [if_neg (by omega)]); first | done | rfl | (rw [decide_eq_true (by omega)]; first | done | rfl | (rw [hq]; rfl)) | (rw [decide_eq_false (by omega)]; first | done | rfl | exact Bool.false_and _)]; rfl) (rfl)
      · skip
        refine z_iload_n 4 O dX5_isTrueOfWorker_53 rfl ?_
        refine z_Si [.int (iI cc)] [] kM_X5_280 O dX5_isTrueOfWorker_54 (c_X5_isCell hst ⟨by omega, by omega⟩) rfl rfl (by decide) (Nat.le_of_ble_eq_true rfl) (by omega) (by omega) (Nat.le_of_ble_eq_true rfl) zNx ?_
        refine z_ifb_eq 79 O dX5_isTrueOfWorker_57 (by decide) (fun c_57 => ?_) (fun c_57 => ?_)
        · skip
          refine z_iconst 0 O dX5_isTrueOfWorker_79 (by decide +kernel) ?_
          have hcb := sBt_f.mp c_57
          exact z_iretb O dX5_isTrueOfWorker_80 rfl (by omega) (by omega) hpo (by rw [show sDo K g = false from by unfold sDo gC gW gX gV; rw [hcq, hwg, hcc, hla]; (repeat first | rw [if_pos (by omega)] | rw [if_neg (by omega)]); first | done | rfl | (rw [decide_eq_true (by omega)]; first | done | rfl | (rw [hq]; rfl)) | (rw [decide_eq_false (by omega)]; first | done | rfl | exact Bool.false_and _)]; rfl) (rfl)
        · skip
          have hcb := sBt_t.mp c_57
          have hlk := hG.2.2.1 cc hcb.1 (by omega)
          refine z_aload_n 1 O dX5_isTrueOfWorker_60 rfl ?_
          refine z_getf kF_X5_25 O dX5_isTrueOfWorker_61 fO.1 rfl ?_
          obtain ⟨hO2, _⟩ := id fC
          refine z_getf kF_X5_132 O dX5_isTrueOfWorker_64 hO2.1 rfl ?_
          refine z_iload_n 4 O dX5_isTrueOfWorker_67 rfl ?_
          obtain ⟨it3, hRo4⟩ := fC.2.2.2.1.o
          refine z_Vi [.int (iI cc)] [] kM_X5_66 O dX5_isTrueOfWorker_68 (c_X1_get hst fC.2.2.2.1 ⟨by omega, by omega⟩) rfl rfl hRo4.1 (by decide) (Nat.le_of_ble_eq_true rfl) (by omega) (by omega) (Nat.le_of_ble_eq_true rfl) zNx ?_
          rw [show zRg 16 (fun c => K (16 + c) - 1) cc = K (16 + cc) - 1 from (by unfold zRg; exact if_pos ⟨by omega, by omega⟩)]
          refine z_iload_n 3 O dX5_isTrueOfWorker_71 rfl ?_
          refine z_icmp_ne 79 O dX5_isTrueOfWorker_72 (by decide) ⟨by omega, by omega⟩ ⟨by omega, by omega⟩ (fun c_72 => ?_) (fun c_72 => ?_)
          · skip
            refine z_iconst 0 O dX5_isTrueOfWorker_79 (by decide +kernel) ?_
            have hcb := sBt_t.mp c_57
            exact z_iretb O dX5_isTrueOfWorker_80 rfl (by omega) (by omega) hpo (by rw [show sDo K g = false from by unfold sDo gC gW gX gV; rw [hcq, hwg, hcc, hla]; (repeat first | rw [if_pos (by omega)] | rw [if_neg (by omega)]); first | done | rfl | (rw [decide_eq_true (by omega)]; first | done | rfl | (rw [hq]; rfl)) | (rw [decide_eq_false (by omega)]; first | done | rfl | exact Bool.false_and _)]; rfl) (rfl)
          · skip
            refine z_iconst 1 O dX5_isTrueOfWorker_75 (by decide +kernel) ?_
            refine z_goto 80 O dX5_isTrueOfWorker_76 (by decide) ?_
            have hcb := sBt_t.mp c_57
            exact z_iretb O dX5_isTrueOfWorker_80 rfl (by omega) (by omega) hpo (by rw [show sDo K g = true from by unfold sDo gC gW gX gV; rw [hcq, hwg, hcc, hla]; (repeat first | rw [if_pos (by omega)] | rw [if_neg (by omega)]); first | done | rfl | (rw [decide_eq_true (by omega)]; first | done | rfl | (rw [hq]; rfl)) | (rw [decide_eq_false (by omega)]; first | done | rfl | exact Bool.false_and _)]; rfl) (rfl)
    · skip
      refine z_tsw 1 81 O dX5_isTrueOfWorker_18 ⟨by omega, by omega⟩ (by omega) (by decide) rfl (by decide) ?_
      refine z_iload_n 4 O dX5_isTrueOfWorker_81 rfl ?_
      refine z_if_ne 99 O dX5_isTrueOfWorker_82 (by decide) ⟨by omega, by omega⟩ (fun c_82 => ?_) (fun c_82 => ?_)
      · skip
        refine z_iconst 0 O dX5_isTrueOfWorker_99 (by decide +kernel) ?_
        exact z_iretb O dX5_isTrueOfWorker_100 rfl (by omega) (by omega) hpo (by rw [show sDo K g = false from by unfold sDo gC gW gX gV; rw [hcq, hwg, hcc, hla]; (repeat first | rw [if_pos (by omega)] | rw [if_neg (by omega)]); first | done | rfl | (rw [decide_eq_true (by omega)]; first | done | rfl | (rw [hq]; rfl)) | (rw [decide_eq_false (by omega)]; first | done | rfl | exact Bool.false_and _)]; rfl) (rfl)
      · skip
        refine z_aload 0 O dX5_isTrueOfWorker_85 rfl ?_
        obtain ⟨hk6, _⟩ := zSt_w fC.2.2.2.2 hw
        obtain ⟨_, _, _, _, hO5, _⟩ := id hk6
        refine z_getf kF_X5_242 O dX5_isTrueOfWorker_87 hO5.1 rfl ?_
        refine z_iload 5 O dX5_isTrueOfWorker_90 rfl ?_
        refine z_icmp_ne 99 O dX5_isTrueOfWorker_92 (by decide) ⟨by omega, by omega⟩ ⟨by omega, by omega⟩ (fun c_92 => ?_) (fun c_92 => ?_)
        · skip
          refine z_iconst 0 O dX5_isTrueOfWorker_99 (by decide +kernel) ?_
          exact z_iretb O dX5_isTrueOfWorker_100 rfl (by omega) (by omega) hpo (by rw [show sDo K g = false from by unfold sDo gC gW gX gV; rw [hcq, hwg, hcc, hla]; (repeat first | rw [if_pos (by omega)] | rw [if_neg (by omega)]); first | done | rfl | (rw [decide_eq_true (by omega)]; first | done | rfl | (rw [hq]; rfl)) | (rw [decide_eq_false (by omega)]; first | done | rfl | exact Bool.false_and _)]; rfl) (rfl)
        · skip
          refine z_iconst 1 O dX5_isTrueOfWorker_95 (by decide +kernel) ?_
          refine z_goto 100 O dX5_isTrueOfWorker_96 (by decide) ?_
          exact z_iretb O dX5_isTrueOfWorker_100 rfl (by omega) (by omega) hpo (by rw [show sDo K g = true from by unfold sDo gC gW gX gV; rw [hcq, hwg, hcc, hla]; (repeat first | rw [if_pos (by omega)] | rw [if_neg (by omega)]); first | done | rfl | (rw [decide_eq_true (by omega)]; first | done | rfl | (rw [hq]; rfl)) | (rw [decide_eq_false (by omega)]; first | done | rfl | exact Bool.false_and _)]; rfl) (rfl)
    · skip
      refine z_tsw 2 101 O dX5_isTrueOfWorker_18 ⟨by omega, by omega⟩ (by omega) (by decide) rfl (by decide) ?_
      refine z_iload_n 4 O dX5_isTrueOfWorker_101 rfl ?_
      refine z_if_ne 122 O dX5_isTrueOfWorker_102 (by decide) ⟨by omega, by omega⟩ (fun c_102 => ?_) (fun c_102 => ?_)
      · skip
        refine z_iconst 0 O dX5_isTrueOfWorker_122 (by decide +kernel) ?_
        exact z_iretb O dX5_isTrueOfWorker_123 rfl (by omega) (by omega) hpo (by rw [show sDo K g = false from by unfold sDo gC gW gX gV; rw [hcq, hwg, hcc, hla]; (repeat first | rw [if_pos (by omega)] | rw [if_neg (by omega)]); first | done | rfl | (rw [decide_eq_true (by omega)]; first | done | rfl | (rw [hq]; rfl)) | (rw [decide_eq_false (by omega)]; first | done | rfl | exact Bool.false_and _)]; rfl) (rfl)
      · skip
        refine z_iload 5 O dX5_isTrueOfWorker_105 rfl ?_
        refine z_if_ne 122 O dX5_isTrueOfWorker_107 (by decide) ⟨by omega, by omega⟩ (fun c_107 => ?_) (fun c_107 => ?_)
        · skip
          refine z_iconst 0 O dX5_isTrueOfWorker_122 (by decide +kernel) ?_
          exact z_iretb O dX5_isTrueOfWorker_123 rfl (by omega) (by omega) hpo (by rw [show sDo K g = false from by unfold sDo gC gW gX gV; rw [hcq, hwg, hcc, hla]; (repeat first | rw [if_pos (by omega)] | rw [if_neg (by omega)]); first | done | rfl | (rw [decide_eq_true (by omega)]; first | done | rfl | (rw [hq]; rfl)) | (rw [decide_eq_false (by omega)]; first | done | rfl | exact Bool.false_and _)]; rfl) (rfl)
        · skip
          refine z_aload 0 O dX5_isTrueOfWorker_110 rfl ?_
          obtain ⟨hk8, _⟩ := zSt_w fC.2.2.2.2 hw
          obtain ⟨_, _, _, _, hO7, _⟩ := id hk8
          refine z_Vi [] [] kM_X5_330 O dX5_isTrueOfWorker_112 (c_X4_isSpoiled hst hWk hG hw) rfl rfl hO7.1 (by decide) (Nat.le_of_ble_eq_true rfl) (by omega) (by omega) (Nat.le_of_ble_eq_true rfl) zNx ?_
          refine z_ifb_eq 122 O dX5_isTrueOfWorker_115 (by decide) (fun c_115 => ?_) (fun c_115 => ?_)
          · skip
            refine z_iconst 0 O dX5_isTrueOfWorker_122 (by decide +kernel) ?_
            exact z_iretb O dX5_isTrueOfWorker_123 rfl (by omega) (by omega) hpo (by rw [show sDo K g = false from by unfold sDo gC gW gX gV; rw [hcq, hwg, hcc, hla]; (repeat first | rw [if_pos (by omega)] | rw [if_neg (by omega)]); first | done | rfl | (rw [decide_eq_true (by omega)]; first | done | rfl | (rw [c_115]; rfl)) | (rw [decide_eq_false (by omega)]; first | done | rfl | exact Bool.false_and _)]; rfl) (rfl)
          · skip
            refine z_iconst 1 O dX5_isTrueOfWorker_118 (by decide +kernel) ?_
            refine z_goto 123 O dX5_isTrueOfWorker_119 (by decide) ?_
            exact z_iretb O dX5_isTrueOfWorker_123 rfl (by omega) (by omega) hpo (by rw [show sDo K g = true from by unfold sDo gC gW gX gV; rw [hcq, hwg, hcc, hla]; (repeat first | rw [if_pos (by omega)] | rw [if_neg (by omega)]); first | done | rfl | (rw [decide_eq_true (by omega)]; first | done | rfl | (rw [c_115]; rfl)) | (rw [decide_eq_false (by omega)]; first | done | rfl | exact Bool.false_and _)]; rfl) (rfl)
    · skip
      refine z_tsw 3 124 O dX5_isTrueOfWorker_18 ⟨by omega, by omega⟩ (by omega) (by decide) rfl (by decide) ?_
      refine z_iload_n 4 O dX5_isTrueOfWorker_124 rfl ?_
      refine z_bipush 10 O dX5_isTrueOfWorker_125 (by decide +kernel) ?_
      refine z_icmp_ge 152 O dX5_isTrueOfWorker_127 (by decide) ⟨by omega, by omega⟩ ⟨by omega, by omega⟩ (fun c_127 => ?_) (fun c_127 => ?_)
      · skip
        refine z_iconst 0 O dX5_isTrueOfWorker_152 (by decide +kernel) ?_
        exact z_iretb O dX5_isTrueOfWorker_153 rfl (by omega) (by omega) hpo (by rw [show sDo K g = false from by unfold sDo gC gW gX gV; rw [hcq, hwg, hcc, hla]; (repeat first | rw [if_pos (by omega)] | rw [if_neg (by omega)]); first | done | rfl | (rw [decide_eq_true (by omega)]; first | done | rfl | (rw [hq]; rfl)) | (rw [decide_eq_false (by omega)]; first | done | rfl | exact Bool.false_and _)]; rfl) (rfl)
      · skip
        refine z_aload 0 O dX5_isTrueOfWorker_130 rfl ?_
        obtain ⟨hk10, _⟩ := zSt_w fC.2.2.2.2 hw
        obtain ⟨_, _, _, _, hO9, _⟩ := id hk10
        refine z_getf kF_X5_181 O dX5_isTrueOfWorker_132 hO9.1 rfl ?_
        obtain ⟨it11, hRo12⟩ := hLg.o
        refine z_getf kF_X5_50 O dX5_isTrueOfWorker_135 hRo12.1 rfl ?_
        refine z_bipush 10 O dX5_isTrueOfWorker_138 (by decide +kernel) ?_
        refine z_iload_n 4 O dX5_isTrueOfWorker_140 rfl ?_
        refine z_imul O dX5_isTrueOfWorker_141 ?_
        refine z_iload 5 O dX5_isTrueOfWorker_142 rfl ?_
        refine z_iadd O dX5_isTrueOfWorker_144 ?_
        refine z_icmp_gt 152 O dX5_isTrueOfWorker_145 (by decide) ⟨by omega, by omega⟩ ⟨by omega, by omega⟩ (fun c_145 => ?_) (fun c_145 => ?_)
        · skip
          refine z_iconst 0 O dX5_isTrueOfWorker_152 (by decide +kernel) ?_
          exact z_iretb O dX5_isTrueOfWorker_153 rfl (by omega) (by omega) hpo (by rw [show sDo K g = false from by unfold sDo gC gW gX gV; rw [hcq, hwg, hcc, hla]; (repeat first | rw [if_pos (by omega)] | rw [if_neg (by omega)]); first | done | rfl | (rw [decide_eq_true (by omega)]; first | done | rfl | (rw [hq]; rfl)) | (rw [decide_eq_false (by omega)]; first | done | rfl | exact Bool.false_and _)]; rfl) (rfl)
        · skip
          refine z_iconst 1 O dX5_isTrueOfWorker_148 (by decide +kernel) ?_
          refine z_goto 153 O dX5_isTrueOfWorker_149 (by decide) ?_
          exact z_iretb O dX5_isTrueOfWorker_153 rfl (by omega) (by omega) hpo (by rw [show sDo K g = true from by unfold sDo gC gW gX gV; rw [hcq, hwg, hcc, hla]; (repeat first | rw [if_pos (by omega)] | rw [if_neg (by omega)]); first | done | rfl | (rw [decide_eq_true (by omega)]; first | done | rfl | (rw [hq]; rfl)) | (rw [decide_eq_false (by omega)]; first | done | rfl | exact Bool.false_and _)]; rfl) (rfl)
    · skip
      refine z_tswO 154 O dX5_isTrueOfWorker_18 ⟨by omega, by omega⟩ c_18 (by decide) ?_
      refine z_iconst 0 O dX5_isTrueOfWorker_154 (by decide +kernel) ?_
      exact z_iretb O dX5_isTrueOfWorker_155 rfl (by omega) (by omega) hpo (by rw [show sDo K g = false from by unfold sDo gC gW gX gV; rw [hcq, hwg, hcc, hla]; (repeat first | rw [if_pos (by omega)] | rw [if_neg (by omega)]); first | done | rfl | (rw [decide_eq_true (by omega)]; first | done | rfl | (rw [hq]; rfl)) | (rw [decide_eq_false (by omega)]; first | done | rfl | exact Bool.false_and _)]; rfl) (rfl)
  · skip
    obtain ⟨hO13, _⟩ := id fC
    refine z_Vr [.int (iI w)] [] kM_X5_232 O dX5_isTrueOfWorker_5 (by have c := c_X2_workerAt hst fC hG hzw; rw [if_neg hd1] at c; exact c) rfl rfl hO13.1 (by decide) (Nat.le_of_ble_eq_true rfl) (by omega) (by omega) (Nat.le_of_ble_eq_true rfl) zNx ?_
    refine z_astoreN [(5, .null), (0, .ref (a 1200)), (1, .int (iI cq)), (2, .int (iI w)), (3, .int (iI cc)), (4, .int (iI la))] O dX5_isTrueOfWorker_8 (by decide) rfl ?_
    refine z_aloadN 0 O dX5_isTrueOfWorker_10 rfl ?_
    refine z_ifnonnullN O dX5_isTrueOfWorker_12 ?_
    refine z_iconst 0 O dX5_isTrueOfWorker_15 (by decide +kernel) ?_
    exact z_iretb O dX5_isTrueOfWorker_16 rfl (by omega) (by omega) hpo (by rw [show sDo K g = false from by unfold sDo gC gW gX gV; rw [hcq, hwg, hcc, hla]; (repeat first | rw [if_pos (by omega)] | rw [if_neg (by omega)]); first | done | rfl | (rw [decide_eq_true (by omega)]; first | done | rfl | (rw [hq]; rfl)) | (rw [decide_eq_false (by omega)]; first | done | rfl | exact Bool.false_and _)]; rfl) (rfl)

