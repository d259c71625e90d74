/-! the law: round by round (written by program: wip/whole/gen/class32.py) -/
theorem law_loop {x : zX} {bs Ls : Nat} {xs : Nat → Int32} {oa q : Nat} {Q : Nat → Nat} {qo : Nat} (hst : (zEn x).1.stackTraces = false) (O : zOk x RL cL_law 7 (some .boolean) "law" 12 478 601024 7293034) (hS : zScr x bs Ls xs) (hL : Ls ≤ 2048) (hpo : zPo x = fun v _ => v = some (.int 1)) :
    ∀ (d : Nat) (jx N : Int) (H : Heap) (r : zH) (a : Nat → Nat) (n : Int) (tx G : Int → Int) (fi ac : Int) (dd : Nat → Int → Int) (kp ik : Int → Int) (aa bb : Nat), zLs (zEn x) H r a oa q Q qo n tx G fi ac dd kp ik N → 0 ≤ jx ∧ jx ≤ 2048 → jx = 4 * (N - 20) → (Ls : Int) < jx + 4 * d + 4 →
      (H.size : Int) ≤ (zH0 x).size + 121 + zPs r + 70 * (N - 20) → (zSz H : Int) ≤ zSz (zH0 x) + 86930 + 20 * zPs r + 6700 * (N - 20) → zG x H aa bb 23 (zLv bs oa q qo jx) [] := by
  intro d
  induction d with
  | zero =>
    intro jx N H r a n tx G fi ac dd kp ik aa bb Z hj hN hd hs1 hs2
    have hph := Z.2.1.ph
    refine z_tight (a' := 48489) (b' := 3767890) (by omega) (by omega) ?_
    refine z_iload 0 O dL_law_23 rfl ?_
    refine z_aload_n 1 O dL_law_25 rfl ?_
    refine z_slen0 hS O dL_law_26 ?_
    refine z_iconst 4 O dL_law_27 (by decide +kernel) ?_
    refine z_isub O dL_law_28 ?_
    refine z_icmp_gt 1824 O dL_law_29 (by decide) ⟨by omega, by omega⟩ ⟨by omega, by omega⟩ (fun c_29 => ?_) (fun c_29 => ?_)
    · refine z_iconst 1 O dL_law_1824 (by decide +kernel) ?_
      exact z_zreturn O dL_law_1825 rfl (by decide +kernel) (by omega) (by omega) (by rw [hpo]; rfl)
    · exfalso; omega
  | succ d ih =>
    intro jx N H r a n tx G fi ac dd kp ik aa bb Z hj hN hd hs1 hs2
    have hph := Z.2.1.ph
    refine z_tight (a' := 48489) (b' := 3767890) (by omega) (by omega) ?_
    refine z_iload 0 O dL_law_23 rfl ?_
    refine z_aload_n 1 O dL_law_25 rfl ?_
    refine z_slen0 hS O dL_law_26 ?_
    refine z_iconst 4 O dL_law_27 (by decide +kernel) ?_
    refine z_isub O dL_law_28 ?_
    refine z_icmp_gt 1824 O dL_law_29 (by decide) ⟨by omega, by omega⟩ ⟨by omega, by omega⟩ (fun c_29 => ?_) (fun c_29 => ?_)
    · refine z_iconst 1 O dL_law_1824 (by decide +kernel) ?_
      exact z_zreturn O dL_law_1825 rfl (by decide +kernel) (by omega) (by omega) (by rw [hpo]; rfl)
    · have K : ∀ (H1 : Heap) (r1 : zH) (a1 : Nat → Nat) (n : Int) (tx G : Int → Int) (fi ac : Int) (dd : Nat → Int → Int) (kp ik : Int → Int), zLs (zEn x) H1 r1 a1 oa q Q qo n tx G fi ac dd kp ik (N + 1) → H1.size + zPs r ≤ H.size + zPs r1 + 70 → zSz H1 + 20 * zPs r ≤ zSz H + 20 * zPs r1 + 6700 → ∀ a9 b9 : Nat, zG x H1 a9 b9 1818 (zLv bs oa q qo jx) [] := by
        intro H1 r1 a1 n tx G fi ac dd kp ik Z1 g1 g2 a9 b9
        refine z_iinc 0 [(4, .int (iI (jx + 4))), (0, .ref bs), (1, .ref oa), (2, .ref q), (3, .ref qo)] O dL_law_1818 (by decide) rfl rfl ?_
        refine z_goto 23 O dL_law_1821 (by decide) ?_
        exact ih (jx + 4) (N + 1) H1 r1 a1 n tx G fi ac dd kp ik a9 b9 Z1 (by omega) (by omega) (by omega) (by omega) (by omega)
      refine z_aload_n 1 O dL_law_32 rfl ?_
      refine z_iload 0 O dL_law_33 rfl ?_
      refine z_sld hS ⟨by omega, by omega⟩ (by omega) (by omega) O dL_law_35 ?_
      refine z_bipush 31 O dL_law_36 (by decide +kernel) ?_
      obtain ⟨m, hm, hmz⟩ : ∃ m : Int, iI m = iI (sv xs jx) &&& iI 31 ∧ zR m := ⟨_, iI_toI _, zR_toI _⟩
      refine z_iand hm.symm O dL_law_38 ?_
      rcases (show m = 0 ∨ m = 1 ∨ m = 2 ∨ m = 3 ∨ m = 4 ∨ m = 5 ∨ m = 6 ∨ m = 7 ∨ m = 8 ∨ m = 9 ∨ m = 10 ∨ m = 11 ∨ m = 12 ∨ m = 13 ∨ m = 14 ∨ m = 15 ∨ m = 16 ∨ m = 17 ∨ m = 18 ∨ m = 19 ∨ m = 20 ∨ m = 21 ∨ m = 22 ∨ m = 23 ∨ m = 24 ∨ m = 25 ∨ m = 26 ∨ (m < 0 ∨ 26 < m) by omega) with c_39 | c_39 | c_39 | c_39 | c_39 | c_39 | c_39 | c_39 | c_39 | c_39 | c_39 | c_39 | c_39 | c_39 | c_39 | c_39 | c_39 | c_39 | c_39 | c_39 | c_39 | c_39 | c_39 | c_39 | c_39 | c_39 | c_39 | c_39
      · refine z_tsw 0 160 O dL_law_39 hmz (by omega) (by decide) rfl (by decide) ?_
        exact op_append hst O hS Z ⟨by omega, by omega⟩ ⟨by omega, by omega, by omega⟩ (by omega) (by omega) K
      · refine z_tsw 1 216 O dL_law_39 hmz (by omega) (by decide) rfl (by decide) ?_
        exact op_clearText hst O hS Z ⟨by omega, by omega⟩ ⟨by omega, by omega, by omega⟩ (by omega) (by omega) K
      · refine z_tsw 2 229 O dL_law_39 hmz (by omega) (by decide) rfl (by decide) ?_
        exact op_errorPosition hst O hS Z ⟨by omega, by omega⟩ ⟨by omega, by omega, by omega⟩ (by omega) (by omega) K
      · refine z_tsw 3 242 O dL_law_39 hmz (by omega) (by decide) rfl (by decide) ?_
        exact op_load hst O hS Z ⟨by omega, by omega⟩ ⟨by omega, by omega, by omega⟩ (by omega) (by omega) K
      · refine z_tsw 4 286 O dL_law_39 hmz (by omega) (by decide) rfl (by decide) ?_
        exact op_about hst O hS Z ⟨by omega, by omega⟩ ⟨by omega, by omega, by omega⟩ (by omega) (by omega) K
      · refine z_tsw 5 342 O dL_law_39 hmz (by omega) (by decide) rfl (by decide) ?_
        exact op_cell hst O hS Z ⟨by omega, by omega⟩ ⟨by omega, by omega, by omega⟩ (by omega) (by omega) K
      · refine z_tsw 6 410 O dL_law_39 hmz (by omega) (by decide) rfl (by decide) ?_
        exact op_worker hst O hS Z ⟨by omega, by omega⟩ ⟨by omega, by omega, by omega⟩ (by omega) (by omega) K
      · refine z_tsw 7 478 O dL_law_39 hmz (by omega) (by decide) rfl (by decide) ?_
        exact op_work hst O hS Z ⟨by omega, by omega⟩ ⟨by omega, by omega, by omega⟩ (by omega) (by omega) K
      · refine z_tsw 8 558 O dL_law_39 hmz (by omega) (by decide) rfl (by decide) ?_
        exact op_entry hst O hS Z ⟨by omega, by omega⟩ ⟨by omega, by omega, by omega⟩ (by omega) (by omega) K
      · refine z_tsw 9 626 O dL_law_39 hmz (by omega) (by decide) rfl (by decide) ?_
        exact op_begin hst O hS Z ⟨by omega, by omega⟩ ⟨by omega, by omega, by omega⟩ (by omega) (by omega) K
      · refine z_tsw 10 682 O dL_law_39 hmz (by omega) (by decide) rfl (by decide) ?_
        exact op_write hst O hS Z ⟨by omega, by omega⟩ ⟨by omega, by omega, by omega⟩ (by omega) (by omega) K
      · refine z_tsw 11 762 O dL_law_39 hmz (by omega) (by decide) rfl (by decide) ?_
        exact op_point hst O hS Z ⟨by omega, by omega⟩ ⟨by omega, by omega, by omega⟩ (by omega) (by omega) K
      · refine z_tsw 12 818 O dL_law_39 hmz (by omega) (by decide) rfl (by decide) ?_
        exact op_back hst O hS Z ⟨by omega, by omega⟩ ⟨by omega, by omega, by omega⟩ (by omega) (by omega) K
      · refine z_tsw 13 886 O dL_law_39 hmz (by omega) (by decide) rfl (by decide) ?_
        exact op_regret hst O hS Z ⟨by omega, by omega⟩ ⟨by omega, by omega, by omega⟩ (by omega) (by omega) K
      · refine z_tsw 14 966 O dL_law_39 hmz (by omega) (by decide) rfl (by decide) ?_
        exact op_done hst O hS Z ⟨by omega, by omega⟩ ⟨by omega, by omega, by omega⟩ (by omega) (by omega) K
      · refine z_tsw 15 1022 O dL_law_39 hmz (by omega) (by decide) rfl (by decide) ?_
        exact op_fail hst O hS Z ⟨by omega, by omega⟩ ⟨by omega, by omega, by omega⟩ (by omega) (by omega) K
      · refine z_tsw 16 1078 O dL_law_39 hmz (by omega) (by decide) rfl (by decide) ?_
        exact op_setMercy hst O hS Z ⟨by omega, by omega⟩ ⟨by omega, by omega, by omega⟩ (by omega) (by omega) K
      · refine z_tsw 17 1134 O dL_law_39 hmz (by omega) (by decide) rfl (by decide) ?_
        exact op_undo hst O hS Z ⟨by omega, by omega⟩ ⟨by omega, by omega, by omega⟩ (by omega) (by omega) K
      · refine z_tsw 18 1178 O dL_law_39 hmz (by omega) (by decide) rfl (by decide) ?_
        exact op_whyNot hst O hS Z ⟨by omega, by omega⟩ ⟨by omega, by omega, by omega⟩ (by omega) (by omega) K
      · refine z_tsw 19 1246 O dL_law_39 hmz (by omega) (by decide) rfl (by decide) ?_
        exact op_failed hst O hS Z ⟨by omega, by omega⟩ ⟨by omega, by omega, by omega⟩ (by omega) (by omega) K
      · refine z_tsw 20 1326 O dL_law_39 hmz (by omega) (by decide) rfl (by decide) ?_
        exact op_changes hst O hS Z ⟨by omega, by omega⟩ ⟨by omega, by omega, by omega⟩ (by omega) (by omega) K
      · refine z_tsw 21 1382 O dL_law_39 hmz (by omega) (by decide) rfl (by decide) ?_
        exact op_lost hst O hS Z ⟨by omega, by omega⟩ ⟨by omega, by omega, by omega⟩ (by omega) (by omega) K
      · refine z_tsw 22 1450 O dL_law_39 hmz (by omega) (by decide) rfl (by decide) ?_
        exact op_mercyLeft hst O hS Z ⟨by omega, by omega⟩ ⟨by omega, by omega, by omega⟩ (by omega) (by omega) K
      · refine z_tsw 23 1506 O dL_law_39 hmz (by omega) (by decide) rfl (by decide) ?_
        exact op_runScript hst O hS Z ⟨by omega, by omega⟩ ⟨by omega, by omega, by omega⟩ (by omega) (by omega) K
      · refine z_tsw 24 1606 O dL_law_39 hmz (by omega) (by decide) rfl (by decide) ?_
        exact op_simulate hst O hS Z ⟨by omega, by omega⟩ ⟨by omega, by omega, by omega⟩ (by omega) (by omega) K
      · refine z_tsw 25 1706 O dL_law_39 hmz (by omega) (by decide) rfl (by decide) ?_
        exact op_save hst O hS Z ⟨by omega, by omega⟩ ⟨by omega, by omega, by omega⟩ (by omega) (by omega) K
      · refine z_tsw 26 1762 O dL_law_39 hmz (by omega) (by decide) rfl (by decide) ?_
        exact op_restore hst O hS Z ⟨by omega, by omega⟩ ⟨by omega, by omega, by omega⟩ (by omega) (by omega) K
      · refine z_tswO 1818 O dL_law_39 hmz c_39 (by decide) ?_
        obtain ⟨z1, z2, z3, z4, z5⟩ := Z
        exact K H r a n tx G fi ac dd kp ik ⟨z1, z2, z3, z4, z5.keep (by omega)⟩ (by omega) (by omega) _ _
