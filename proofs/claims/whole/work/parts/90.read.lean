/-! the class: what its object answers (written by program: wip/whole/gen/class17.py) -/
theorem zSum_a {f g h k : Int → Int} : ∀ n : Nat, (∀ c : Int, 0 ≤ c → c < n → f c = g c + h c + k c) → zSum n f = zSum n g + zSum n h + zSum n k
  | 0, _ => rfl
  | n + 1, e => by
    show zSum n f + f n = (zSum n g + g n) + (zSum n h + h n) + (zSum n k + k n)
    rw [zSum_a n (fun c p q => e c p (by omega)), e n (by omega) (by omega)]
    omega
theorem ab1 {G : Int → Int} (h : kOK G) : zSum 3 (fun w => vWo G w 2) = zSum 16 (sLc G (-1)) := by
  rw [zSum_a 16 (f := sLc G (-1)) (g := sLc G 0) (h := sLc G 1) (k := sLc G 2) (fun c p q => by
    have k := h c p q
    unfold sLc
    rcases (show G (16 + c) = 0 ∨ G (16 + c) = 1 ∨ G (16 + c) = 2 ∨ G (16 + c) = 3 by omega) with e | e | e | e <;> rw [e] <;> decide)]
  show (0 + vWo G 0 2) + vWo G 1 2 + vWo G 2 2 = _
  show (0 + zSum 16 (sLc G 0)) + zSum 16 (sLc G 1) + zSum 16 (sLc G 2) = _
  omega
theorem c_X5_about {E : zE} (hst : E.1.stackTraces = false) {H : Heap} {r : zH} {a : Nat → Nat} {n : Int} {tx G : Int → Int} {fi ac : Int} {dd : Nat → Int → Int} {kp ik : Int → Int} {N : Int} {k : Int} (h : zCm E H r a n tx G fi ac dd kp ik) (hOK : cOK n tx G fi ac dd kp ik N) (hzk : zR k) : zC E yX5_about cX5_about 2 (some .int) 6 90 [.ref (a 1200), .int (iI k)] H 1 6 (zRi (vAb G k) (fun H1 => cAb k = 0 ∧ H1 = H)) (zXc (cAb k) xA "" "" H) := by
  refine zC.of2 (by decide) (Nat.le_of_ble_eq_true rfl) hst ?_
  intro x O hE hpo hpx hH
  subst hE
  change zG x H 0 0 0 [(0, .ref (a 1200)), (1, .int (iI k))] []
  have hOK9 := hOK
  obtain ⟨nx, fl, F, sf, KS, hfw, hhr, hkr⟩ := id h
  obtain ⟨fO, fT, fcap, fS, ⟨S, fC⟩, fH, fQ, fL, fZ⟩ := id hfw
  obtain ⟨⟨hn, hx, hG, hN, hfi, hac, hik⟩, hdd, hkk⟩ := hOK
  refine z_iload_n 1 O dX5_about_0 rfl ?_
  rcases (show k = 0 ∨ k = 1 ∨ k = 2 ∨ k = 3 ∨ k = 4 ∨ k = 5 ∨ k = 6 ∨ k = 7 ∨ k = 8 ∨ k = 9 ∨ (k < 0 ∨ 9 < k) by omega) with c_1 | c_1 | c_1 | c_1 | c_1 | c_1 | c_1 | c_1 | c_1 | c_1 | c_1
  · skip
    refine z_tsw 0 56 O dX5_about_1 ⟨by omega, by omega⟩ (by omega) (by decide) rfl (by decide) ?_
    refine z_aload_n 0 O dX5_about_56 rfl ?_
    refine z_getf kF_X5_21 O dX5_about_57 fO.1 rfl ?_
    obtain ⟨hO1, _⟩ := id fS
    refine z_Vi [] [] kM_X5_106 O dX5_about_60 (c_X2_sumOfValues hst fS hG) rfl rfl hO1.1 (by decide) (Nat.le_of_ble_eq_true rfl) (by omega) (by omega) (Nat.le_of_ble_eq_true rfl) zNx ?_
    exact z_ireti O dX5_about_63 rfl (by omega) (by omega) hpo (by unfold vAb; (repeat first | rw [if_pos (by omega)] | rw [if_neg (by omega)])) (⟨(by unfold cAb; (repeat first | rw [if_pos (by omega)] | rw [if_neg (by omega)])), rfl⟩)
  · skip
    refine z_tsw 1 64 O dX5_about_1 ⟨by omega, by omega⟩ (by omega) (by decide) rfl (by decide) ?_
    refine z_aload_n 0 O dX5_about_64 rfl ?_
    refine z_getf kF_X5_21 O dX5_about_65 fO.1 rfl ?_
    refine z_iconst 2 O dX5_about_68 (by decide +kernel) ?_
    obtain ⟨hO2, _⟩ := id fS
    refine z_Vi [.int (iI 2)] [] kM_X5_109 O dX5_about_69 (c_X2_sumOfWorkers hst fS hG (j := 2) (by omega)) rfl rfl hO2.1 (by decide) (Nat.le_of_ble_eq_true rfl) (by omega) (by omega) (Nat.le_of_ble_eq_true rfl) zNx ?_
    exact z_ireti O dX5_about_72 rfl (by omega) (by omega) hpo (by unfold vAb; (repeat first | rw [if_pos (by omega)] | rw [if_neg (by omega)]); exact ab1 hG.2.2.1) (⟨(by unfold cAb; (repeat first | rw [if_pos (by omega)] | rw [if_neg (by omega)])), rfl⟩)
  · skip
    refine z_tsw 2 73 O dX5_about_1 ⟨by omega, by omega⟩ (by omega) (by decide) rfl (by decide) ?_
    refine z_aload_n 0 O dX5_about_73 rfl ?_
    refine z_getf kF_X5_21 O dX5_about_74 fO.1 rfl ?_
    refine z_iconst 0 O dX5_about_77 (by decide +kernel) ?_
    obtain ⟨hO3, _⟩ := id fS
    refine z_Vi [.int (iI 0)] [] kM_X5_109 O dX5_about_78 (c_X2_sumOfWorkers hst fS hG (j := 0) (by omega)) rfl rfl hO3.1 (by decide) (Nat.le_of_ble_eq_true rfl) (by omega) (by omega) (Nat.le_of_ble_eq_true rfl) zNx ?_
    exact z_ireti O dX5_about_81 rfl (by omega) (by omega) hpo (by unfold vAb; (repeat first | rw [if_pos (by omega)] | rw [if_neg (by omega)]); (try exact zSum_c 3 (fun w _ _ => rfl)); (try rfl)) (⟨(by unfold cAb; (repeat first | rw [if_pos (by omega)] | rw [if_neg (by omega)])), rfl⟩)
  · skip
    refine z_tsw 3 82 O dX5_about_1 ⟨by omega, by omega⟩ (by omega) (by decide) rfl (by decide) ?_
    refine z_aload_n 0 O dX5_about_82 rfl ?_
    refine z_getf kF_X5_21 O dX5_about_83 fO.1 rfl ?_
    refine z_iconst 3 O dX5_about_86 (by decide +kernel) ?_
    obtain ⟨hO4, _⟩ := id fS
    refine z_Vi [.int (iI 3)] [] kM_X5_109 O dX5_about_87 (c_X2_sumOfWorkers hst fS hG (j := 3) (by omega)) rfl rfl hO4.1 (by decide) (Nat.le_of_ble_eq_true rfl) (by omega) (by omega) (Nat.le_of_ble_eq_true rfl) zNx ?_
    exact z_ireti O dX5_about_90 rfl (by omega) (by omega) hpo (by unfold vAb; (repeat first | rw [if_pos (by omega)] | rw [if_neg (by omega)]); (try exact zSum_c 3 (fun w _ _ => rfl)); (try rfl)) (⟨(by unfold cAb; (repeat first | rw [if_pos (by omega)] | rw [if_neg (by omega)])), rfl⟩)
  · skip
    refine z_tsw 4 91 O dX5_about_1 ⟨by omega, by omega⟩ (by omega) (by decide) rfl (by decide) ?_
    refine z_aload_n 0 O dX5_about_91 rfl ?_
    refine z_getf kF_X5_21 O dX5_about_92 fO.1 rfl ?_
    refine z_iconst 4 O dX5_about_95 (by decide +kernel) ?_
    obtain ⟨hO5, _⟩ := id fS
    refine z_Vi [.int (iI 4)] [] kM_X5_109 O dX5_about_96 (c_X2_sumOfWorkers hst fS hG (j := 4) (by omega)) rfl rfl hO5.1 (by decide) (Nat.le_of_ble_eq_true rfl) (by omega) (by omega) (Nat.le_of_ble_eq_true rfl) zNx ?_
    exact z_ireti O dX5_about_99 rfl (by omega) (by omega) hpo (by unfold vAb; (repeat first | rw [if_pos (by omega)] | rw [if_neg (by omega)]); (try exact zSum_c 3 (fun w _ _ => rfl)); (try rfl)) (⟨(by unfold cAb; (repeat first | rw [if_pos (by omega)] | rw [if_neg (by omega)])), rfl⟩)
  · skip
    refine z_tsw 5 100 O dX5_about_1 ⟨by omega, by omega⟩ (by omega) (by decide) rfl (by decide) ?_
    refine z_aload_n 0 O dX5_about_100 rfl ?_
    refine z_getf kF_X5_21 O dX5_about_101 fO.1 rfl ?_
    obtain ⟨hO6, _⟩ := id fS
    refine z_getf kF_X5_112 O dX5_about_104 hO6.1 rfl ?_
    exact z_ireti O dX5_about_107 rfl (by omega) (by omega) hpo (by unfold vAb; (repeat first | rw [if_pos (by omega)] | rw [if_neg (by omega)])) (⟨(by unfold cAb; (repeat first | rw [if_pos (by omega)] | rw [if_neg (by omega)])), rfl⟩)
  · skip
    refine z_tsw 6 108 O dX5_about_1 ⟨by omega, by omega⟩ (by omega) (by decide) rfl (by decide) ?_
    refine z_aload_n 0 O dX5_about_108 rfl ?_
    refine z_getf kF_X5_21 O dX5_about_109 fO.1 rfl ?_
    refine z_iconst 5 O dX5_about_112 (by decide +kernel) ?_
    obtain ⟨hO7, _⟩ := id fS
    refine z_Vi [.int (iI 5)] [] kM_X5_109 O dX5_about_113 (c_X2_sumOfWorkers hst fS hG (j := 5) (by omega)) rfl rfl hO7.1 (by decide) (Nat.le_of_ble_eq_true rfl) (by omega) (by omega) (Nat.le_of_ble_eq_true rfl) zNx ?_
    exact z_ireti O dX5_about_116 rfl (by omega) (by omega) hpo (by unfold vAb; (repeat first | rw [if_pos (by omega)] | rw [if_neg (by omega)]); (try exact zSum_c 3 (fun w _ _ => rfl)); (try rfl)) (⟨(by unfold cAb; (repeat first | rw [if_pos (by omega)] | rw [if_neg (by omega)])), rfl⟩)
  · skip
    refine z_tsw 7 117 O dX5_about_1 ⟨by omega, by omega⟩ (by omega) (by decide) rfl (by decide) ?_
    refine z_aload_n 0 O dX5_about_117 rfl ?_
    refine z_getf kF_X5_21 O dX5_about_118 fO.1 rfl ?_
    obtain ⟨hO8, _⟩ := id fS
    refine z_getf kF_X5_115 O dX5_about_121 hO8.1 rfl ?_
    exact z_ireti O dX5_about_124 rfl (by omega) (by omega) hpo (by unfold vAb; (repeat first | rw [if_pos (by omega)] | rw [if_neg (by omega)])) (⟨(by unfold cAb; (repeat first | rw [if_pos (by omega)] | rw [if_neg (by omega)])), rfl⟩)
  · skip
    refine z_tsw 8 125 O dX5_about_1 ⟨by omega, by omega⟩ (by omega) (by decide) rfl (by decide) ?_
    refine z_aload_n 0 O dX5_about_125 rfl ?_
    refine z_getf kF_X5_21 O dX5_about_126 fO.1 rfl ?_
    obtain ⟨hO9, _⟩ := id fS
    refine z_getf kF_X5_118 O dX5_about_129 hO9.1 rfl ?_
    exact z_ireti O dX5_about_132 rfl (by omega) (by omega) hpo (by unfold vAb; (repeat first | rw [if_pos (by omega)] | rw [if_neg (by omega)])) (⟨(by unfold cAb; (repeat first | rw [if_pos (by omega)] | rw [if_neg (by omega)])), rfl⟩)
  · skip
    refine z_tsw 9 133 O dX5_about_1 ⟨by omega, by omega⟩ (by omega) (by decide) rfl (by decide) ?_
    refine z_aload_n 0 O dX5_about_133 rfl ?_
    refine z_getf kF_X5_21 O dX5_about_134 fO.1 rfl ?_
    obtain ⟨hO10, _⟩ := id fS
    refine z_getf kF_X5_121 O dX5_about_137 hO10.1 rfl ?_
    exact z_ireti O dX5_about_140 rfl (by omega) (by omega) hpo (by unfold vAb; (repeat first | rw [if_pos (by omega)] | rw [if_neg (by omega)])) (⟨(by unfold cAb; (repeat first | rw [if_pos (by omega)] | rw [if_neg (by omega)])), rfl⟩)
  · skip
    refine z_tswO 141 O dX5_about_1 ⟨by omega, by omega⟩ c_1 (by decide) ?_
    exact z_throwX kT_43_124_47 O dX5_about_141 dX5_about_144 dX5_about_145 dX5_about_147 dX5_about_150 (by decide) (Nat.le_of_ble_eq_true rfl) (by omega) (by omega) (fun H1 hs1 hz1 hz2 => by rw [hH] at hz1 hz2; rw [hpx]; exact ⟨Or.inl ⟨(by unfold cAb; (repeat first | rw [if_pos (by omega)] | rw [if_neg (by omega)])), rfl⟩, hs1, hz1, hz2⟩)

theorem c_X5_cell {E : zE} (hst : E.1.stackTraces = false) {H : Heap} {r : zH} {a : Nat → Nat} {n : Int} {tx G : Int → Int} {fi ac : Int} {dd : Nat → Int → Int} {kp ik : Int → Int} {N : Int} {c j : Int} (h : zCm E H r a n tx G fi ac dd kp ik) (hOK : cOK n tx G fi ac dd kp ik N) (hzc : zR c) (hzj : zR j) : zC E yX5_cell cX5_cell 3 (some .int) 7 110 [.ref (a 1200), .int (iI c), .int (iI j)] H 1 6 (zRi (vCe G c j) (fun H1 => cCe c j = 0 ∧ H1 = H)) (zXc (cCe c j) xB xA "" H) := by
  refine zC.of2 (by decide) (Nat.le_of_ble_eq_true rfl) hst ?_
  intro x O hE hpo hpx hH
  subst hE
  change zG x H 0 0 0 [(0, .ref (a 1200)), (1, .int (iI c)), (2, .int (iI j))] []
  have hOK9 := hOK
  obtain ⟨nx, fl, F, sf, KS, hfw, hhr, hkr⟩ := id h
  obtain ⟨fO, fT, fcap, fS, ⟨S, fC⟩, fH, fQ, fL, fZ⟩ := id hfw
  obtain ⟨⟨hn, hx, hG, hN, hfi, hac, hik⟩, hdd, hkk⟩ := hOK
  refine z_iload_n 1 O dX5_cell_0 rfl ?_
  by_cases hd1 : 0 ≤ c ∧ c ≤ 15
  · skip
    refine z_Sv [.int (iI c)] [] kM_X5_126 O dX5_cell_1 (c_X5_requireCellY hst hzc hd1) rfl rfl (by decide) (Nat.le_of_ble_eq_true rfl) (by omega) (by omega) (Nat.le_of_ble_eq_true rfl) zNx ?_
    refine z_iload_n 2 O dX5_cell_4 rfl ?_
    rcases (show j = 0 ∨ j = 1 ∨ j = 2 ∨ (j < 0 ∨ 2 < j) by omega) with c_5 | c_5 | c_5 | c_5
    · skip
      refine z_tsw 0 32 O dX5_cell_5 ⟨by omega, by omega⟩ (by omega) (by decide) rfl (by decide) ?_
      refine z_aload_n 0 O dX5_cell_32 rfl ?_
      refine z_getf kF_X5_21 O dX5_cell_33 fO.1 rfl ?_
      obtain ⟨hO2, _⟩ := id fS
      refine z_getf kF_X5_129 O dX5_cell_36 hO2.1 rfl ?_
      refine z_iload_n 1 O dX5_cell_39 rfl ?_
      obtain ⟨it3, hRo4⟩ := fS.2.2.1.o
      refine z_Vi [.int (iI c)] [] kM_X5_66 O dX5_cell_40 (c_X1_get hst fS.2.2.1 ⟨by omega, by omega⟩) rfl rfl hRo4.1 (by decide) (Nat.le_of_ble_eq_true rfl) (by omega) (by omega) (Nat.le_of_ble_eq_true rfl) zNx ?_
      rw [show zRg 16 G c = G c from (by unfold zRg; exact if_pos ⟨by omega, by omega⟩)]
      exact z_ireti O dX5_cell_43 rfl (by omega) (by omega) hpo (by unfold vCe; (repeat first | rw [if_pos (by omega)] | rw [if_neg (by omega)])) (⟨(by unfold cCe; (repeat first | rw [if_pos (by omega)] | rw [if_neg (by omega)])), rfl⟩)
    · skip
      refine z_tsw 1 44 O dX5_cell_5 ⟨by omega, by omega⟩ (by omega) (by decide) rfl (by decide) ?_
      refine z_aload_n 0 O dX5_cell_44 rfl ?_
      refine z_getf kF_X5_21 O dX5_cell_45 fO.1 rfl ?_
      obtain ⟨hO5, _⟩ := id fS
      refine z_getf kF_X5_132 O dX5_cell_48 hO5.1 rfl ?_
      refine z_iload_n 1 O dX5_cell_51 rfl ?_
      obtain ⟨it6, hRo7⟩ := fS.2.2.2.1.o
      refine z_Vi [.int (iI c)] [] kM_X5_66 O dX5_cell_52 (c_X1_get hst fS.2.2.2.1 ⟨by omega, by omega⟩) rfl rfl hRo7.1 (by decide) (Nat.le_of_ble_eq_true rfl) (by omega) (by omega) (Nat.le_of_ble_eq_true rfl) zNx ?_
      rw [show zRg 16 (fun c => G (16 + c) - 1) c = G (16 + c) - 1 from (by unfold zRg; exact if_pos ⟨by omega, by omega⟩)]
      exact z_ireti O dX5_cell_55 rfl (by omega) (by omega) hpo (by unfold vCe; (repeat first | rw [if_pos (by omega)] | rw [if_neg (by omega)])) (⟨(by unfold cCe; (repeat first | rw [if_pos (by omega)] | rw [if_neg (by omega)])), rfl⟩)
    · skip
      refine z_tsw 2 56 O dX5_cell_5 ⟨by omega, by omega⟩ (by omega) (by decide) rfl (by decide) ?_
      refine z_aload_n 0 O dX5_cell_56 rfl ?_
      refine z_getf kF_X5_21 O dX5_cell_57 fO.1 rfl ?_
      refine z_iload_n 1 O dX5_cell_60 rfl ?_
      obtain ⟨hO8, _⟩ := id fS
      refine z_Vi [.int (iI c)] [] kM_X5_135 O dX5_cell_61 (c_X2_oldestValue hst fS hG ⟨by omega, by omega⟩) rfl rfl hO8.1 (by decide) (Nat.le_of_ble_eq_true rfl) (by omega) (by omega) (Nat.le_of_ble_eq_true rfl) zNx ?_
      exact z_ireti O dX5_cell_64 rfl (by omega) (by omega) hpo (by unfold vCe; (repeat first | rw [if_pos (by omega)] | rw [if_neg (by omega)])) (⟨(by unfold cCe; (repeat first | rw [if_pos (by omega)] | rw [if_neg (by omega)])), rfl⟩)
    · skip
      refine z_tswO 65 O dX5_cell_5 ⟨by omega, by omega⟩ c_5 (by decide) ?_
      exact z_throwX kT_43_138_47 O dX5_cell_65 dX5_cell_68 dX5_cell_69 dX5_cell_71 dX5_cell_74 (by decide) (Nat.le_of_ble_eq_true rfl) (by omega) (by omega) (fun H1 hs1 hz1 hz2 => by rw [hH] at hz1 hz2; rw [hpx]; exact ⟨Or.inr (Or.inl ⟨(by unfold cCe; (repeat first | rw [if_pos (by omega)] | rw [if_neg (by omega)])), rfl⟩), hs1, hz1, hz2⟩)
  · skip
    exact z_Svm [.int (iI c)] [] kM_X5_126 O dX5_cell_1 ((c_X5_requireCellN hst hzc hd1).to (post' := zRv (fun _ => False)) (fun _ _ hh => hh.elim) (fun _ _ hh => hh)) rfl rfl (by decide) (Nat.le_of_ble_eq_true rfl) (by omega) (by omega) (Nat.le_of_ble_eq_true rfl) (fun X H1 hh => by rw [hpx]; exact ⟨Or.inl ⟨(by unfold cCe; (repeat first | rw [if_pos (by omega)] | rw [if_neg (by omega)])), hh.1⟩, hh.2⟩) (fun H1 hp hz => hp.elim)

theorem c_X5_worker {E : zE} (hst : E.1.stackTraces = false) {H : Heap} {r : zH} {a : Nat → Nat} {n : Int} {tx G : Int → Int} {fi ac : Int} {dd : Nat → Int → Int} {kp ik : Int → Int} {N : Int} {w j : Int} (h : zCm E H r a n tx G fi ac dd kp ik) (hOK : cOK n tx G fi ac dd kp ik N) (hzw : zR w) (hzj : zR j) : zC E yX5_worker cX5_worker 4 (some .int) 7 112 [.ref (a 1200), .int (iI w), .int (iI j)] H 1 6 (zRi (vWo G w j) (fun H1 => cWo w j = 0 ∧ H1 = H)) (zXc (cWo w j) xB xA "" H) := by
  refine zC.of2 (by decide) (Nat.le_of_ble_eq_true rfl) hst ?_
  intro x O hE hpo hpx hH
  subst hE
  change zG x H 0 0 0 [(0, .ref (a 1200)), (1, .int (iI w)), (2, .int (iI j))] []
  have hOK9 := hOK
  obtain ⟨nx, fl, F, sf, KS, hfw, hhr, hkr⟩ := id h
  obtain ⟨fO, fT, fcap, fS, ⟨S, fC⟩, fH, fQ, fL, fZ⟩ := id hfw
  obtain ⟨⟨hn, hx, hG, hN, hfi, hac, hik⟩, hdd, hkk⟩ := hOK
  refine z_aload_n 0 O dX5_worker_0 rfl ?_
  refine z_iload_n 1 O dX5_worker_1 rfl ?_
  by_cases hd1 : 0 ≤ w ∧ w ≤ 2
  · skip
    have hw : 0 ≤ w ∧ w ≤ 2 := hd1
    refine z_Vr [.int (iI w)] [] kM_X5_140 O dX5_worker_2 (c_X5_existingWorkerY hst fO fS hG hzw hw) rfl rfl fO.1 (by decide) (Nat.le_of_ble_eq_true rfl) (by omega) (by omega) (Nat.le_of_ble_eq_true rfl) zNx ?_
    refine z_astore_n [(3, .ref (a (0 + 6 + 16 * w.toNat))), (0, .ref (a 1200)), (1, .int (iI w)), (2, .int (iI j))] O dX5_worker_5 (by decide) rfl ?_
    refine z_iload_n 3 O dX5_worker_6 rfl ?_
    refine z_if_lt 15 O dX5_worker_7 (by decide) ⟨by omega, by omega⟩ (fun c_7 => ?_) (fun c_7 => ?_)
    · skip
      exact z_throwX kT_43_144_47 O dX5_worker_15 dX5_worker_18 dX5_worker_19 dX5_worker_21 dX5_worker_24 (by decide) (Nat.le_of_ble_eq_true rfl) (by omega) (by omega) (fun H1 hs1 hz1 hz2 => by rw [hH] at hz1 hz2; rw [hpx]; exact ⟨Or.inr (Or.inl ⟨(by unfold cWo; (repeat first | rw [if_pos (by omega)] | rw [if_neg (by omega)])), rfl⟩), hs1, hz1, hz2⟩)
    · skip
      refine z_iload_n 3 O dX5_worker_10 rfl ?_
      refine z_iconst 5 O dX5_worker_11 (by decide +kernel) ?_
      refine z_icmp_le 25 O dX5_worker_12 (by decide) ⟨by omega, by omega⟩ ⟨by omega, by omega⟩ (fun c_12 => ?_) (fun c_12 => ?_)
      · skip
        refine z_aload_n 1 O dX5_worker_25 rfl ?_
        refine z_getf kF_X5_21 O dX5_worker_26 fO.1 rfl ?_
        refine z_aload_n 0 O dX5_worker_29 rfl ?_
        refine z_iload_n 3 O dX5_worker_30 rfl ?_
        obtain ⟨hO2, _⟩ := id fS
        refine z_Vi [.ref (a (0 + 6 + 16 * w.toNat)), .int (iI j)] [] kM_X5_146 O dX5_worker_31 (c_X2_numberOfWorker hst fS hG hw ⟨by omega, by omega⟩) rfl rfl hO2.1 (by decide) (Nat.le_of_ble_eq_true rfl) (by omega) (by omega) (Nat.le_of_ble_eq_true rfl) zNx ?_
        exact z_ireti O dX5_worker_34 rfl (by omega) (by omega) hpo (by rfl) (⟨(by unfold cWo; (repeat first | rw [if_pos (by omega)] | rw [if_neg (by omega)])), rfl⟩)
      · skip
        exact z_throwX kT_43_144_47 O dX5_worker_15 dX5_worker_18 dX5_worker_19 dX5_worker_21 dX5_worker_24 (by decide) (Nat.le_of_ble_eq_true rfl) (by omega) (by omega) (fun H1 hs1 hz1 hz2 => by rw [hH] at hz1 hz2; rw [hpx]; exact ⟨Or.inr (Or.inl ⟨(by unfold cWo; (repeat first | rw [if_pos (by omega)] | rw [if_neg (by omega)])), rfl⟩), hs1, hz1, hz2⟩)
  · skip
    exact z_Vrm [.int (iI w)] [] kM_X5_140 O dX5_worker_2 ((c_X5_existingWorkerN hst fO fS hG hzw hd1).to (post' := zRr none (fun _ => False)) (fun _ _ hh => hh.elim) (fun _ _ hh => hh)) rfl rfl fO.1 (by decide) (Nat.le_of_ble_eq_true rfl) (by omega) (by omega) (Nat.le_of_ble_eq_true rfl) (fun X H1 hh => by rw [hpx]; exact ⟨Or.inl ⟨(by unfold cWo; (repeat first | rw [if_pos (by omega)] | rw [if_neg (by omega)])), hh.1⟩, hh.2⟩) (fun H1 hp hz => hp.elim)

theorem c_X5_whyNot {E : zE} (hst : E.1.stackTraces = false) {H : Heap} {r : zH} {a : Nat → Nat} {n : Int} {tx G : Int → Int} {fi ac : Int} {dd : Nat → Int → Int} {kp ik : Int → Int} {N : Int} {w c : Int} (h : zCm E H r a n tx G fi ac dd kp ik) (hOK : cOK n tx G fi ac dd kp ik N) (hzw : zR w) (hzc : zR c) : zC E yX5_whyNot cX5_whyNot 4 (some .int) 7 112 [.ref (a 1200), .int (iI w), .int (iI c)] H 1 6 (zRi (sRe G w c) (fun H1 => cWy w c = 0 ∧ H1 = H)) (zXc (cWy w c) xB "" "" H) := by
  refine zC.of2 (by decide) (Nat.le_of_ble_eq_true rfl) hst ?_
  intro x O hE hpo hpx hH
  subst hE
  change zG x H 0 0 0 [(0, .ref (a 1200)), (1, .int (iI w)), (2, .int (iI c))] []
  have hOK9 := hOK
  obtain ⟨nx, fl, F, sf, KS, hfw, hhr, hkr⟩ := id h
  obtain ⟨fO, fT, fcap, fS, ⟨S, fC⟩, fH, fQ, fL, fZ⟩ := id hfw
  obtain ⟨⟨hn, hx, hG, hN, hfi, hac, hik⟩, hdd, hkk⟩ := hOK
  refine z_aload_n 0 O dX5_whyNot_0 rfl ?_
  refine z_iload_n 1 O dX5_whyNot_1 rfl ?_
  by_cases hd1 : 0 ≤ w ∧ w ≤ 2
  · skip
    have hw : 0 ≤ w ∧ w ≤ 2 := hd1
    refine z_Vr [.int (iI w)] [] kM_X5_140 O dX5_whyNot_2 (c_X5_existingWorkerY hst fO fS hG hzw hw) rfl rfl fO.1 (by decide) (Nat.le_of_ble_eq_true rfl) (by omega) (by omega) (Nat.le_of_ble_eq_true rfl) zNx ?_
    refine z_astore_n [(3, .ref (a (0 + 6 + 16 * w.toNat))), (0, .ref (a 1200)), (1, .int (iI w)), (2, .int (iI c))] O dX5_whyNot_5 (by decide) rfl ?_
    refine z_iload_n 3 O dX5_whyNot_6 rfl ?_
    by_cases hd2 : 0 ≤ c ∧ c ≤ 15
    · skip
      refine z_Sv [.int (iI c)] [] kM_X5_126 O dX5_whyNot_7 (c_X5_requireCellY hst hzc hd2) rfl rfl (by decide) (Nat.le_of_ble_eq_true rfl) (by omega) (by omega) (Nat.le_of_ble_eq_true rfl) zNx ?_
      refine z_aload_n 1 O dX5_whyNot_10 rfl ?_
      refine z_getf kF_X5_21 O dX5_whyNot_11 fO.1 rfl ?_
      refine z_aload_n 0 O dX5_whyNot_14 rfl ?_
      refine z_iload_n 3 O dX5_whyNot_15 rfl ?_
      obtain ⟨hO3, _⟩ := id fS
      refine z_Vi [.ref (a (0 + 6 + 16 * w.toNat)), .int (iI c)] [] kM_X5_216 O dX5_whyNot_16 (c_X2_obstacle hst fS hG hw ⟨by omega, by omega⟩) rfl rfl hO3.1 (by decide) (Nat.le_of_ble_eq_true rfl) (by omega) (by omega) (Nat.le_of_ble_eq_true rfl) zNx ?_
      exact z_ireti O dX5_whyNot_19 rfl (by omega) (by omega) hpo (by rfl) (⟨(by unfold cWy; (repeat first | rw [if_pos (by omega)] | rw [if_neg (by omega)])), rfl⟩)
    · skip
      exact z_Svm [.int (iI c)] [] kM_X5_126 O dX5_whyNot_7 ((c_X5_requireCellN hst hzc hd2).to (post' := zRv (fun _ => False)) (fun _ _ hh => hh.elim) (fun _ _ hh => hh)) rfl rfl (by decide) (Nat.le_of_ble_eq_true rfl) (by omega) (by omega) (Nat.le_of_ble_eq_true rfl) (fun X H1 hh => by rw [hpx]; exact ⟨Or.inl ⟨(by unfold cWy; (repeat first | rw [if_pos (by omega)] | rw [if_neg (by omega)])), hh.1⟩, hh.2⟩) (fun H1 hp hz => hp.elim)
  · skip
    exact z_Vrm [.int (iI w)] [] kM_X5_140 O dX5_whyNot_2 ((c_X5_existingWorkerN hst fO fS hG hzw hd1).to (post' := zRr none (fun _ => False)) (fun _ _ hh => hh.elim) (fun _ _ hh => hh)) rfl rfl fO.1 (by decide) (Nat.le_of_ble_eq_true rfl) (by omega) (by omega) (Nat.le_of_ble_eq_true rfl) (fun X H1 hh => by rw [hpx]; exact ⟨Or.inl ⟨(by unfold cWy; (repeat first | rw [if_pos (by omega)] | rw [if_neg (by omega)])), hh.1⟩, hh.2⟩) (fun H1 hp hz => hp.elim)

theorem c_X5_entry {E : zE} (hst : E.1.stackTraces = false) {H : Heap} {r : zH} {a : Nat → Nat} {n : Int} {tx G : Int → Int} {fi ac : Int} {dd : Nat → Int → Int} {kp ik : Int → Int} {N : Int} {w i : Int} (h : zCm E H r a n tx G fi ac dd kp ik) (hOK : cOK n tx G fi ac dd kp ik N) (hzw : zR w) (hzi : zR i) : zC E yX5_entry cX5_entry 4 (some .int) 7 112 [.ref (a 1200), .int (iI w), .int (iI i)] H 1 6 (zRi (vEn G w i) (fun H1 => cEn w i = 0 ∧ H1 = H)) (zXc (cEn w i) xB xA "" H) := by
  refine zC.of2 (by decide) (Nat.le_of_ble_eq_true rfl) hst ?_
  intro x O hE hpo hpx hH
  subst hE
  change zG x H 0 0 0 [(0, .ref (a 1200)), (1, .int (iI w)), (2, .int (iI i))] []
  have hOK9 := hOK
  obtain ⟨nx, fl, F, sf, KS, hfw, hhr, hkr⟩ := id h
  obtain ⟨fO, fT, fcap, fS, ⟨S, fC⟩, fH, fQ, fL, fZ⟩ := id hfw
  obtain ⟨⟨hn, hx, hG, hN, hfi, hac, hik⟩, hdd, hkk⟩ := hOK
  refine z_aload_n 0 O dX5_entry_0 rfl ?_
  refine z_iload_n 1 O dX5_entry_1 rfl ?_
  by_cases hd1 : 0 ≤ w ∧ w ≤ 2
  · skip
    have hw : 0 ≤ w ∧ w ≤ 2 := hd1
    refine z_Vr [.int (iI w)] [] kM_X5_140 O dX5_entry_2 (c_X5_existingWorkerY hst fO fS hG hzw hw) rfl rfl fO.1 (by decide) (Nat.le_of_ble_eq_true rfl) (by omega) (by omega) (Nat.le_of_ble_eq_true rfl) zNx ?_
    obtain ⟨hWk, hOt⟩ := zSt_w fS.2.2.2.2 hw
    obtain ⟨np, f1, f2, V, hO, hQ, hLg, hRg, hPL, hPR, hWs, hRl⟩ := id hWk
    have hm := hG.m hw
    have hl := hG.l hw
    refine z_astore_n [(3, .ref (a (0 + 6 + 16 * w.toNat))), (0, .ref (a 1200)), (1, .int (iI w)), (2, .int (iI i))] O dX5_entry_5 (by decide) rfl ?_
    refine z_iload_n 3 O dX5_entry_6 rfl ?_
    refine z_if_ge 20 O dX5_entry_7 (by decide) ⟨by omega, by omega⟩ (fun c_7 => ?_) (fun c_7 => ?_)
    · skip
      refine z_iload_n 3 O dX5_entry_20 rfl ?_
      refine z_aload_n 0 O dX5_entry_21 rfl ?_
      obtain ⟨hk3, _⟩ := zSt_w fS.2.2.2.2 hw
      obtain ⟨_, _, _, _, hO2, _⟩ := id hk3
      refine z_getf kF_X5_181 O dX5_entry_22 hO2.1 rfl ?_
      obtain ⟨it4, hRo5⟩ := hLg.o
      refine z_getf kF_X5_50 O dX5_entry_25 hRo5.1 rfl ?_
      refine z_icmp_ge 52 O dX5_entry_28 (by decide) ⟨by omega, by omega⟩ ⟨by omega, by omega⟩ (fun c_28 => ?_) (fun c_28 => ?_)
      · skip
        refine z_iconst (-1) O dX5_entry_52 (by decide +kernel) ?_
        exact z_ireti O dX5_entry_53 rfl (by omega) (by omega) hpo (by unfold vEn; (repeat first | rw [if_pos (by omega)] | rw [if_neg (by omega)]); (try exact congrArg (fun z => G (at_ w z)) (by omega))) (⟨(by unfold cEn; (repeat first | rw [if_pos (by omega)] | rw [if_neg (by omega)])), rfl⟩)
      · skip
        refine z_aload_n 0 O dX5_entry_31 rfl ?_
        obtain ⟨hk7, _⟩ := zSt_w fS.2.2.2.2 hw
        obtain ⟨_, _, _, _, hO6, _⟩ := id hk7
        refine z_getf kF_X5_181 O dX5_entry_32 hO6.1 rfl ?_
        refine z_aload_n 0 O dX5_entry_35 rfl ?_
        obtain ⟨hk9, _⟩ := zSt_w fS.2.2.2.2 hw
        obtain ⟨_, _, _, _, hO8, _⟩ := id hk9
        refine z_getf kF_X5_181 O dX5_entry_36 hO8.1 rfl ?_
        obtain ⟨it10, hRo11⟩ := hLg.o
        refine z_getf kF_X5_50 O dX5_entry_39 hRo11.1 rfl ?_
        refine z_iconst 1 O dX5_entry_42 (by decide +kernel) ?_
        refine z_isub O dX5_entry_43 ?_
        refine z_iload_n 3 O dX5_entry_44 rfl ?_
        refine z_isub O dX5_entry_45 ?_
        obtain ⟨it12, hRo13⟩ := hLg.o
        refine z_Vi [.int (iI (((G (at_ w 1)) - 1) - i))] [] kM_X5_66 O dX5_entry_46 (c_X1_get hst hLg ⟨by omega, by omega⟩) rfl rfl hRo13.1 (by decide) (Nat.le_of_ble_eq_true rfl) (by omega) (by omega) (Nat.le_of_ble_eq_true rfl) zNx ?_
        rw [show zRg (G (at_ w 1)) (fun k => G (at_ w (70 + k))) (((G (at_ w 1)) - 1) - i) = G (at_ w (70 + (((G (at_ w 1)) - 1) - i))) from (by unfold zRg; exact if_pos ⟨by omega, by omega⟩)]
        refine z_goto 53 O dX5_entry_49 (by decide) ?_
        exact z_ireti O dX5_entry_53 rfl (by omega) (by omega) hpo (by unfold vEn; (repeat first | rw [if_pos (by omega)] | rw [if_neg (by omega)]); (try exact congrArg (fun z => G (at_ w z)) (by omega))) (⟨(by unfold cEn; (repeat first | rw [if_pos (by omega)] | rw [if_neg (by omega)])), rfl⟩)
    · skip
      exact z_throwX kT_43_179_47 O dX5_entry_10 dX5_entry_13 dX5_entry_14 dX5_entry_16 dX5_entry_19 (by decide) (Nat.le_of_ble_eq_true rfl) (by omega) (by omega) (fun H1 hs1 hz1 hz2 => by rw [hH] at hz1 hz2; rw [hpx]; exact ⟨Or.inr (Or.inl ⟨(by unfold cEn; (repeat first | rw [if_pos (by omega)] | rw [if_neg (by omega)])), rfl⟩), hs1, hz1, hz2⟩)
  · skip
    exact z_Vrm [.int (iI w)] [] kM_X5_140 O dX5_entry_2 ((c_X5_existingWorkerN hst fO fS hG hzw hd1).to (post' := zRr none (fun _ => False)) (fun _ _ hh => hh.elim) (fun _ _ hh => hh)) rfl rfl fO.1 (by decide) (Nat.le_of_ble_eq_true rfl) (by omega) (by omega) (Nat.le_of_ble_eq_true rfl) (fun X H1 hh => by rw [hpx]; exact ⟨Or.inl ⟨(by unfold cEn; (repeat first | rw [if_pos (by omega)] | rw [if_neg (by omega)])), hh.1⟩, hh.2⟩) (fun H1 hp hz => hp.elim)

theorem c_X5_work {E : zE} (hst : E.1.stackTraces = false) {H : Heap} {r : zH} {a : Nat → Nat} {n : Int} {tx G : Int → Int} {fi ac : Int} {dd : Nat → Int → Int} {kp ik : Int → Int} {N : Int} {w i j : Int} (h : zCm E H r a n tx G fi ac dd kp ik) (hOK : cOK n tx G fi ac dd kp ik N) (hzw : zR w) (hzi : zR i) (hzj : zR j) : zC E yX5_work cX5_work 6 (some .int) 7 112 [.ref (a 1200), .int (iI w), .int (iI i), .int (iI j)] H 1 6 (zRi (vWk G w i j) (fun H1 => cWk G w i j = 0 ∧ H1 = H)) (zXc (cWk G w i j) xB xA "" H) := by
  refine zC.of2 (by decide) (Nat.le_of_ble_eq_true rfl) hst ?_
  intro x O hE hpo hpx hH
  subst hE
  change zG x H 0 0 0 [(0, .ref (a 1200)), (1, .int (iI w)), (2, .int (iI i)), (3, .int (iI j))] []
  have hOK9 := hOK
  obtain ⟨nx, fl, F, sf, KS, hfw, hhr, hkr⟩ := id h
  obtain ⟨fO, fT, fcap, fS, ⟨S, fC⟩, fH, fQ, fL, fZ⟩ := id hfw
  obtain ⟨⟨hn, hx, hG, hN, hfi, hac, hik⟩, hdd, hkk⟩ := hOK
  refine z_aload_n 0 O dX5_work_0 rfl ?_
  refine z_iload_n 1 O dX5_work_1 rfl ?_
  by_cases hd1 : 0 ≤ w ∧ w ≤ 2
  · skip
    have hw : 0 ≤ w ∧ w ≤ 2 := hd1
    refine z_Vr [.int (iI w)] [] kM_X5_140 O dX5_work_2 (c_X5_existingWorkerY hst fO fS hG hzw hw) rfl rfl fO.1 (by decide) (Nat.le_of_ble_eq_true rfl) (by omega) (by omega) (Nat.le_of_ble_eq_true rfl) zNx ?_
    obtain ⟨hWk, hOt⟩ := zSt_w fS.2.2.2.2 hw
    obtain ⟨np, f1, f2, V, hO, hQ, hLg, hRg, hPL, hPR, hWs, hRl⟩ := id hWk
    have hm := hG.m hw
    have hl := hG.l hw
    refine z_astore [(4, .ref (a (0 + 6 + 16 * w.toNat))), (0, .ref (a 1200)), (1, .int (iI w)), (2, .int (iI i)), (3, .int (iI j))] O dX5_work_5 (by decide) rfl ?_
    refine z_aload 0 O dX5_work_7 rfl ?_
    refine z_iload_n 3 O dX5_work_9 rfl ?_
    by_cases hd2 : 0 ≤ i ∧ i < G (at_ w 0)
    · skip
      obtain ⟨hk4, _⟩ := zSt_w fS.2.2.2.2 hw
      obtain ⟨_, _, _, _, hO3, _⟩ := id hk4
      refine z_Vr [.int (iI i)] [] kM_X5_150 O dX5_work_10 (by have c := c_X4_workAt hst hWk hG hw ⟨by omega, by omega⟩ (i := i); rw [if_pos hd2] at c; exact c) rfl rfl hO3.1 (by decide) (Nat.le_of_ble_eq_true rfl) (by omega) (by omega) (Nat.le_of_ble_eq_true rfl) zNx ?_
      refine z_astore [(5, .ref (a (0 + 6 + 16 * w.toNat + 10 + i.toNat))), (4, .ref (a (0 + 6 + 16 * w.toNat))), (0, .ref (a 1200)), (1, .int (iI w)), (2, .int (iI i)), (3, .int (iI j))] O dX5_work_13 (by decide) rfl ?_
      refine z_aload 0 O dX5_work_15 rfl ?_
      refine z_ifnonnull 30 O dX5_work_17 (by decide) ?_
      refine z_iload_n 5 O dX5_work_30 rfl ?_
      rcases (show j = 0 ∨ j = 1 ∨ j = 2 ∨ j = 3 ∨ j = 4 ∨ (j < 0 ∨ 4 < j) by omega) with c_31 | c_31 | c_31 | c_31 | c_31 | c_31
      · skip
        refine z_tsw 0 64 O dX5_work_31 ⟨by omega, by omega⟩ (by omega) (by decide) rfl (by decide) ?_
        refine z_aload 0 O dX5_work_64 rfl ?_
        have hWo5 := hWs.at (e := i) (by omega) (by omega)
        refine z_getf kF_X5_161 O dX5_work_66 hWo5.1 rfl ?_
        exact z_ireti O dX5_work_69 rfl (by omega) (by omega) hpo (by have k9 := hRl.2.2.1 i (by omega) (by omega); unfold vWk; (repeat first | rw [if_pos (by omega)] | rw [if_neg (by omega)]); exact k9.1) (⟨(by unfold cWk; (repeat first | rw [if_pos (by omega)] | rw [if_neg (by omega)])), rfl⟩)
      · skip
        refine z_tsw 1 70 O dX5_work_31 ⟨by omega, by omega⟩ (by omega) (by decide) rfl (by decide) ?_
        refine z_aload 1 O dX5_work_70 rfl ?_
        refine z_iload_n 4 O dX5_work_72 rfl ?_
        obtain ⟨hk7, _⟩ := zSt_w fS.2.2.2.2 hw
        obtain ⟨_, _, _, _, hO6, _⟩ := id hk7
        refine z_Vi [.int (iI i)] [] kM_X5_166 O dX5_work_73 (by have c := c_X4_countPoints hst hWk hG hw (i := i) (by omega); rw [if_pos hd2] at c; exact c) rfl rfl hO6.1 (by decide) (Nat.le_of_ble_eq_true rfl) (by omega) (by omega) (Nat.le_of_ble_eq_true rfl) zNx ?_
        exact z_ireti O dX5_work_76 rfl (by omega) (by omega) hpo (by have k9 := hRl.2.2.1 i (by omega) (by omega); unfold vWk; (repeat first | rw [if_pos (by omega)] | rw [if_neg (by omega)]); (try rfl)) (⟨(by unfold cWk; (repeat first | rw [if_pos (by omega)] | rw [if_neg (by omega)])), rfl⟩)
      · skip
        refine z_tsw 2 77 O dX5_work_31 ⟨by omega, by omega⟩ (by omega) (by decide) rfl (by decide) ?_
        refine z_aload 1 O dX5_work_77 rfl ?_
        refine z_iload_n 4 O dX5_work_79 rfl ?_
        obtain ⟨hk9, _⟩ := zSt_w fS.2.2.2.2 hw
        obtain ⟨_, _, _, _, hO8, _⟩ := id hk9
        refine z_Vi [.int (iI i)] [] kM_X5_169 O dX5_work_80 (by have c := c_X4_countRegrets hst hWk hG hw (i := i) (by omega); rw [if_pos hd2] at c; exact c) rfl rfl hO8.1 (by decide) (Nat.le_of_ble_eq_true rfl) (by omega) (by omega) (Nat.le_of_ble_eq_true rfl) zNx ?_
        exact z_ireti O dX5_work_83 rfl (by omega) (by omega) hpo (by have k9 := hRl.2.2.1 i (by omega) (by omega); unfold vWk; (repeat first | rw [if_pos (by omega)] | rw [if_neg (by omega)]); (try rfl)) (⟨(by unfold cWk; (repeat first | rw [if_pos (by omega)] | rw [if_neg (by omega)])), rfl⟩)
      · skip
        refine z_tsw 3 84 O dX5_work_31 ⟨by omega, by omega⟩ (by omega) (by decide) rfl (by decide) ?_
        refine z_aload 0 O dX5_work_84 rfl ?_
        have hWo10 := hWs.at (e := i) (by omega) (by omega)
        refine z_getf kF_X5_172 O dX5_work_86 hWo10.1 rfl ?_
        exact z_ireti O dX5_work_89 rfl (by omega) (by omega) hpo (by have k9 := hRl.2.2.1 i (by omega) (by omega); unfold vWk; (repeat first | rw [if_pos (by omega)] | rw [if_neg (by omega)]); exact k9.2.2.1) (⟨(by unfold cWk; (repeat first | rw [if_pos (by omega)] | rw [if_neg (by omega)])), rfl⟩)
      · skip
        refine z_tsw 4 90 O dX5_work_31 ⟨by omega, by omega⟩ (by omega) (by decide) rfl (by decide) ?_
        refine z_aload 0 O dX5_work_90 rfl ?_
        have k9 := hRl.2.2.1 i (by omega) (by omega)
        have k8 := k9.2.2.2.1
        have k7 := (hG.k hw (i := i) (by omega) (by omega)).2.2.2.2.1
        have hWo11 := hWs.at (e := i) (by omega) (by omega)
        refine z_getf kF_X5_173 O dX5_work_92 hWo11.1 rfl ?_
        have k9 := hRl.2.2.1 i (by omega) (by omega)
        have k8 := k9.2.2.2.1
        have k7 := (hG.k hw (i := i) (by omega) (by omega)).2.2.2.2.1
        refine z_if_eq 102 O dX5_work_95 (by decide) ⟨by omega, by omega⟩ (fun c_95 => ?_) (fun c_95 => ?_)
        · skip
          refine z_iconst 0 O dX5_work_102 (by decide +kernel) ?_
          exact z_ireti O dX5_work_103 rfl (by omega) (by omega) hpo (by have k9 := hRl.2.2.1 i (by omega) (by omega); unfold vWk; (repeat first | rw [if_pos (by omega)] | rw [if_neg (by omega)]); have k8 := k9.2.2.2.1; have k7 := (hG.k hw (i := i) (by omega) (by omega)).2.2.2.2.1; omega) (⟨(by unfold cWk; (repeat first | rw [if_pos (by omega)] | rw [if_neg (by omega)])), rfl⟩)
        · skip
          refine z_iconst 1 O dX5_work_98 (by decide +kernel) ?_
          refine z_goto 103 O dX5_work_99 (by decide) ?_
          exact z_ireti O dX5_work_103 rfl (by omega) (by omega) hpo (by have k9 := hRl.2.2.1 i (by omega) (by omega); unfold vWk; (repeat first | rw [if_pos (by omega)] | rw [if_neg (by omega)]); have k8 := k9.2.2.2.1; have k7 := (hG.k hw (i := i) (by omega) (by omega)).2.2.2.2.1; omega) (⟨(by unfold cWk; (repeat first | rw [if_pos (by omega)] | rw [if_neg (by omega)])), rfl⟩)
      · skip
        refine z_tswO 104 O dX5_work_31 ⟨by omega, by omega⟩ c_31 (by decide) ?_
        exact z_throwX kT_43_177_47 O dX5_work_104 dX5_work_107 dX5_work_108 dX5_work_110 dX5_work_113 (by decide) (Nat.le_of_ble_eq_true rfl) (by omega) (by omega) (fun H1 hs1 hz1 hz2 => by rw [hH] at hz1 hz2; rw [hpx]; exact ⟨Or.inr (Or.inl ⟨(by unfold cWk; (repeat first | rw [if_pos (by omega)] | rw [if_neg (by omega)])), rfl⟩), hs1, hz1, hz2⟩)
    · skip
      obtain ⟨hk13, _⟩ := zSt_w fS.2.2.2.2 hw
      obtain ⟨_, _, _, _, hO12, _⟩ := id hk13
      refine z_Vr [.int (iI i)] [] kM_X5_150 O dX5_work_10 (by have c := c_X4_workAt hst hWk hG hw ⟨by omega, by omega⟩ (i := i); rw [if_neg hd2] at c; exact c) rfl rfl hO12.1 (by decide) (Nat.le_of_ble_eq_true rfl) (by omega) (by omega) (Nat.le_of_ble_eq_true rfl) zNx ?_
      refine z_astoreN [(5, .null), (4, .ref (a (0 + 6 + 16 * w.toNat))), (0, .ref (a 1200)), (1, .int (iI w)), (2, .int (iI i)), (3, .int (iI j))] O dX5_work_13 (by decide) rfl ?_
      refine z_aloadN 0 O dX5_work_15 rfl ?_
      refine z_ifnonnullN O dX5_work_17 ?_
      exact z_throwX kT_156_158_160 O dX5_work_20 dX5_work_23 dX5_work_24 dX5_work_26 dX5_work_29 (by decide) (Nat.le_of_ble_eq_true rfl) (by omega) (by omega) (fun H1 hs1 hz1 hz2 => by rw [hH] at hz1 hz2; rw [hpx]; exact ⟨Or.inl ⟨(by unfold cWk; (repeat first | rw [if_pos (by omega)] | rw [if_neg (by omega)])), rfl⟩, hs1, hz1, hz2⟩)
  · skip
    exact z_Vrm [.int (iI w)] [] kM_X5_140 O dX5_work_2 ((c_X5_existingWorkerN hst fO fS hG hzw hd1).to (post' := zRr none (fun _ => False)) (fun _ _ hh => hh.elim) (fun _ _ hh => hh)) rfl rfl fO.1 (by decide) (Nat.le_of_ble_eq_true rfl) (by omega) (by omega) (Nat.le_of_ble_eq_true rfl) (fun X H1 hh => by rw [hpx]; exact ⟨Or.inl ⟨(by unfold cWk; (repeat first | rw [if_pos (by omega)] | rw [if_neg (by omega)])), hh.1⟩, hh.2⟩) (fun H1 hp hz => hp.elim)

theorem c_X5_mercyLeft {E : zE} (hst : E.1.stackTraces = false) {H : Heap} {r : zH} {a : Nat → Nat} {n : Int} {tx G : Int → Int} {fi ac : Int} {dd : Nat → Int → Int} {kp ik : Int → Int} {N : Int} {w : Int} (h : zCm E H r a n tx G fi ac dd kp ik) (hOK : cOK n tx G fi ac dd kp ik N) (hzw : zR w) : zC E yX5_mercyLeft cX5_mercyLeft 4 (some .int) 7 112 [.ref (a 1200), .int (iI w)] H 1 6 (zRi (vMl G w) (fun H1 => cWw w = 0 ∧ H1 = H)) (zXc (cWw w) xB "" "" H) := by
  refine zC.of2 (by decide) (Nat.le_of_ble_eq_true rfl) hst ?_
  intro x O hE hpo hpx hH
  subst hE
  change zG x H 0 0 0 [(0, .ref (a 1200)), (1, .int (iI w))] []
  have hOK9 := hOK
  obtain ⟨nx, fl, F, sf, KS, hfw, hhr, hkr⟩ := id h
  obtain ⟨fO, fT, fcap, fS, ⟨S, fC⟩, fH, fQ, fL, fZ⟩ := id hfw
  obtain ⟨⟨hn, hx, hG, hN, hfi, hac, hik⟩, hdd, hkk⟩ := hOK
  refine z_aload_n 0 O dX5_mercyLeft_0 rfl ?_
  refine z_iload_n 1 O dX5_mercyLeft_1 rfl ?_
  by_cases hd1 : 0 ≤ w ∧ w ≤ 2
  · skip
    have hw : 0 ≤ w ∧ w ≤ 2 := hd1
    refine z_Vr [.int (iI w)] [] kM_X5_140 O dX5_mercyLeft_2 (c_X5_existingWorkerY hst fO fS hG hzw hw) rfl rfl fO.1 (by decide) (Nat.le_of_ble_eq_true rfl) (by omega) (by omega) (Nat.le_of_ble_eq_true rfl) zNx ?_
    obtain ⟨hWk, hOt⟩ := zSt_w fS.2.2.2.2 hw
    obtain ⟨np, f1, f2, V, hO, hQ, hLg, hRg, hPL, hPR, hWs, hRl⟩ := id hWk
    have hm := hG.m hw
    have hl := hG.l hw
    refine z_astore_n [(2, .ref (a (0 + 6 + 16 * w.toNat))), (0, .ref (a 1200)), (1, .int (iI w))] O dX5_mercyLeft_5 (by decide) rfl ?_
    refine z_aload_n 0 O dX5_mercyLeft_6 rfl ?_
    by_cases hd2 : 0 < G (at_ w 0)
    · skip
      obtain ⟨hk4, _⟩ := zSt_w fS.2.2.2.2 hw
      obtain ⟨_, _, _, _, hO3, _⟩ := id hk4
      refine z_Vr [] [] kM_X5_238 O dX5_mercyLeft_7 (by have c := c_X4_innermost hst hWk; rw [if_pos hd2] at c; exact c) rfl rfl hO3.1 (by decide) (Nat.le_of_ble_eq_true rfl) (by omega) (by omega) (Nat.le_of_ble_eq_true rfl) zNx ?_
      refine z_astore_n [(3, .ref (a (0 + 6 + 16 * w.toNat + 10 + (G (at_ w 0) - 1).toNat))), (2, .ref (a (0 + 6 + 16 * w.toNat))), (0, .ref (a 1200)), (1, .int (iI w))] O dX5_mercyLeft_10 (by decide) rfl ?_
      refine z_aload_n 0 O dX5_mercyLeft_11 rfl ?_
      refine z_ifnull O dX5_mercyLeft_12 ?_
      have k9 := hRl.2.2.1 (G (at_ w 0) - 1) (by omega) (by omega)
      have k4 : V (G (at_ w 0) - 1) 4 = G (sIn G w 4) := k9.2.2.2.1
      have k3 : V (G (at_ w 0) - 1) 3 = G (sIn G w 3) := k9.2.2.1
      have k7 := hG.in hw (by omega)
      have h32 := hG.2.2.2.1
      refine z_aload_n 0 O dX5_mercyLeft_15 rfl ?_
      have hWo5 := hWs.at (e := (G (at_ w 0) - 1)) (by omega) (by omega)
      refine z_getf kF_X5_173 O dX5_mercyLeft_16 hWo5.1 rfl ?_
      refine z_if_ne 30 O dX5_mercyLeft_19 (by decide) ⟨by omega, by omega⟩ (fun c_19 => ?_) (fun c_19 => ?_)
      · skip
        refine z_iconst (-1) O dX5_mercyLeft_30 (by decide +kernel) ?_
        exact z_ireti O dX5_mercyLeft_31 rfl (by omega) (by omega) hpo (by unfold vMl; first | (rw [if_pos (sOp_t.mpr ⟨by omega, by omega⟩), if_pos (sCb_t.mpr ⟨by omega, by omega⟩)]; (split <;> omega)) | (rw [if_neg (fun q => by have := sOp_t.mp q; omega)]) | (rw [if_pos (sOp_t.mpr ⟨by omega, by omega⟩), if_neg (fun q => by have := sCb_t.mp q; omega)])) (⟨(by unfold cWw; (repeat first | rw [if_pos (by omega)] | rw [if_neg (by omega)])), rfl⟩)
      · skip
        refine z_aload_n 1 O dX5_mercyLeft_22 rfl ?_
        obtain ⟨hk7, _⟩ := zSt_w fS.2.2.2.2 hw
        obtain ⟨_, _, _, _, hO6, _⟩ := id hk7
        refine z_getf kF_X5_242 O dX5_mercyLeft_23 hO6.1 rfl ?_
        refine z_iconst 5 O dX5_mercyLeft_26 (by decide +kernel) ?_
        refine z_icmp_lt 32 O dX5_mercyLeft_27 (by decide) ⟨by omega, by omega⟩ ⟨by omega, by omega⟩ (fun c_27 => ?_) (fun c_27 => ?_)
        · skip
          refine z_iconst 0 O dX5_mercyLeft_32 (by decide +kernel) ?_
          refine z_aload_n 2 O dX5_mercyLeft_33 rfl ?_
          refine z_getf kF_X5_21 O dX5_mercyLeft_34 fO.1 rfl ?_
          obtain ⟨hO8, _⟩ := id fS
          refine z_getf kF_X5_115 O dX5_mercyLeft_37 hO8.1 rfl ?_
          refine z_aload_n 0 O dX5_mercyLeft_40 rfl ?_
          have hWo9 := hWs.at (e := (G (at_ w 0) - 1)) (by omega) (by omega)
          refine z_getf kF_X5_172 O dX5_mercyLeft_41 hWo9.1 rfl ?_
          refine z_isub O dX5_mercyLeft_44 ?_
          refine z_mmax (List.mem_of_getElem? (i := 856) (by decide +kernel)) O dX5_mercyLeft_45 (by decide) (Nat.le_of_ble_eq_true rfl) (by omega) (by omega) ⟨by omega, by omega⟩ ⟨by omega, by omega⟩ ?_
          refine z_iconst 1 O dX5_mercyLeft_48 (by decide +kernel) ?_
          refine z_iadd O dX5_mercyLeft_49 ?_
          exact z_ireti O dX5_mercyLeft_50 rfl (by omega) (by omega) hpo (by unfold vMl; first | (rw [if_pos (sOp_t.mpr ⟨by omega, by omega⟩), if_pos (sCb_t.mpr ⟨by omega, by omega⟩)]; (split <;> omega)) | (rw [if_neg (fun q => by have := sOp_t.mp q; omega)]) | (rw [if_pos (sOp_t.mpr ⟨by omega, by omega⟩), if_neg (fun q => by have := sCb_t.mp q; omega)])) (⟨(by unfold cWw; (repeat first | rw [if_pos (by omega)] | rw [if_neg (by omega)])), rfl⟩)
        · skip
          refine z_iconst (-1) O dX5_mercyLeft_30 (by decide +kernel) ?_
          exact z_ireti O dX5_mercyLeft_31 rfl (by omega) (by omega) hpo (by unfold vMl; first | (rw [if_pos (sOp_t.mpr ⟨by omega, by omega⟩), if_pos (sCb_t.mpr ⟨by omega, by omega⟩)]; (split <;> omega)) | (rw [if_neg (fun q => by have := sOp_t.mp q; omega)]) | (rw [if_pos (sOp_t.mpr ⟨by omega, by omega⟩), if_neg (fun q => by have := sCb_t.mp q; omega)])) (⟨(by unfold cWw; (repeat first | rw [if_pos (by omega)] | rw [if_neg (by omega)])), rfl⟩)
    · skip
      obtain ⟨hk11, _⟩ := zSt_w fS.2.2.2.2 hw
      obtain ⟨_, _, _, _, hO10, _⟩ := id hk11
      refine z_Vr [] [] kM_X5_238 O dX5_mercyLeft_7 (by have c := c_X4_innermost hst hWk; rw [if_neg hd2] at c; exact c) rfl rfl hO10.1 (by decide) (Nat.le_of_ble_eq_true rfl) (by omega) (by omega) (Nat.le_of_ble_eq_true rfl) zNx ?_
      refine z_astore_nN [(3, .null), (2, .ref (a (0 + 6 + 16 * w.toNat))), (0, .ref (a 1200)), (1, .int (iI w))] O dX5_mercyLeft_10 (by decide) rfl ?_
      refine z_aload_nN 0 O dX5_mercyLeft_11 rfl ?_
      refine z_ifnullN 30 O dX5_mercyLeft_12 (by decide) ?_
      refine z_iconst (-1) O dX5_mercyLeft_30 (by decide +kernel) ?_
      exact z_ireti O dX5_mercyLeft_31 rfl (by omega) (by omega) hpo (by unfold vMl; first | (rw [if_pos (sOp_t.mpr ⟨by omega, by omega⟩), if_pos (sCb_t.mpr ⟨by omega, by omega⟩)]; (split <;> omega)) | (rw [if_neg (fun q => by have := sOp_t.mp q; omega)]) | (rw [if_pos (sOp_t.mpr ⟨by omega, by omega⟩), if_neg (fun q => by have := sCb_t.mp q; omega)])) (⟨(by unfold cWw; (repeat first | rw [if_pos (by omega)] | rw [if_neg (by omega)])), rfl⟩)
  · skip
    exact z_Vrm [.int (iI w)] [] kM_X5_140 O dX5_mercyLeft_2 ((c_X5_existingWorkerN hst fO fS hG hzw hd1).to (post' := zRr none (fun _ => False)) (fun _ _ hh => hh.elim) (fun _ _ hh => hh)) rfl rfl fO.1 (by decide) (Nat.le_of_ble_eq_true rfl) (by omega) (by omega) (Nat.le_of_ble_eq_true rfl) (fun X H1 hh => by rw [hpx]; exact ⟨Or.inl ⟨(by unfold cWw; (repeat first | rw [if_pos (by omega)] | rw [if_neg (by omega)])), hh.1⟩, hh.2⟩) (fun H1 hp hz => hp.elim)

theorem c_X5_append {E : zE} (hst : E.1.stackTraces = false) {H : Heap} {r : zH} {a : Nat → Nat} {n : Int} {tx G : Int → Int} {fi ac : Int} {dd : Nat → Int → Int} {kp ik : Int → Int} {N : Int} {v : Int} (h : zCm E H r a n tx G fi ac dd kp ik) (hOK : cOK n tx G fi ac dd kp ik N) (hzv : zR v) : zC E yX5_append cX5_append 2 (some .int) 6 91 [.ref (a 1200), .int (iI v)] H 1 6 (zRi (n + 1) (fun H1 => cApp n v = 0 ∧ zCp E H r a (n + 1) (zU tx n v) G fi ac dd kp ik H1)) (zXc (cApp n v) xA xS "" H) := by
  refine zC.of2 (by decide) (Nat.le_of_ble_eq_true rfl) hst ?_
  intro x O hE hpo hpx hH
  subst hE
  change zG x H 0 0 0 [(0, .ref (a 1200)), (1, .int (iI v))] []
  obtain ⟨nx, fl, F, sf, KS, hfw, hhr, hkr⟩ := id h
  obtain ⟨fO, fT, fcap, fS, ⟨S, fC⟩, fH, fQ, fL, fZ⟩ := id hfw
  obtain ⟨⟨hn, hx, hG, hN, hfi, hac, hik⟩, hdd, hkk⟩ := hOK
  refine z_iload_n 1 O dX5_append_0 rfl ?_
  refine z_if_lt 11 O dX5_append_1 (by decide) ⟨by omega, by omega⟩ (fun c_1 => ?_) (fun c_1 => ?_)
  · skip
    exact z_throwX kT_43_45_47 O dX5_append_11 dX5_append_14 dX5_append_15 dX5_append_17 dX5_append_20 (by decide) (Nat.le_of_ble_eq_true rfl) (by omega) (by omega) (fun H1 hs1 hz1 hz2 => by rw [hH] at hz1 hz2; rw [hpx]; exact ⟨Or.inl ⟨(by unfold cApp; (repeat first | rw [if_pos (by omega)] | rw [if_neg (by omega)])), rfl⟩, hs1, hz1, hz2⟩)
  · skip
    refine z_iload_n 1 O dX5_append_4 rfl ?_
    refine z_sipush 255 O dX5_append_5 (by decide +kernel) ?_
    refine z_icmp_le 21 O dX5_append_8 (by decide) ⟨by omega, by omega⟩ ⟨by omega, by omega⟩ (fun c_8 => ?_) (fun c_8 => ?_)
    · skip
      refine z_aload_n 0 O dX5_append_21 rfl ?_
      refine z_getf kF_X5_14 O dX5_append_22 fO.1 rfl ?_
      obtain ⟨it1, hRo2⟩ := fT.o
      refine z_getf kF_X5_50 O dX5_append_25 hRo2.1 rfl ?_
      refine z_bipush 120 O dX5_append_28 (by decide +kernel) ?_
      refine z_icmp_lt 43 O dX5_append_30 (by decide) ⟨by omega, by omega⟩ ⟨by omega, by omega⟩ (fun c_30 => ?_) (fun c_30 => ?_)
      · skip
        refine z_aload_n 0 O dX5_append_43 rfl ?_
        refine z_getf kF_X5_14 O dX5_append_44 fO.1 rfl ?_
        refine z_iload_n 1 O dX5_append_47 rfl ?_
        obtain ⟨it3, hRo4⟩ := fT.o
        refine z_Vvm [.int (iI v)] [] kM_X5_59 O dX5_append_48 (c_X1_pushN hst fT (by rw [fcap]; omega)) rfl rfl hRo4.1 (by decide) (Nat.le_of_ble_eq_true rfl) (by omega) (by omega) (Nat.le_of_ble_eq_true rfl) zNx (fun H5 hp6 hz7 => ?_)
        obtain ⟨hf8, hr9⟩ := hp6
        have fO10 := fO.fr hf8 (by first | exact (fun h => h) | exact zT1 (by omega) | (show ¬ (_ ∨ _); omega) | (show ¬ (_ ∧ _); omega))
        have fS11 := fS.fr hf8 (fun s h1 h2 => by first | exact (fun h => h) | exact zT1 (by omega) | (show ¬ (_ ∨ _); omega) | (show ¬ (_ ∧ _); omega) | (show ¬ (_ < _); omega))
        have fC12 := fC.fr hf8 (fun s h1 h2 => by first | exact (fun h => h) | exact zT1 (by omega) | (show ¬ (_ ∨ _); omega) | (show ¬ (_ ∧ _); omega) | (show ¬ (_ < _); omega))
        have fH13 := fH.fr hf8 (fun s h1 => by first | exact (fun h => h) | exact zT1 (by omega) | (show ¬ (_ ∨ _); omega) | (show ¬ (_ ∧ _); omega) | (show ¬ (_ < _); omega))
        have fQ14 := fQ.fr hf8 (by first | exact (fun h => h) | exact zT1 (by omega) | (show ¬ (_ ∨ _); omega) | (show ¬ (_ ∧ _); omega))
        have fL15 := fL.fr hf8 (fun s h1 h2 => by first | exact (fun h => h) | exact zT1 (by omega) | (show ¬ (_ ∨ _); omega) | (show ¬ (_ ∧ _); omega) | (show ¬ (_ < _); omega))
        have fZ16 := fZ.fr hf8 (by first | exact (fun h => h) | exact zT1 (by omega) | (show ¬ (_ ∨ _); omega) | (show ¬ (_ ∧ _); omega))
        refine z_aload_n 0 O dX5_append_51 rfl ?_
        refine z_getf kF_X5_14 O dX5_append_52 fO10.1 rfl ?_
        obtain ⟨it17, hRo18⟩ := hr9.o
        refine z_getf kF_X5_50 O dX5_append_55 hRo18.1 rfl ?_
        refine z_meter (fun hc1 hc2 => ?_)
        rw [hH] at hc1 hc2
        have hgv : zGv H r H5 r := by unfold zGv zPs; omega
        exact z_ireti O dX5_append_58 rfl (by omega) (by omega) hpo (by rfl) (⟨(by unfold cApp; (repeat first | rw [if_pos (by omega)] | rw [if_neg (by omega)])), r, a, rfl, (hf8.up (fun s h => by first | exact h.elim | (show _ < _; omega) | omega | (simp at h ⊢; omega))), hgv, nx, fl, F, sf, KS, (zFw.mk (fun _ _ => rfl) fO10 hr9 fcap fS11 fC12 fH13 fQ14 fL15 fZ16), hhr, hkr⟩)
      · skip
        exact z_throwX kT_54_56_58 O dX5_append_33 dX5_append_36 dX5_append_37 dX5_append_39 dX5_append_42 (by decide) (Nat.le_of_ble_eq_true rfl) (by omega) (by omega) (fun H1 hs1 hz1 hz2 => by rw [hH] at hz1 hz2; rw [hpx]; exact ⟨Or.inr (Or.inl ⟨(by unfold cApp; (repeat first | rw [if_pos (by omega)] | rw [if_neg (by omega)])), rfl⟩), hs1, hz1, hz2⟩)
    · skip
      exact z_throwX kT_43_45_47 O dX5_append_11 dX5_append_14 dX5_append_15 dX5_append_17 dX5_append_20 (by decide) (Nat.le_of_ble_eq_true rfl) (by omega) (by omega) (fun H1 hs1 hz1 hz2 => by rw [hH] at hz1 hz2; rw [hpx]; exact ⟨Or.inl ⟨(by unfold cApp; (repeat first | rw [if_pos (by omega)] | rw [if_neg (by omega)])), rfl⟩, hs1, hz1, hz2⟩)

theorem c_X5_clearText {E : zE} (hst : E.1.stackTraces = false) {H : Heap} {r : zH} {a : Nat → Nat} {n : Int} {tx G : Int → Int} {fi ac : Int} {dd : Nat → Int → Int} {kp ik : Int → Int} {N : Int} (h : zCm E H r a n tx G fi ac dd kp ik) (hOK : cOK n tx G fi ac dd kp ik N) : zC E yX5_clearText cX5_clearText 2 (some .int) 1 21 [.ref (a 1200)] H 0 0 (zRi n (fun H1 => cNo = 0 ∧ zCp E H r a 0 tx G fi ac dd kp ik H1)) zN := by
  refine zC.of2 (by decide) (Nat.le_of_ble_eq_true rfl) hst ?_
  intro x O hE hpo hpx hH
  subst hE
  change zG x H 0 0 0 [(0, .ref (a 1200))] []
  obtain ⟨nx, fl, F, sf, KS, hfw, hhr, hkr⟩ := id h
  obtain ⟨fO, fT, fcap, fS, ⟨S, fC⟩, fH, fQ, fL, fZ⟩ := id hfw
  obtain ⟨⟨hn, hx, hG, hN, hfi, hac, hik⟩, hdd, hkk⟩ := hOK
  refine z_aload_n 0 O dX5_clearText_0 rfl ?_
  refine z_getf kF_X5_14 O dX5_clearText_1 fO.1 rfl ?_
  obtain ⟨it1, hRo2⟩ := fT.o
  refine z_getf kF_X5_50 O dX5_clearText_4 hRo2.1 rfl ?_
  refine z_istore_n [(1, .int (iI n)), (0, .ref (a 1200))] O dX5_clearText_7 (by decide) rfl ?_
  refine z_aload_n 1 O dX5_clearText_8 rfl ?_
  refine z_getf kF_X5_14 O dX5_clearText_9 fO.1 rfl ?_
  refine z_iconst 0 O dX5_clearText_12 (by decide +kernel) ?_
  obtain ⟨it3, hRo4⟩ := fT.o
  refine z_Vvm [.int (iI 0)] [] kM_X5_63 O dX5_clearText_13 (c_X1_cutTo hst fT ⟨by omega, by omega⟩) rfl rfl hRo4.1 (by decide) (Nat.le_of_ble_eq_true rfl) (by omega) (by omega) (Nat.le_of_ble_eq_true rfl) zNx (fun H5 hp6 hz7 => ?_)
  obtain ⟨hf8, hr9⟩ := hp6
  have hR10 : zRow (zEn x) H5 r 1202 (a 1202) 120 0 tx := by rw [show zRc n 0 = 0 from (by unfold zRc; split <;> omega)] at hr9; exact hr9
  have fO11 := fO.fr hf8 (by first | exact (fun h => h) | exact zT1 (by omega) | (show ¬ (_ ∨ _); omega) | (show ¬ (_ ∧ _); omega))
  have fS12 := fS.fr hf8 (fun s h1 h2 => by first | exact (fun h => h) | exact zT1 (by omega) | (show ¬ (_ ∨ _); omega) | (show ¬ (_ ∧ _); omega) | (show ¬ (_ < _); omega))
  have fC13 := fC.fr hf8 (fun s h1 h2 => by first | exact (fun h => h) | exact zT1 (by omega) | (show ¬ (_ ∨ _); omega) | (show ¬ (_ ∧ _); omega) | (show ¬ (_ < _); omega))
  have fH14 := fH.fr hf8 (fun s h1 => by first | exact (fun h => h) | exact zT1 (by omega) | (show ¬ (_ ∨ _); omega) | (show ¬ (_ ∧ _); omega) | (show ¬ (_ < _); omega))
  have fQ15 := fQ.fr hf8 (by first | exact (fun h => h) | exact zT1 (by omega) | (show ¬ (_ ∨ _); omega) | (show ¬ (_ ∧ _); omega))
  have fL16 := fL.fr hf8 (fun s h1 h2 => by first | exact (fun h => h) | exact zT1 (by omega) | (show ¬ (_ ∨ _); omega) | (show ¬ (_ ∧ _); omega) | (show ¬ (_ < _); omega))
  have fZ17 := fZ.fr hf8 (by first | exact (fun h => h) | exact zT1 (by omega) | (show ¬ (_ ∨ _); omega) | (show ¬ (_ ∧ _); omega))
  have fcap18 := (hf8.2.2.2 1203 (by first | exact (fun h => h) | exact zT1 (by omega) | (show ¬ (_ ∨ _); omega) | (show ¬ (_ ∧ _); omega))).trans fcap
  refine z_iload_n 0 O dX5_clearText_16 rfl ?_
  refine z_meter (fun hc1 hc2 => ?_)
  rw [hH] at hc1 hc2
  have hgv : zGv H r H5 r := by unfold zGv zPs; omega
  exact z_ireti O dX5_clearText_17 rfl (by omega) (by omega) hpo (by rfl) (⟨rfl, r, a, rfl, (hf8.up (fun s h => by first | exact h.elim | (show _ < _; omega) | omega | (simp at h ⊢; omega))), hgv, nx, fl, F, sf, KS, (zFw.mk (fun _ _ => rfl) fO11 hR10 fcap18 fS12 fC13 fH14 fQ15 fL16 fZ17), hhr, hkr⟩)

