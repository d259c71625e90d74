/-! the class: reading the text (written by program: wip/whole/gen/class26.py) -/
theorem zLn_0 : ∀ i : Nat, i < 6 → zLn i = 0 → i = 5 := by decide
theorem zLn_5 : ∀ i : Nat, i < 6 → i ≠ 5 → zLn i ≠ 0 := by decide
theorem zLc_s : ∀ i : Nat, i < 6 → ∀ k : Nat, k < zLn i → zLc i k = 119 ∨ zLc i k = 67 ∨ zLc i k = 99 ∨ zLc i k = 68 ∨ zLc i k = 100 ∨ zLc i k = 110 ∨ zLc i k = 105 ∨ zLc i k = 109 := by decide
theorem c_X5_shapeOf {E : zE} (hst : E.1.stackTraces = false) {H : Heap} {c : Int} (hz : zR c) : zC E yX5_shapeOf cX5_shapeOf 1 (some (.object "java/lang/String")) 0 0 [.int (iI c)] H 0 0 (zRr (some (zAs E (sHi c))) (zSm H)) zN := by
  refine zC.of (by decide) (Nat.le_of_ble_eq_true rfl) hst ?_
  intro x O hE hpo hpx
  subst hE
  change zG x H 0 0 0 [(0, .int (iI c))] []
  refine z_iload_n 0 O dX5_shapeOf_0 rfl ?_
  rcases (show c = 98 ∨ c = 99 ∨ c = 100 ∨ c = 101 ∨ c = 102 ∨ c = 103 ∨ c = 104 ∨ c = 105 ∨ c = 106 ∨ c = 107 ∨ c = 108 ∨ c = 109 ∨ c = 110 ∨ c = 111 ∨ c = 112 ∨ c = 113 ∨ c = 114 ∨ c = 115 ∨ (c < 98 ∨ 115 < c) by omega) with c_1 | c_1 | c_1 | c_1 | c_1 | c_1 | c_1 | c_1 | c_1 | c_1 | c_1 | c_1 | c_1 | c_1 | c_1 | c_1 | c_1 | c_1 | c_1
  · skip
    refine z_tsw 0 88 O dX5_shapeOf_1 ⟨by omega, by omega⟩ (by omega) (by decide) rfl (by decide) ?_
    refine z_ldcSw (i := 0) (by decide) rfl O dX5_shapeOf_88 ?_
    exact z_iretr O dX5_shapeOf_91 rfl (by first | exact Or.inl ⟨_, rfl⟩ | exact Or.inr ⟨_, rfl⟩) (by omega) (by omega) hpo (by rw [show sHi c = 0 from by unfold sHi; (repeat first | rw [if_pos (by omega)] | rw [if_neg (by omega)])]) (rfl)
  · skip
    refine z_tsw 1 108 O dX5_shapeOf_1 ⟨by omega, by omega⟩ (by omega) (by decide) rfl (by decide) ?_
    refine z_ldcSw (i := 5) (by decide) rfl O dX5_shapeOf_108 ?_
    exact z_iretr O dX5_shapeOf_111 rfl (by first | exact Or.inl ⟨_, rfl⟩ | exact Or.inr ⟨_, rfl⟩) (by omega) (by omega) hpo (by rw [show sHi c = 5 from by unfold sHi; (repeat first | rw [if_pos (by omega)] | rw [if_neg (by omega)])]) (rfl)
  · skip
    refine z_tsw 2 88 O dX5_shapeOf_1 ⟨by omega, by omega⟩ (by omega) (by decide) rfl (by decide) ?_
    refine z_ldcSw (i := 0) (by decide) rfl O dX5_shapeOf_88 ?_
    exact z_iretr O dX5_shapeOf_91 rfl (by first | exact Or.inl ⟨_, rfl⟩ | exact Or.inr ⟨_, rfl⟩) (by omega) (by omega) hpo (by rw [show sHi c = 0 from by unfold sHi; (repeat first | rw [if_pos (by omega)] | rw [if_neg (by omega)])]) (rfl)
  · skip
    refine z_tsw 3 108 O dX5_shapeOf_1 ⟨by omega, by omega⟩ (by omega) (by decide) rfl (by decide) ?_
    refine z_ldcSw (i := 5) (by decide) rfl O dX5_shapeOf_108 ?_
    exact z_iretr O dX5_shapeOf_111 rfl (by first | exact Or.inl ⟨_, rfl⟩ | exact Or.inr ⟨_, rfl⟩) (by omega) (by omega) hpo (by rw [show sHi c = 5 from by unfold sHi; (repeat first | rw [if_pos (by omega)] | rw [if_neg (by omega)])]) (rfl)
  · skip
    refine z_tsw 4 88 O dX5_shapeOf_1 ⟨by omega, by omega⟩ (by omega) (by decide) rfl (by decide) ?_
    refine z_ldcSw (i := 0) (by decide) rfl O dX5_shapeOf_88 ?_
    exact z_iretr O dX5_shapeOf_91 rfl (by first | exact Or.inl ⟨_, rfl⟩ | exact Or.inr ⟨_, rfl⟩) (by omega) (by omega) hpo (by rw [show sHi c = 0 from by unfold sHi; (repeat first | rw [if_pos (by omega)] | rw [if_neg (by omega)])]) (rfl)
  · skip
    refine z_tsw 5 96 O dX5_shapeOf_1 ⟨by omega, by omega⟩ (by omega) (by decide) rfl (by decide) ?_
    refine z_ldcSw (i := 2) (by decide) rfl O dX5_shapeOf_96 ?_
    exact z_iretr O dX5_shapeOf_99 rfl (by first | exact Or.inl ⟨_, rfl⟩ | exact Or.inr ⟨_, rfl⟩) (by omega) (by omega) hpo (by rw [show sHi c = 2 from by unfold sHi; (repeat first | rw [if_pos (by omega)] | rw [if_neg (by omega)])]) (rfl)
  · skip
    refine z_tsw 6 108 O dX5_shapeOf_1 ⟨by omega, by omega⟩ (by omega) (by decide) rfl (by decide) ?_
    refine z_ldcSw (i := 5) (by decide) rfl O dX5_shapeOf_108 ?_
    exact z_iretr O dX5_shapeOf_111 rfl (by first | exact Or.inl ⟨_, rfl⟩ | exact Or.inr ⟨_, rfl⟩) (by omega) (by omega) hpo (by rw [show sHi c = 5 from by unfold sHi; (repeat first | rw [if_pos (by omega)] | rw [if_neg (by omega)])]) (rfl)
  · skip
    refine z_tsw 7 108 O dX5_shapeOf_1 ⟨by omega, by omega⟩ (by omega) (by decide) rfl (by decide) ?_
    refine z_ldcSw (i := 5) (by decide) rfl O dX5_shapeOf_108 ?_
    exact z_iretr O dX5_shapeOf_111 rfl (by first | exact Or.inl ⟨_, rfl⟩ | exact Or.inr ⟨_, rfl⟩) (by omega) (by omega) hpo (by rw [show sHi c = 5 from by unfold sHi; (repeat first | rw [if_pos (by omega)] | rw [if_neg (by omega)])]) (rfl)
  · skip
    refine z_tsw 8 108 O dX5_shapeOf_1 ⟨by omega, by omega⟩ (by omega) (by decide) rfl (by decide) ?_
    refine z_ldcSw (i := 5) (by decide) rfl O dX5_shapeOf_108 ?_
    exact z_iretr O dX5_shapeOf_111 rfl (by first | exact Or.inl ⟨_, rfl⟩ | exact Or.inr ⟨_, rfl⟩) (by omega) (by omega) hpo (by rw [show sHi c = 5 from by unfold sHi; (repeat first | rw [if_pos (by omega)] | rw [if_neg (by omega)])]) (rfl)
  · skip
    refine z_tsw 9 108 O dX5_shapeOf_1 ⟨by omega, by omega⟩ (by omega) (by decide) rfl (by decide) ?_
    refine z_ldcSw (i := 5) (by decide) rfl O dX5_shapeOf_108 ?_
    exact z_iretr O dX5_shapeOf_111 rfl (by first | exact Or.inl ⟨_, rfl⟩ | exact Or.inr ⟨_, rfl⟩) (by omega) (by omega) hpo (by rw [show sHi c = 5 from by unfold sHi; (repeat first | rw [if_pos (by omega)] | rw [if_neg (by omega)])]) (rfl)
  · skip
    refine z_tsw 10 108 O dX5_shapeOf_1 ⟨by omega, by omega⟩ (by omega) (by decide) rfl (by decide) ?_
    refine z_ldcSw (i := 5) (by decide) rfl O dX5_shapeOf_108 ?_
    exact z_iretr O dX5_shapeOf_111 rfl (by first | exact Or.inl ⟨_, rfl⟩ | exact Or.inr ⟨_, rfl⟩) (by omega) (by omega) hpo (by rw [show sHi c = 5 from by unfold sHi; (repeat first | rw [if_pos (by omega)] | rw [if_neg (by omega)])]) (rfl)
  · skip
    refine z_tsw 11 104 O dX5_shapeOf_1 ⟨by omega, by omega⟩ (by omega) (by decide) rfl (by decide) ?_
    refine z_ldcSw (i := 4) (by decide) rfl O dX5_shapeOf_104 ?_
    exact z_iretr O dX5_shapeOf_107 rfl (by first | exact Or.inl ⟨_, rfl⟩ | exact Or.inr ⟨_, rfl⟩) (by omega) (by omega) hpo (by rw [show sHi c = 4 from by unfold sHi; (repeat first | rw [if_pos (by omega)] | rw [if_neg (by omega)])]) (rfl)
  · skip
    refine z_tsw 12 108 O dX5_shapeOf_1 ⟨by omega, by omega⟩ (by omega) (by decide) rfl (by decide) ?_
    refine z_ldcSw (i := 5) (by decide) rfl O dX5_shapeOf_108 ?_
    exact z_iretr O dX5_shapeOf_111 rfl (by first | exact Or.inl ⟨_, rfl⟩ | exact Or.inr ⟨_, rfl⟩) (by omega) (by omega) hpo (by rw [show sHi c = 5 from by unfold sHi; (repeat first | rw [if_pos (by omega)] | rw [if_neg (by omega)])]) (rfl)
  · skip
    refine z_tsw 13 108 O dX5_shapeOf_1 ⟨by omega, by omega⟩ (by omega) (by decide) rfl (by decide) ?_
    refine z_ldcSw (i := 5) (by decide) rfl O dX5_shapeOf_108 ?_
    exact z_iretr O dX5_shapeOf_111 rfl (by first | exact Or.inl ⟨_, rfl⟩ | exact Or.inr ⟨_, rfl⟩) (by omega) (by omega) hpo (by rw [show sHi c = 5 from by unfold sHi; (repeat first | rw [if_pos (by omega)] | rw [if_neg (by omega)])]) (rfl)
  · skip
    refine z_tsw 14 88 O dX5_shapeOf_1 ⟨by omega, by omega⟩ (by omega) (by decide) rfl (by decide) ?_
    refine z_ldcSw (i := 0) (by decide) rfl O dX5_shapeOf_88 ?_
    exact z_iretr O dX5_shapeOf_91 rfl (by first | exact Or.inl ⟨_, rfl⟩ | exact Or.inr ⟨_, rfl⟩) (by omega) (by omega) hpo (by rw [show sHi c = 0 from by unfold sHi; (repeat first | rw [if_pos (by omega)] | rw [if_neg (by omega)])]) (rfl)
  · skip
    refine z_tsw 15 108 O dX5_shapeOf_1 ⟨by omega, by omega⟩ (by omega) (by decide) rfl (by decide) ?_
    refine z_ldcSw (i := 5) (by decide) rfl O dX5_shapeOf_108 ?_
    exact z_iretr O dX5_shapeOf_111 rfl (by first | exact Or.inl ⟨_, rfl⟩ | exact Or.inr ⟨_, rfl⟩) (by omega) (by omega) hpo (by rw [show sHi c = 5 from by unfold sHi; (repeat first | rw [if_pos (by omega)] | rw [if_neg (by omega)])]) (rfl)
  · skip
    refine z_tsw 16 100 O dX5_shapeOf_1 ⟨by omega, by omega⟩ (by omega) (by decide) rfl (by decide) ?_
    refine z_ldcSw (i := 3) (by decide) rfl O dX5_shapeOf_100 ?_
    exact z_iretr O dX5_shapeOf_103 rfl (by first | exact Or.inl ⟨_, rfl⟩ | exact Or.inr ⟨_, rfl⟩) (by omega) (by omega) hpo (by rw [show sHi c = 3 from by unfold sHi; (repeat first | rw [if_pos (by omega)] | rw [if_neg (by omega)])]) (rfl)
  · skip
    refine z_tsw 17 92 O dX5_shapeOf_1 ⟨by omega, by omega⟩ (by omega) (by decide) rfl (by decide) ?_
    refine z_ldcSw (i := 1) (by decide) rfl O dX5_shapeOf_92 ?_
    exact z_iretr O dX5_shapeOf_95 rfl (by first | exact Or.inl ⟨_, rfl⟩ | exact Or.inr ⟨_, rfl⟩) (by omega) (by omega) hpo (by rw [show sHi c = 1 from by unfold sHi; (repeat first | rw [if_pos (by omega)] | rw [if_neg (by omega)])]) (rfl)
  · skip
    refine z_tswO 108 O dX5_shapeOf_1 ⟨by omega, by omega⟩ c_1 (by decide) ?_
    refine z_ldcSw (i := 5) (by decide) rfl O dX5_shapeOf_108 ?_
    exact z_iretr O dX5_shapeOf_111 rfl (by first | exact Or.inl ⟨_, rfl⟩ | exact Or.inr ⟨_, rfl⟩) (by omega) (by omega) hpo (by rw [show sHi c = 5 from by unfold sHi; (repeat first | rw [if_pos (by omega)] | rw [if_neg (by omega)])]) (rfl)

theorem c_X5_digitAt {E : zE} (hst : E.1.stackTraces = false) {H : Heap} {r : zH} {a : Nat → Nat} {n : Int} {tx : Int → Int} {p : Int} (fO : zO E H r 1200 (a 1200) 5 [.ref (a 1202), .ref (a 0), .ref (a 64), .ref (a 1204), .ref (a 1206), .ref (a 1207)]) (fT : zRow E H r 1202 (a 1202) 120 n tx) (hx : ∀ j : Int, 0 ≤ j → j < n → 0 ≤ tx j ∧ tx j ≤ 255) (hz : -10 ≤ p ∧ p ≤ 1000) : zC E yX5_digitAt cX5_digitAt 2 (some .int) 1 21 [.ref (a 1200), .int (iI p)] H 0 0 (zRi (dG n tx p) (zSm H)) zN := by
  refine zC.of (by decide) (Nat.le_of_ble_eq_true rfl) hst ?_
  intro x O hE hpo hpx
  subst hE
  change zG x H 0 0 0 [(0, .ref (a 1200)), (1, .int (iI p))] []
  refine z_aload_n 0 O dX5_digitAt_0 rfl ?_
  refine z_getf kF_X5_14 O dX5_digitAt_1 fO.1 rfl ?_
  refine z_iload_n 1 O dX5_digitAt_4 rfl ?_
  obtain ⟨it1, hRo2⟩ := fT.o
  refine z_Vi [.int (iI p)] [] kM_X5_66 O dX5_digitAt_5 (c_X1_get hst fT ⟨by omega, by omega⟩) rfl rfl hRo2.1 (by decide) (Nat.le_of_ble_eq_true rfl) (by omega) (by omega) (Nat.le_of_ble_eq_true rfl) zNx ?_
  refine z_bipush 48 O dX5_digitAt_8 (by decide +kernel) ?_
  refine z_isub O dX5_digitAt_10 ?_
  exact z_ireti O dX5_digitAt_11 rfl (by omega) (by omega) hpo (by rfl) (rfl)

theorem c_X5_numberAt {E : zE} (hst : E.1.stackTraces = false) {H : Heap} {r : zH} {a : Nat → Nat} {n : Int} {tx : Int → Int} {p : Int} (fO : zO E H r 1200 (a 1200) 5 [.ref (a 1202), .ref (a 0), .ref (a 64), .ref (a 1204), .ref (a 1206), .ref (a 1207)]) (fT : zRow E H r 1202 (a 1202) 120 n tx) (hx : ∀ j : Int, 0 ≤ j → j < n → 0 ≤ tx j ∧ tx j ≤ 255) (hz : -9 ≤ p ∧ p ≤ 900) : zC E yX5_numberAt cX5_numberAt 2 (some .int) 2 42 [.ref (a 1200), .int (iI p)] H 0 0 (zRi (nG n tx p) (zSm H)) zN := by
  refine zC.of (by decide) (Nat.le_of_ble_eq_true rfl) hst ?_
  intro x O hE hpo hpx
  subst hE
  change zG x H 0 0 0 [(0, .ref (a 1200)), (1, .int (iI p))] []
  refine z_bipush 10 O dX5_numberAt_0 (by decide +kernel) ?_
  refine z_aload_n 0 O dX5_numberAt_2 rfl ?_
  refine z_iload_n 1 O dX5_numberAt_3 rfl ?_
  refine z_Vi [.int (iI p)] [.int (iI 10)] kM_X5_321 O dX5_numberAt_4 (c_X5_digitAt hst fO fT hx (p := p) ⟨by omega, by omega⟩) rfl rfl fO.1 (by decide) (Nat.le_of_ble_eq_true rfl) (by omega) (by omega) (Nat.le_of_ble_eq_true rfl) zNx ?_
  refine z_imul O dX5_numberAt_7 ?_
  refine z_aload_n 0 O dX5_numberAt_8 rfl ?_
  refine z_iload_n 1 O dX5_numberAt_9 rfl ?_
  refine z_iconst 1 O dX5_numberAt_10 (by decide +kernel) ?_
  refine z_iadd O dX5_numberAt_11 ?_
  refine z_Vi [.int (iI (p + 1))] [.int (iI (10 * (dG n tx p)))] kM_X5_321 O dX5_numberAt_12 (c_X5_digitAt hst fO fT hx (p := p + 1) ⟨by omega, by omega⟩) rfl rfl fO.1 (by decide) (Nat.le_of_ble_eq_true rfl) (by omega) (by omega) (Nat.le_of_ble_eq_true rfl) zNx ?_
  refine z_iadd O dX5_numberAt_15 ?_
  exact z_ireti O dX5_numberAt_16 rfl (by omega) (by omega) hpo (by rfl) (rfl)

theorem c_X5_fits {E : zE} (hst : E.1.stackTraces = false) {H : Heap} {r : zH} {a : Nat → Nat} {n : Int} {tx : Int → Int} {c p : Int} (fO : zO E H r 1200 (a 1200) 5 [.ref (a 1202), .ref (a 0), .ref (a 64), .ref (a 1204), .ref (a 1206), .ref (a 1207)]) (fT : zRow E H r 1202 (a 1202) 120 n tx) (hx : ∀ j : Int, 0 ≤ j → j < n → 0 ≤ tx j ∧ tx j ≤ 255) (hz : 0 ≤ p ∧ p ≤ 800) (hc : c = 119 ∨ c = 67 ∨ c = 99 ∨ c = 68 ∨ c = 100 ∨ c = 110 ∨ c = 105 ∨ c = 109) : zC E yX5_fits cX5_fits 4 (some .boolean) 3 63 [.ref (a 1200), .int (iI c), .int (iI p)] H 0 0 (zRi (zb (fTx n tx c p)) (zSm H)) zN := by
  refine zC.of (by decide) (Nat.le_of_ble_eq_true rfl) hst ?_
  intro x O hE hpo hpx
  subst hE
  change zG x H 0 0 0 [(0, .ref (a 1200)), (1, .int (iI c)), (2, .int (iI p))] []
  have hd := dG_R (p := p) hx
  have hd1 := dG_R (p := p - 1) hx
  have hd2 : -1000 ≤ nG n tx (p - 1) ∧ nG n tx (p - 1) ≤ 3000 := by unfold nG; have := dG_R (p := p - 1 + 1) hx; omega
  refine z_aload_n 0 O dX5_fits_0 rfl ?_
  refine z_iload_n 2 O dX5_fits_1 rfl ?_
  refine z_Vi [.int (iI p)] [] kM_X5_321 O dX5_fits_2 (c_X5_digitAt hst fO fT hx (p := p) ⟨by omega, by omega⟩) rfl rfl fO.1 (by decide) (Nat.le_of_ble_eq_true rfl) (by omega) (by omega) (Nat.le_of_ble_eq_true rfl) zNx ?_
  refine z_istore_n [(3, .int (iI (dG n tx p))), (0, .ref (a 1200)), (1, .int (iI c)), (2, .int (iI p))] O dX5_fits_5 (by decide) rfl ?_
  refine z_iload_n 0 O dX5_fits_6 rfl ?_
  refine z_if_lt 16 O dX5_fits_7 (by decide) ⟨by omega, by omega⟩ (fun c_7 => ?_) (fun c_7 => ?_)
  · skip
    refine z_iconst 0 O dX5_fits_16 (by decide +kernel) ?_
    exact z_iretb O dX5_fits_17 rfl (by omega) (by omega) hpo (by rw [show fTx n tx c p = false from if_neg (by omega)]; rfl) (rfl)
  · skip
    refine z_iload_n 0 O dX5_fits_10 rfl ?_
    refine z_bipush 9 O dX5_fits_11 (by decide +kernel) ?_
    refine z_icmp_le 18 O dX5_fits_13 (by decide) ⟨by omega, by omega⟩ ⟨by omega, by omega⟩ (fun c_13 => ?_) (fun c_13 => ?_)
    · skip
      refine z_iload_n 2 O dX5_fits_18 rfl ?_
      rcases hc with c_19 | c_19 | c_19 | c_19 | c_19 | c_19 | c_19 | c_19
      · skip
        refine z_lsw (off := 57) 76 O dX5_fits_19 ⟨by omega, by omega⟩ (by decide) (by rw [c_19]; decide) (by decide) ?_
        refine z_iload_n 0 O dX5_fits_76 rfl ?_
        refine z_iconst 3 O dX5_fits_77 (by decide +kernel) ?_
        refine z_icmp_ge 85 O dX5_fits_78 (by decide) ⟨by omega, by omega⟩ ⟨by omega, by omega⟩ (fun c_78 => ?_) (fun c_78 => ?_)
        · skip
          refine z_iconst 0 O dX5_fits_85 (by decide +kernel) ?_
          exact z_iretb O dX5_fits_86 rfl (by omega) (by omega) hpo (by rw [show fTx n tx c p = false from by unfold fTx; rw [c_19]; (repeat first | rw [if_pos (by omega)] | rw [if_neg (by omega)]); first | done | rfl | exact decide_eq_true (by omega) | exact decide_eq_false (by omega)]; rfl) (rfl)
        · skip
          refine z_iconst 1 O dX5_fits_81 (by decide +kernel) ?_
          refine z_goto 86 O dX5_fits_82 (by decide) ?_
          exact z_iretb O dX5_fits_86 rfl (by omega) (by omega) hpo (by rw [show fTx n tx c p = true from by unfold fTx; rw [c_19]; (repeat first | rw [if_pos (by omega)] | rw [if_neg (by omega)]); first | done | rfl | exact decide_eq_true (by omega) | exact decide_eq_false (by omega)]; rfl) (rfl)
      · skip
        refine z_lsw (off := 90) 109 O dX5_fits_19 ⟨by omega, by omega⟩ (by decide) (by rw [c_19]; decide) (by decide) ?_
        refine z_bipush 10 O dX5_fits_109 (by decide +kernel) ?_
        refine z_iload_n 0 O dX5_fits_111 rfl ?_
        refine z_imul O dX5_fits_112 ?_
        refine z_Si [.int (iI (10 * (dG n tx p)))] [] kM_X5_280 O dX5_fits_113 (c_X5_isCell hst ⟨by omega, by omega⟩) rfl rfl (by decide) (Nat.le_of_ble_eq_true rfl) (by omega) (by omega) (Nat.le_of_ble_eq_true rfl) zNx ?_
        exact z_iretb O dX5_fits_116 rfl (by omega) (by omega) hpo (by rw [show fTx n tx c p = (sBt (10 * (dG n tx p)) 0 15) from by unfold fTx; rw [c_19]; (repeat first | rw [if_pos (by omega)] | rw [if_neg (by omega)])]) (rfl)
      · skip
        refine z_lsw (off := 98) 117 O dX5_fits_19 ⟨by omega, by omega⟩ (by decide) (by rw [c_19]; decide) (by decide) ?_
        refine z_aload_n 1 O dX5_fits_117 rfl ?_
        refine z_iload_n 3 O dX5_fits_118 rfl ?_
        refine z_iconst 1 O dX5_fits_119 (by decide +kernel) ?_
        refine z_isub O dX5_fits_120 ?_
        refine z_Vi [.int (iI (p - 1))] [] kM_X5_324 O dX5_fits_121 (c_X5_numberAt hst fO fT hx (p := p - 1) ⟨by omega, by omega⟩) rfl rfl fO.1 (by decide) (Nat.le_of_ble_eq_true rfl) (by omega) (by omega) (Nat.le_of_ble_eq_true rfl) zNx ?_
        refine z_Si [.int (iI (nG n tx (p - 1)))] [] kM_X5_280 O dX5_fits_124 (c_X5_isCell hst ⟨by omega, by omega⟩) rfl rfl (by decide) (Nat.le_of_ble_eq_true rfl) (by omega) (by omega) (Nat.le_of_ble_eq_true rfl) zNx ?_
        exact z_iretb O dX5_fits_127 rfl (by omega) (by omega) hpo (by rw [show fTx n tx c p = (sBt (nG n tx (p - 1)) 0 15) from by unfold fTx; rw [c_19]; (repeat first | rw [if_pos (by omega)] | rw [if_neg (by omega)])]) (rfl)
      · skip
        refine z_lsw (off := 120) 139 O dX5_fits_19 ⟨by omega, by omega⟩ (by decide) (by rw [c_19]; decide) (by decide) ?_
        refine z_iconst 1 O dX5_fits_139 (by decide +kernel) ?_
        exact z_iretb O dX5_fits_140 rfl (by omega) (by omega) hpo (by rw [show fTx n tx c p = true from by unfold fTx; rw [c_19]; (repeat first | rw [if_pos (by omega)] | rw [if_neg (by omega)]); first | done | rfl | exact decide_eq_true (by omega) | exact decide_eq_false (by omega)]; rfl) (rfl)
      · skip
        refine z_lsw (off := 120) 139 O dX5_fits_19 ⟨by omega, by omega⟩ (by decide) (by rw [c_19]; decide) (by decide) ?_
        refine z_iconst 1 O dX5_fits_139 (by decide +kernel) ?_
        exact z_iretb O dX5_fits_140 rfl (by omega) (by omega) hpo (by rw [show fTx n tx c p = true from by unfold fTx; rw [c_19]; (repeat first | rw [if_pos (by omega)] | rw [if_neg (by omega)]); first | done | rfl | exact decide_eq_true (by omega) | exact decide_eq_false (by omega)]; rfl) (rfl)
      · skip
        refine z_lsw (off := 109) 128 O dX5_fits_19 ⟨by omega, by omega⟩ (by decide) (by rw [c_19]; decide) (by decide) ?_
        refine z_aload_n 1 O dX5_fits_128 rfl ?_
        refine z_iload_n 3 O dX5_fits_129 rfl ?_
        refine z_iconst 1 O dX5_fits_130 (by decide +kernel) ?_
        refine z_isub O dX5_fits_131 ?_
        refine z_Vi [.int (iI (p - 1))] [] kM_X5_324 O dX5_fits_132 (c_X5_numberAt hst fO fT hx (p := p - 1) ⟨by omega, by omega⟩) rfl rfl fO.1 (by decide) (Nat.le_of_ble_eq_true rfl) (by omega) (by omega) (Nat.le_of_ble_eq_true rfl) zNx ?_
        refine z_Si [.int (iI (nG n tx (p - 1)))] [] kM_X5_197 O dX5_fits_135 (c_X5_isRegretNumber hst ⟨by omega, by omega⟩) rfl rfl (by decide) (Nat.le_of_ble_eq_true rfl) (by omega) (by omega) (Nat.le_of_ble_eq_true rfl) zNx ?_
        exact z_iretb O dX5_fits_138 rfl (by omega) (by omega) hpo (by rw [show fTx n tx c p = (sBt (nG n tx (p - 1)) 1 99) from by unfold fTx; rw [c_19]; (repeat first | rw [if_pos (by omega)] | rw [if_neg (by omega)])]) (rfl)
      · skip
        refine z_lsw (off := 68) 87 O dX5_fits_19 ⟨by omega, by omega⟩ (by decide) (by rw [c_19]; decide) (by decide) ?_
        refine z_iload_n 0 O dX5_fits_87 rfl ?_
        refine z_iconst 4 O dX5_fits_88 (by decide +kernel) ?_
        refine z_icmp_ge 96 O dX5_fits_89 (by decide) ⟨by omega, by omega⟩ ⟨by omega, by omega⟩ (fun c_89 => ?_) (fun c_89 => ?_)
        · skip
          refine z_iconst 0 O dX5_fits_96 (by decide +kernel) ?_
          exact z_iretb O dX5_fits_97 rfl (by omega) (by omega) hpo (by rw [show fTx n tx c p = false from by unfold fTx; rw [c_19]; (repeat first | rw [if_pos (by omega)] | rw [if_neg (by omega)]); first | done | rfl | exact decide_eq_true (by omega) | exact decide_eq_false (by omega)]; rfl) (rfl)
        · skip
          refine z_iconst 1 O dX5_fits_92 (by decide +kernel) ?_
          refine z_goto 97 O dX5_fits_93 (by decide) ?_
          exact z_iretb O dX5_fits_97 rfl (by omega) (by omega) hpo (by rw [show fTx n tx c p = true from by unfold fTx; rw [c_19]; (repeat first | rw [if_pos (by omega)] | rw [if_neg (by omega)]); first | done | rfl | exact decide_eq_true (by omega) | exact decide_eq_false (by omega)]; rfl) (rfl)
      · skip
        refine z_lsw (off := 79) 98 O dX5_fits_19 ⟨by omega, by omega⟩ (by decide) (by rw [c_19]; decide) (by decide) ?_
        refine z_iload_n 0 O dX5_fits_98 rfl ?_
        refine z_iconst 3 O dX5_fits_99 (by decide +kernel) ?_
        refine z_icmp_gt 107 O dX5_fits_100 (by decide) ⟨by omega, by omega⟩ ⟨by omega, by omega⟩ (fun c_100 => ?_) (fun c_100 => ?_)
        · skip
          refine z_iconst 0 O dX5_fits_107 (by decide +kernel) ?_
          exact z_iretb O dX5_fits_108 rfl (by omega) (by omega) hpo (by rw [show fTx n tx c p = false from by unfold fTx; rw [c_19]; (repeat first | rw [if_pos (by omega)] | rw [if_neg (by omega)]); first | done | rfl | exact decide_eq_true (by omega) | exact decide_eq_false (by omega)]; rfl) (rfl)
        · skip
          refine z_iconst 1 O dX5_fits_103 (by decide +kernel) ?_
          refine z_goto 108 O dX5_fits_104 (by decide) ?_
          exact z_iretb O dX5_fits_108 rfl (by omega) (by omega) hpo (by rw [show fTx n tx c p = true from by unfold fTx; rw [c_19]; (repeat first | rw [if_pos (by omega)] | rw [if_neg (by omega)]); first | done | rfl | exact decide_eq_true (by omega) | exact decide_eq_false (by omega)]; rfl) (rfl)
    · skip
      refine z_iconst 0 O dX5_fits_16 (by decide +kernel) ?_
      exact z_iretb O dX5_fits_17 rfl (by omega) (by omega) hpo (by rw [show fTx n tx c p = false from if_neg (by omega)]; rfl) (rfl)

theorem c_X5_countFitting {E : zE} (hst : E.1.stackTraces = false) {H : Heap} {r : zH} {a : Nat → Nat} {n : Int} {tx : Int → Int} {s : Int} {i : Nat} (fO : zO E H r 1200 (a 1200) 5 [.ref (a 1202), .ref (a 0), .ref (a 64), .ref (a 1204), .ref (a 1206), .ref (a 1207)]) (fT : zRow E H r 1202 (a 1202) 120 n tx) (hx : ∀ j : Int, 0 ≤ j → j < n → 0 ≤ tx j ∧ tx j ≤ 255) (hn : n ≤ 120) (hs : 0 ≤ s ∧ s ≤ 700) (hi : i < 6) : zC E yX5_countFitting cX5_countFitting 5 (some .int) 4 86 [.ref (a 1200), .int (iI s), .ref (zAs E i)] H 0 0 (zRi (cF n tx i s (zLn i) 0) (zSm H)) zN := by
  refine zC.of (by decide) (Nat.le_of_ble_eq_true rfl) hst ?_
  intro x O hE hpo hpx
  subst hE
  change zG x H 0 0 0 [(0, .ref (a 1200)), (1, .int (iI s)), (2, .ref (zAs (zEn x) i))] []
  have hln := zS_len i hi
  have hnn := fT.n
  refine z_iconst 0 O dX5_countFitting_0 (by decide +kernel) ?_
  refine z_istore_n [(3, .int (iI 0)), (0, .ref (a 1200)), (1, .int (iI s)), (2, .ref (zAs (zEn x) i))] O dX5_countFitting_1 (by decide) rfl ?_
  have loop : ∀ (d : Nat) (k : Int), (0 ≤ k) → (k + (d : Int) = (zLn i : Nat)) → (cF n tx i s d k = cF n tx i s (zLn i) 0) → zG x H 0 0 2 [(3, .int (iI k)), (0, .ref (a 1200)), (1, .int (iI s)), (2, .ref (zAs (zEn x) i))] [] := by
    intro d
    induction d with
    | zero =>
      intro k hk0 hkd hRR
      refine z_iload_n 0 O dX5_countFitting_2 rfl ?_
      refine z_aload_n 3 O dX5_countFitting_3 rfl ?_
      refine z_Ti [] [.int (iI k)] hi kM_X5_84 O dX5_countFitting_4 (c_J0_length hst hi) rfl rfl (by decide) (Nat.le_of_ble_eq_true rfl) (by omega) (by omega) (Nat.le_of_ble_eq_true rfl) zNx ?_
      refine z_icmp_ge 49 O dX5_countFitting_7 (by decide) ⟨by omega, by omega⟩ ⟨by omega, by omega⟩ (fun c_7 => ?_) (fun c_7 => ?_)
      · skip
        refine z_aload_n 3 O dX5_countFitting_49 rfl ?_
        refine z_Ti [] [] hi kM_X5_84 O dX5_countFitting_50 (c_J0_length hst hi) rfl rfl (by decide) (Nat.le_of_ble_eq_true rfl) (by omega) (by omega) (Nat.le_of_ble_eq_true rfl) zNx ?_
        exact z_ireti O dX5_countFitting_53 rfl (by omega) (by omega) hpo (by rw [← hRR]; show _ = k; omega) (rfl)
      · exfalso; omega
    | succ d ih =>
      intro k hk0 hkd hRR
      refine z_iload_n 0 O dX5_countFitting_2 rfl ?_
      refine z_aload_n 3 O dX5_countFitting_3 rfl ?_
      refine z_Ti [] [.int (iI k)] hi kM_X5_84 O dX5_countFitting_4 (c_J0_length hst hi) rfl rfl (by decide) (Nat.le_of_ble_eq_true rfl) (by omega) (by omega) (Nat.le_of_ble_eq_true rfl) zNx ?_
      refine z_icmp_ge 49 O dX5_countFitting_7 (by decide) ⟨by omega, by omega⟩ ⟨by omega, by omega⟩ (fun c_7 => ?_) (fun c_7 => ?_)
      · exfalso; omega
      · skip
        refine z_iload_n 2 O dX5_countFitting_10 rfl ?_
        refine z_iload_n 0 O dX5_countFitting_11 rfl ?_
        refine z_iadd O dX5_countFitting_12 ?_
        refine z_istore [(4, .int (iI (s + k))), (3, .int (iI k)), (0, .ref (a 1200)), (1, .int (iI s)), (2, .ref (zAs (zEn x) i))] O dX5_countFitting_13 (by decide) rfl ?_
        refine z_iload 0 O dX5_countFitting_15 rfl ?_
        refine z_aload_n 2 O dX5_countFitting_17 rfl ?_
        refine z_getf kF_X5_14 O dX5_countFitting_18 fO.1 rfl ?_
        obtain ⟨it1, hRo2⟩ := fT.o
        refine z_getf kF_X5_50 O dX5_countFitting_21 hRo2.1 rfl ?_
        refine z_icmp_ge 41 O dX5_countFitting_24 (by decide) ⟨by omega, by omega⟩ ⟨by omega, by omega⟩ (fun c_24 => ?_) (fun c_24 => ?_)
        · skip
          refine z_iload_n 1 O dX5_countFitting_41 rfl ?_
          exact z_ireti O dX5_countFitting_42 rfl (by omega) (by omega) hpo (by rw [← hRR]; exact (if_neg (fun e => by omega)).symm) (rfl)
        · skip
          refine z_aload_n 2 O dX5_countFitting_27 rfl ?_
          refine z_aload_n 4 O dX5_countFitting_28 rfl ?_
          refine z_iload_n 1 O dX5_countFitting_29 rfl ?_
          refine z_Ti [.int (iI k)] [.ref (a 1200)] hi kM_X5_313 O dX5_countFitting_30 (c_J0_charAt hst hi (k := k) ⟨by omega, by omega⟩ (by omega) (by omega)) rfl rfl (by decide) (Nat.le_of_ble_eq_true rfl) (by omega) (by omega) (Nat.le_of_ble_eq_true rfl) zNx ?_
          refine z_iload 0 O dX5_countFitting_33 rfl ?_
          refine z_Vi [.int (iI (zLc i k.toNat)), .int (iI (s + k))] [] kM_X5_317 O dX5_countFitting_35 (c_X5_fits hst fO fT hx ⟨by omega, by omega⟩ (zLc_s i hi k.toNat (by omega))) rfl rfl fO.1 (by decide) (Nat.le_of_ble_eq_true rfl) (by omega) (by omega) (Nat.le_of_ble_eq_true rfl) zNx ?_
          refine z_ifb_ne 43 O dX5_countFitting_38 (by decide) (fun c_38 => ?_) (fun c_38 => ?_)
          · skip
            refine z_iinc 1 [(3, .int (iI (k + 1))), (4, .int (iI (s + k))), (0, .ref (a 1200)), (1, .int (iI s)), (2, .ref (zAs (zEn x) i))] O dX5_countFitting_43 (by decide) rfl rfl ?_
            refine z_goto 2 O dX5_countFitting_46 (by decide) ?_
            refine z_locs [0, 2, 3, 4] rfl ?_
            exact ih (k + 1) (by omega) (by omega) (by rw [← hRR]; exact (if_pos ⟨by omega, c_38⟩).symm)
          · skip
            refine z_iload_n 1 O dX5_countFitting_41 rfl ?_
            exact z_ireti O dX5_countFitting_42 rfl (by omega) (by omega) hpo (by rw [← hRR]; exact (if_neg (fun e => absurd (c_38.symm.trans e.2) (by decide))).symm) (rfl)
  exact loop (zLn i) 0 (by omega) (by omega) rfl

theorem c_X5_errorPosition {E : zE} (hst : E.1.stackTraces = false) {H : Heap} {r : zH} {a : Nat → Nat} {n : Int} {tx : Int → Int} (fO : zO E H r 1200 (a 1200) 5 [.ref (a 1202), .ref (a 0), .ref (a 64), .ref (a 1204), .ref (a 1206), .ref (a 1207)]) (fT : zRow E H r 1202 (a 1202) 120 n tx) (hx : ∀ j : Int, 0 ≤ j → j < n → 0 ≤ tx j ∧ tx j ≤ 255) (hn : 0 ≤ n ∧ n ≤ 120) : zC E yX5_errorPosition cX5_errorPosition 4 (some .int) 5 110 [.ref (a 1200)] H 0 0 (zRi (tPos n tx) (zSm H)) zN := by
  refine zC.of (by decide) (Nat.le_of_ble_eq_true rfl) hst ?_
  intro x O hE hpo hpx
  subst hE
  change zG x H 0 0 0 [(0, .ref (a 1200))] []
  refine z_aload_n 0 O dX5_errorPosition_0 rfl ?_
  refine z_getf kF_X5_14 O dX5_errorPosition_1 fO.1 rfl ?_
  refine z_iconst 0 O dX5_errorPosition_4 (by decide +kernel) ?_
  obtain ⟨it1, hRo2⟩ := fT.o
  refine z_Vi [.int (iI 0)] [] kM_X5_66 O dX5_errorPosition_5 (c_X1_get hst fT ⟨by omega, by omega⟩) rfl rfl hRo2.1 (by decide) (Nat.le_of_ble_eq_true rfl) (by omega) (by omega) (Nat.le_of_ble_eq_true rfl) zNx ?_
  refine z_bipush 87 O dX5_errorPosition_8 (by decide +kernel) ?_
  have h0R : -1 ≤ zRg n tx 0 ∧ zRg n tx 0 ≤ 255 := by have := dG_R (p := 0) hx; unfold dG at this; omega
  refine z_icmp_eq 15 O dX5_errorPosition_10 (by decide) ⟨by omega, by omega⟩ ⟨by omega, by omega⟩ (fun c_10 => ?_) (fun c_10 => ?_)
  · skip
    have h87 : 0 < n ∧ tx 0 = 87 := by have q := c_10; unfold zRg at q; split at q; (· next z => exact ⟨z.2, q⟩); (· exact absurd q (by decide))
    refine z_iconst 1 O dX5_errorPosition_15 (by decide +kernel) ?_
    refine z_istore_n [(1, .int (iI 1)), (0, .ref (a 1200))] O dX5_errorPosition_16 (by decide) rfl ?_
    have loop : ∀ (d : Nat) (p lo : Int) (K : Int → Int), (1 ≤ p) → (p ≤ 130) → (n - p ≤ (d : Int)) → (tRn d n tx ((true, p), lo, K)).1 = (tAll n tx).1 → zG x H 0 0 17 [(1, .int (iI p)), (0, .ref (a 1200))] [] := by
      intro d
      induction d with
      | zero =>
        intro p lo K hp0 hp1 hpd hRR
        refine z_iload_n 0 O dX5_errorPosition_17 rfl ?_
        refine z_aload_n 1 O dX5_errorPosition_18 rfl ?_
        refine z_getf kF_X5_14 O dX5_errorPosition_19 fO.1 rfl ?_
        obtain ⟨it3, hRo4⟩ := fT.o
        refine z_getf kF_X5_50 O dX5_errorPosition_22 hRo4.1 rfl ?_
        refine z_icmp_ge 76 O dX5_errorPosition_25 (by decide) ⟨by omega, by omega⟩ ⟨by omega, by omega⟩ (fun c_25 => ?_) (fun c_25 => ?_)
        · skip
          refine z_iconst (-1) O dX5_errorPosition_76 (by decide +kernel) ?_
          exact z_ireti O dX5_errorPosition_77 rfl (by omega) (by omega) hpo (by rw [tPos_t (by rw [← hRR, tRn_e (by omega)])]) (rfl)
        · exfalso; omega
      | succ d ih =>
        intro p lo K hp0 hp1 hpd hRR
        refine z_iload_n 0 O dX5_errorPosition_17 rfl ?_
        refine z_aload_n 1 O dX5_errorPosition_18 rfl ?_
        refine z_getf kF_X5_14 O dX5_errorPosition_19 fO.1 rfl ?_
        obtain ⟨it5, hRo6⟩ := fT.o
        refine z_getf kF_X5_50 O dX5_errorPosition_22 hRo6.1 rfl ?_
        refine z_icmp_ge 76 O dX5_errorPosition_25 (by decide) ⟨by omega, by omega⟩ ⟨by omega, by omega⟩ (fun c_25 => ?_) (fun c_25 => ?_)
        · skip
          refine z_iconst (-1) O dX5_errorPosition_76 (by decide +kernel) ?_
          exact z_ireti O dX5_errorPosition_77 rfl (by omega) (by omega) hpo (by rw [tPos_t (by rw [← hRR, tRn_e (by omega)])]) (rfl)
        · skip
          have hxp := hx p (by omega) (by omega)
          have hi := sHi_R (tx p)
          have hln := zS_len _ hi
          refine z_aload_n 1 O dX5_errorPosition_28 rfl ?_
          refine z_getf kF_X5_14 O dX5_errorPosition_29 fO.1 rfl ?_
          refine z_iload_n 0 O dX5_errorPosition_32 rfl ?_
          obtain ⟨it7, hRo8⟩ := fT.o
          refine z_Vi [.int (iI p)] [] kM_X5_66 O dX5_errorPosition_33 (c_X1_get hst fT ⟨by omega, by omega⟩) rfl rfl hRo8.1 (by decide) (Nat.le_of_ble_eq_true rfl) (by omega) (by omega) (Nat.le_of_ble_eq_true rfl) zNx ?_
          rw [show zRg n tx p = tx p from (by unfold zRg; exact if_pos ⟨by omega, by omega⟩)]
          refine z_Sr [.int (iI (tx p))] [] kM_X5_70 O dX5_errorPosition_36 (c_X5_shapeOf hst ⟨by omega, by omega⟩) rfl rfl (by decide) (Nat.le_of_ble_eq_true rfl) (by omega) (by omega) (Nat.le_of_ble_eq_true rfl) zNx ?_
          refine z_astore_n [(2, .ref (zAs (zEn x) (sHi (tx p)))), (1, .int (iI p)), (0, .ref (a 1200))] O dX5_errorPosition_39 (by decide) rfl ?_
          refine z_aload_n 0 O dX5_errorPosition_40 rfl ?_
          refine z_Ti [] [] hi kM_X5_74 O dX5_errorPosition_41 (c_J0_isEmpty hst hi) rfl rfl (by decide) (Nat.le_of_ble_eq_true rfl) (by omega) (by omega) (Nat.le_of_ble_eq_true rfl) zNx ?_
          refine z_ifb_eq 49 O dX5_errorPosition_44 (by decide) (fun c_44 => ?_) (fun c_44 => ?_)
          · skip
            have h5 : ¬ sHi (tx p) = 5 := fun e => of_decide_eq_false c_44 (by rw [e]; rfl)
            have hcf := cF_le (n := n) (tx := tx) (i := sHi (tx p)) (s := p + 1) (zLn (sHi (tx p))) 0
            refine z_iinc 1 [(1, .int (iI (p + 1))), (2, .ref (zAs (zEn x) (sHi (tx p)))), (0, .ref (a 1200))] O dX5_errorPosition_49 (by decide) rfl rfl ?_
            refine z_aload_n 2 O dX5_errorPosition_52 rfl ?_
            refine z_iload_n 0 O dX5_errorPosition_53 rfl ?_
            refine z_aload_n 1 O dX5_errorPosition_54 rfl ?_
            refine z_Vi [.int (iI (p + 1)), .ref (zAs (zEn x) (sHi (tx p)))] [] kM_X5_80 O dX5_errorPosition_55 (c_X5_countFitting hst fO fT hx hn.2 ⟨by omega, by omega⟩ hi) rfl rfl fO.1 (by decide) (Nat.le_of_ble_eq_true rfl) (by omega) (by omega) (Nat.le_of_ble_eq_true rfl) zNx ?_
            refine z_istore_n [(3, .int (iI (cF n tx (sHi (tx p)) (p + 1) (zLn (sHi (tx p))) 0))), (1, .int (iI (p + 1))), (2, .ref (zAs (zEn x) (sHi (tx p)))), (0, .ref (a 1200))] O dX5_errorPosition_58 (by decide) rfl ?_
            refine z_iload_n 1 O dX5_errorPosition_59 rfl ?_
            refine z_iload_n 0 O dX5_errorPosition_60 rfl ?_
            refine z_iadd O dX5_errorPosition_61 ?_
            refine z_istore_n [(1, .int (iI ((p + 1) + (cF n tx (sHi (tx p)) (p + 1) (zLn (sHi (tx p))) 0)))), (3, .int (iI (cF n tx (sHi (tx p)) (p + 1) (zLn (sHi (tx p))) 0))), (2, .ref (zAs (zEn x) (sHi (tx p)))), (0, .ref (a 1200))] O dX5_errorPosition_62 (by decide) rfl ?_
            refine z_iload_n 1 O dX5_errorPosition_63 rfl ?_
            refine z_aload_n 2 O dX5_errorPosition_64 rfl ?_
            refine z_Ti [] [.int (iI (cF n tx (sHi (tx p)) (p + 1) (zLn (sHi (tx p))) 0))] hi kM_X5_84 O dX5_errorPosition_65 (c_J0_length hst hi) rfl rfl (by decide) (Nat.le_of_ble_eq_true rfl) (by omega) (by omega) (Nat.le_of_ble_eq_true rfl) zNx ?_
            refine z_icmp_ge 73 O dX5_errorPosition_68 (by decide) ⟨by omega, by omega⟩ ⟨by omega, by omega⟩ (fun c_68 => ?_) (fun c_68 => ?_)
            · skip
              refine z_goto 17 O dX5_errorPosition_73 (by decide) ?_
              refine z_locs [0, 3] rfl ?_
              obtain ⟨e1, e2⟩ | ⟨e1, e2⟩ := cmd (n := n) (tx := tx) (p := p) (lo := lo) (R := K) (by omega) (by omega) h5
              · rw [tRn_s (by omega), e2] at hRR
                rw [show p + 1 + cF n tx (sHi (tx p)) (p + 1) (zLn (sHi (tx p))) 0 = p + 1 + (zLn (sHi (tx p)) : Nat) by omega]
                exact ih _ _ _ (by omega) (by omega) (by omega) hRR
              · exfalso; omega
            · skip
              refine z_iload_n 0 O dX5_errorPosition_71 rfl ?_
              exact z_ireti O dX5_errorPosition_72 rfl (by omega) (by omega) hpo (by rcases cmd (n := n) (tx := tx) (p := p) (lo := lo) (R := K) (by omega) (by omega) h5 with ⟨e1, e2⟩ | ⟨e1, e2⟩; (exfalso; omega); (rw [show tPos n tx = p + 1 + cF n tx (sHi (tx p)) (p + 1) (zLn (sHi (tx p))) 0 from by unfold tPos; rw [← hRR, tRn_f1 (by omega) e2]; rfl])) (rfl)
          · skip
            refine z_iload_n 1 O dX5_errorPosition_47 rfl ?_
            exact z_ireti O dX5_errorPosition_48 rfl (by omega) (by omega) hpo (by rw [show tPos n tx = p from by unfold tPos; rw [← hRR, tRn_f1 (by omega) (cmd_o (by omega) (zLn_0 _ hi (of_decide_eq_true c_44)))]; rfl]) (rfl)
    exact loop 120 1 0 sClean (by omega) (by omega) (by omega) (by rw [tAll_1 h87])
  · skip
    refine z_iconst 0 O dX5_errorPosition_13 (by decide +kernel) ?_
    exact z_ireti O dX5_errorPosition_14 rfl (by omega) (by omega) hpo (by rw [show tPos n tx = 0 from by unfold tPos; rw [tAll_0 (fun e => c_10 (by unfold zRg; rw [if_pos ⟨by omega, e.1⟩]; exact e.2))]; rfl]) (rfl)

