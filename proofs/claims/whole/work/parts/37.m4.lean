/-! the reference: the methods that end a work (written by program: wip/whole/gen/model2.py) -/
theorem c_X6_end {E : zE} (hst : E.1.stackTraces = false) {H : Heap} {r : zH} {t q : Nat} {G : Int → Int} {w : Int} (hA : zA E H r t q 4086 G) (hw : 0 ≤ w ∧ w ≤ 2) (hK : kOK G) : zC E yX6_end cX6_end 3 none 1 21 [.ref q, .int (iI w)] H 0 0 (zRv (fun H1 => zFr H r H1 r (fun s => s = t) ∧ zA E H1 r t q 4086 (sEnd G w))) zN := by
  refine zC.of (by decide) (Nat.le_of_ble_eq_true rfl) hst ?_
  intro x O hE hpo hpx
  subst hE
  change zG x H 0 0 0 [(0, .ref q), (1, .int (iI w))] []
  refine z_aload_n 0 O dX6_end_0 rfl ?_
  refine z_iload_n 1 O dX6_end_1 rfl ?_
  refine z_iconst 1 O dX6_end_2 (by decide +kernel) ?_
  refine z_Si [.int (iI w), .int (iI 1)] [.ref q] kM_X6_65 O dX6_end_3 (c_X6_at hst) rfl rfl (by decide) (Nat.le_of_ble_eq_true rfl) (by omega) (by omega) (Nat.le_of_ble_eq_true rfl) zNx ?_
  have ea1 : at_ w 1 = 36 + 1350 * w + 1 := rfl
  refine z_iconst 0 O dX6_end_6 (by decide +kernel) ?_
  refine z_iast O dX6_end_7 hA.1 ⟨by omega, by omega⟩ (by omega) (by omega) (fun H2 hA3 hC4 => ?_)
  have hf5 := hA.ch hC4
  have ha6 : zA (zEn x) H2 r t q 4086 (zU G (at_ w 1) 0) := ⟨hA3, hA.2⟩
  refine z_aload_n 0 O dX6_end_8 rfl ?_
  refine z_iload_n 1 O dX6_end_9 rfl ?_
  refine z_iconst 2 O dX6_end_10 (by decide +kernel) ?_
  refine z_Si [.int (iI w), .int (iI 2)] [.ref q] kM_X6_65 O dX6_end_11 (c_X6_at hst) rfl rfl (by decide) (Nat.le_of_ble_eq_true rfl) (by omega) (by omega) (Nat.le_of_ble_eq_true rfl) zNx ?_
  have ea7 : at_ w 2 = 36 + 1350 * w + 2 := rfl
  refine z_iconst 0 O dX6_end_14 (by decide +kernel) ?_
  refine z_iast O dX6_end_15 ha6.1 ⟨by omega, by omega⟩ (by omega) (by omega) (fun H8 hA9 hC10 => ?_)
  have hf11 := ha6.ch hC10
  have ha12 : zA (zEn x) H8 r t q 4086 (zU (zU G (at_ w 1) 0) (at_ w 2) 0) := ⟨hA9, ha6.2⟩
  refine z_iconst 0 O dX6_end_16 (by decide +kernel) ?_
  refine z_istore_n [(2, .int (iI 0)), (0, .ref q), (1, .int (iI w))] O dX6_end_17 (by decide) rfl ?_
  have loop : ∀ (d : Nat) (k : Int) (H' : Heap), (k + (d : Int) = 16) → (0 ≤ k) → (zFr H r H' r (fun s => s = t)) → (zA (zEn x) H' r t q 4086 (zLk (zU (zU G (at_ w 1) 0) (at_ w 2) 0) w k)) → zG x H' 0 0 18 [(2, .int (iI k)), (0, .ref q), (1, .int (iI w))] [] := by
    intro d
    induction d with
    | zero =>
      intro k H' hd hk hf' hA'
      obtain rfl : k = 16 := by omega
      refine z_iload_n 0 O dX6_end_18 rfl ?_
      refine z_bipush 16 O dX6_end_19 (by decide +kernel) ?_
      refine z_icmp_ge 58 O dX6_end_21 (by decide) ⟨by omega, by omega⟩ ⟨by omega, by omega⟩ (fun c_21 => ?_) (fun c_21 => ?_)
      · skip
        exact z_iretv O dX6_end_58 rfl (by omega) (by omega) hpo (⟨(hf'.up (fun s h => by first | exact h.elim | omega | (simp at h ⊢; omega))), hA'⟩)
      · exfalso; omega
    | succ d ih =>
      intro k H' hd hk hf' hA'
      refine z_iload_n 0 O dX6_end_18 rfl ?_
      refine z_bipush 16 O dX6_end_19 (by decide +kernel) ?_
      refine z_icmp_ge 58 O dX6_end_21 (by decide) ⟨by omega, by omega⟩ ⟨by omega, by omega⟩ (fun c_21 => ?_) (fun c_21 => ?_)
      · exfalso; omega
      · skip
        refine z_aload_n 1 O dX6_end_24 rfl ?_
        refine z_bipush 16 O dX6_end_25 (by decide +kernel) ?_
        refine z_iload_n 0 O dX6_end_27 rfl ?_
        refine z_iadd O dX6_end_28 ?_
        refine z_aload_n 1 O dX6_end_29 rfl ?_
        refine z_bipush 16 O dX6_end_30 (by decide +kernel) ?_
        refine z_iload_n 0 O dX6_end_32 rfl ?_
        refine z_iadd O dX6_end_33 ?_
        refine z_iald O dX6_end_34 hA'.1 ⟨by omega, by omega⟩ (by omega) (by omega) ?_
        refine z_iload_n 2 O dX6_end_35 rfl ?_
        refine z_iconst 1 O dX6_end_36 (by decide +kernel) ?_
        refine z_iadd O dX6_end_37 ?_
        have hkk := zLk_R (g := (zU (zU G (at_ w 1) 0) (at_ w 2) 0)) (w := w) (k := k) (c := k) hK (by omega) (by omega) (by rw [zU_n (by omega), zU_n (by omega)])
        refine z_icmp_ne 45 O dX6_end_38 (by decide) ⟨by omega, by omega⟩ ⟨by omega, by omega⟩ (fun c_38 => ?_) (fun c_38 => ?_)
        · skip
          refine z_aload_n 1 O dX6_end_45 rfl ?_
          refine z_bipush 16 O dX6_end_46 (by decide +kernel) ?_
          refine z_iload_n 0 O dX6_end_48 rfl ?_
          refine z_iadd O dX6_end_49 ?_
          refine z_iald O dX6_end_50 hA'.1 ⟨by omega, by omega⟩ (by omega) (by omega) ?_
          refine z_iast O dX6_end_51 hA'.1 ⟨by omega, by omega⟩ (by omega) (by omega) (fun H13 hA14 hC15 => ?_)
          have hf16 := hA'.ch hC15
          have ha17 : zA (zEn x) H13 r t q 4086 (zU (zLk (zU (zU G (at_ w 1) 0) (at_ w 2) 0) w k) (16 + k) ((zLk (zU (zU G (at_ w 1) 0) (at_ w 2) 0) w k) (16 + k))) := ⟨hA14, hA'.2⟩
          refine z_iinc 0 [(2, .int (iI (k + 1))), (0, .ref q), (1, .int (iI w))] O dX6_end_52 (by decide) rfl rfl ?_
          refine z_goto 18 O dX6_end_55 (by decide) ?_
          exact ih (k + 1) H13 (by omega) (by omega) (((hf'.up (fun s h => by first | exact h.elim | omega | (simp at h ⊢; omega)))).tr (hf16.up (fun s h => by first | exact h.elim | omega | (simp at h ⊢; omega)))) (by rw [← zLk_2 (by omega) (by assumption)]; exact ha17)
        · skip
          refine z_iconst 0 O dX6_end_41 (by decide +kernel) ?_
          refine z_goto 51 O dX6_end_42 (by decide) ?_
          refine z_iast O dX6_end_51 hA'.1 ⟨by omega, by omega⟩ (by omega) (by omega) (fun H18 hA19 hC20 => ?_)
          have hf21 := hA'.ch hC20
          have ha22 : zA (zEn x) H18 r t q 4086 (zU (zLk (zU (zU G (at_ w 1) 0) (at_ w 2) 0) w k) (16 + k) 0) := ⟨hA19, hA'.2⟩
          refine z_iinc 0 [(2, .int (iI (k + 1))), (0, .ref q), (1, .int (iI w))] O dX6_end_52 (by decide) rfl rfl ?_
          refine z_goto 18 O dX6_end_55 (by decide) ?_
          exact ih (k + 1) H18 (by omega) (by omega) (((hf'.up (fun s h => by first | exact h.elim | omega | (simp at h ⊢; omega)))).tr (hf21.up (fun s h => by first | exact h.elim | omega | (simp at h ⊢; omega)))) (by rw [← zLk_1 (by omega) (by assumption)]; exact ha22)
  exact loop 16 0 H8 (by omega) (by omega) (((hf5.up (fun s h => by first | exact h.elim | omega | (simp at h ⊢; omega)))).tr (hf11.up (fun s h => by first | exact h.elim | omega | (simp at h ⊢; omega)))) (by rw [zLk_0]; exact ha12)

theorem c_X6_doneIn {E : zE} (hst : E.1.stackTraces = false) {H : Heap} {r : zH} {t q : Nat} {G : Int → Int} {w : Int} (hA : zA E H r t q 4086 G) (hw : 0 ≤ w ∧ w ≤ 2) (hK : kOK G) (hm : 0 < G (at_ w 0) ∧ G (at_ w 0) ≤ 5) : zC E yX6_doneIn cX6_doneIn 2 (some .int) 2 43 [.ref q, .int (iI w)] H 0 0 (zRi (G (at_ w 0) - 1) (fun H1 => zFr H r H1 r (fun s => s = t) ∧ zA E H1 r t q 4086 (sDone G w))) zN := by
  refine zC.of (by decide) (Nat.le_of_ble_eq_true rfl) hst ?_
  intro x O hE hpo hpx
  subst hE
  change zG x H 0 0 0 [(0, .ref q), (1, .int (iI w))] []
  have n0 : at_ w 0 = 36 + 1350 * w + 0 := rfl
  have n1 : at_ w 1 = 36 + 1350 * w + 1 := rfl
  have n2 : at_ w 2 = 36 + 1350 * w + 2 := rfl
  have n3 : at_ w 3 = 36 + 1350 * w + 3 := rfl
  refine z_aload_n 0 O dX6_doneIn_0 rfl ?_
  refine z_iload_n 1 O dX6_doneIn_1 rfl ?_
  refine z_iconst 0 O dX6_doneIn_2 (by decide +kernel) ?_
  refine z_Si [.int (iI w), .int (iI 0)] [.ref q] kM_X6_65 O dX6_doneIn_3 (c_X6_at hst) rfl rfl (by decide) (Nat.le_of_ble_eq_true rfl) (by omega) (by omega) (Nat.le_of_ble_eq_true rfl) zNx ?_
  have ea1 : at_ w 0 = 36 + 1350 * w + 0 := rfl
  refine z_dup2 O dX6_doneIn_6 rfl rfl ?_
  refine z_iald O dX6_doneIn_7 hA.1 ⟨by omega, by omega⟩ (by omega) (by omega) ?_
  refine z_iconst 1 O dX6_doneIn_8 (by decide +kernel) ?_
  refine z_isub O dX6_doneIn_9 ?_
  refine z_iast O dX6_doneIn_10 hA.1 ⟨by omega, by omega⟩ (by omega) (by omega) (fun H2 hA3 hC4 => ?_)
  have hf5 := hA.ch hC4
  have ha6 : zA (zEn x) H2 r t q 4086 (zU G (at_ w 0) ((G (at_ w 0)) - 1)) := ⟨hA3, hA.2⟩
  refine z_aload_n 0 O dX6_doneIn_11 rfl ?_
  refine z_iload_n 1 O dX6_doneIn_12 rfl ?_
  refine z_Si [.ref q, .int (iI w)] [] kM_X6_69 O dX6_doneIn_13 (c_X6_many hst ha6 hw) rfl rfl (by decide) (Nat.le_of_ble_eq_true rfl) (by omega) (by omega) (Nat.le_of_ble_eq_true rfl) zNx ?_
  rw [show (zU G (at_ w 0) ((G (at_ w 0)) - 1)) (at_ w 0) = G (at_ w 0) - 1 from zU_s]
  refine z_if_ne 35 O dX6_doneIn_16 (by decide) ⟨by omega, by omega⟩ (fun c_16 => ?_) (fun c_16 => ?_)
  · skip
    refine z_aload_n 0 O dX6_doneIn_35 rfl ?_
    refine z_iload_n 1 O dX6_doneIn_36 rfl ?_
    refine z_Si [.ref q, .int (iI w)] [] kM_X6_69 O dX6_doneIn_37 (c_X6_many hst ha6 hw) rfl rfl (by decide) (Nat.le_of_ble_eq_true rfl) (by omega) (by omega) (Nat.le_of_ble_eq_true rfl) zNx ?_
    rw [show (zU G (at_ w 0) ((G (at_ w 0)) - 1)) (at_ w 0) = G (at_ w 0) - 1 from zU_s]
    exact z_ireti O dX6_doneIn_40 rfl (by omega) (by omega) hpo (by first | rfl | omega) (⟨(hf5.up (fun s h => by first | exact h.elim | omega | (simp at h ⊢; omega))), by unfold sDone; first | (rw [if_pos (by omega)]; exact ha6) | (rw [if_neg (by omega)]; exact ha6)⟩)
  · skip
    refine z_aload_n 0 O dX6_doneIn_19 rfl ?_
    refine z_iload_n 1 O dX6_doneIn_20 rfl ?_
    refine z_Svm [.ref q, .int (iI w)] [] kM_X6_105 O dX6_doneIn_21 (c_X6_end hst ha6 hw (fun c h0 h1 => by rw [zU_n (by omega)]; exact hK c h0 h1)) rfl rfl (by decide) (Nat.le_of_ble_eq_true rfl) (by omega) (by omega) (Nat.le_of_ble_eq_true rfl) zNx (fun H7 hp8 hz9 => ?_)
    obtain ⟨hf10, ha11⟩ := hp8
    refine z_aload_n 0 O dX6_doneIn_24 rfl ?_
    refine z_iload_n 1 O dX6_doneIn_25 rfl ?_
    refine z_iconst 3 O dX6_doneIn_26 (by decide +kernel) ?_
    refine z_Si [.int (iI w), .int (iI 3)] [.ref q] kM_X6_65 O dX6_doneIn_27 (c_X6_at hst) rfl rfl (by decide) (Nat.le_of_ble_eq_true rfl) (by omega) (by omega) (Nat.le_of_ble_eq_true rfl) zNx ?_
    have ea12 : at_ w 3 = 36 + 1350 * w + 3 := rfl
    refine z_dup2 O dX6_doneIn_30 rfl rfl ?_
    refine z_iald O dX6_doneIn_31 ha11.1 ⟨by omega, by omega⟩ (by omega) (by omega) ?_
    rw [show (sEnd (zU G (at_ w 0) ((G (at_ w 0)) - 1)) w) (at_ w 3) = G (at_ w 3) from ((sEnd_n (by omega) (by omega) (by omega)).trans (zU_n (by omega)))]
    refine z_iconst 1 O dX6_doneIn_32 (by decide +kernel) ?_
    refine z_iadd O dX6_doneIn_33 ?_
    refine z_iast O dX6_doneIn_34 ha11.1 ⟨by omega, by omega⟩ (by omega) (by omega) (fun H13 hA14 hC15 => ?_)
    have hf16 := ha11.ch hC15
    have ha17 : zA (zEn x) H13 r t q 4086 (zU (sEnd (zU G (at_ w 0) ((G (at_ w 0)) - 1)) w) (at_ w 3) ((G (at_ w 3)) + 1)) := ⟨hA14, ha11.2⟩
    refine z_aload_n 0 O dX6_doneIn_35 rfl ?_
    refine z_iload_n 1 O dX6_doneIn_36 rfl ?_
    refine z_Si [.ref q, .int (iI w)] [] kM_X6_69 O dX6_doneIn_37 (c_X6_many hst ha17 hw) rfl rfl (by decide) (Nat.le_of_ble_eq_true rfl) (by omega) (by omega) (Nat.le_of_ble_eq_true rfl) zNx ?_
    rw [show (zU (sEnd (zU G (at_ w 0) ((G (at_ w 0)) - 1)) w) (at_ w 3) ((G (at_ w 3)) + 1)) (at_ w 0) = G (at_ w 0) - 1 from ((zU_n (by omega)).trans ((sEnd_n (by omega) (by omega) (by omega)).trans zU_s))]
    exact z_ireti O dX6_doneIn_40 rfl (by omega) (by omega) hpo (by first | rfl | omega) (⟨(((((hf5.up (fun s h => by first | exact h.elim | omega | (simp at h ⊢; omega)))).tr (hf10.up (fun s h => by first | exact h.elim | omega | (simp at h ⊢; omega))))).tr (hf16.up (fun s h => by first | exact h.elim | omega | (simp at h ⊢; omega)))), by unfold sDone; first | (rw [if_pos (by omega)]; exact ha17) | (rw [if_neg (by omega)]; exact ha17)⟩)
