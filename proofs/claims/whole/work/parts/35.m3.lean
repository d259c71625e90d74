/-! the reference: more methods that write (written by program: wip/whole/gen/model2.py) -/
theorem c_X6_beginIn {E : zE} (hst : E.1.stackTraces = false) {H : Heap} {r : zH} {t q : Nat} {G : Int → Int} {w : Int} (hA : zA E H r t q 4086 G) (hw : 0 ≤ w ∧ w ≤ 2) (hm : 0 ≤ G (at_ w 0) ∧ G (at_ w 0) < 5) : zC E yX6_beginIn cX6_beginIn 4 none 2 43 [.ref q, .int (iI w)] H 0 0 (zRv (fun H1 => zFr H r H1 r (fun s => s = t) ∧ zA E H1 r t q 4086 (sBegin G w))) zN := by
  refine zC.of (by decide) (Nat.le_of_ble_eq_true rfl) hst ?_
  intro x O hE hpo hpx
  subst hE
  change zG x H 0 0 0 [(0, .ref q), (1, .int (iI w))] []
  refine z_aload_n 0 O dX6_beginIn_0 rfl ?_
  refine z_iload_n 1 O dX6_beginIn_1 rfl ?_
  refine z_Si [.ref q, .int (iI w)] [] kM_X6_69 O dX6_beginIn_2 (c_X6_many hst hA hw) rfl rfl (by decide) (Nat.le_of_ble_eq_true rfl) (by omega) (by omega) (Nat.le_of_ble_eq_true rfl) zNx ?_
  refine z_istore_n [(2, .int (iI (G (at_ w 0)))), (0, .ref q), (1, .int (iI w))] O dX6_beginIn_5 (by decide) rfl ?_
  refine z_iconst 0 O dX6_beginIn_6 (by decide +kernel) ?_
  refine z_istore_n [(3, .int (iI 0)), (2, .int (iI (G (at_ w 0)))), (0, .ref q), (1, .int (iI w))] O dX6_beginIn_7 (by decide) rfl ?_
  have loop : ∀ (d : Nat) (k : Int) (H' : Heap), (k + (d : Int) = 13) → (0 ≤ k) → (zFr H r H' r (fun s => s = t)) → (zA (zEn x) H' r t q 4086 (zFl G (wA w (G (at_ w 0)) 0) k)) → zG x H' 0 0 8 [(3, .int (iI k)), (2, .int (iI (G (at_ w 0)))), (0, .ref q), (1, .int (iI w))] [] := by
    intro d
    induction d with
    | zero =>
      intro k H' hd hk hf' hA'
      obtain rfl : k = 13 := by omega
      refine z_iload_n 0 O dX6_beginIn_8 rfl ?_
      refine z_bipush 13 O dX6_beginIn_9 (by decide +kernel) ?_
      refine z_icmp_ge 29 O dX6_beginIn_11 (by decide) ⟨by omega, by omega⟩ ⟨by omega, by omega⟩ (fun c_11 => ?_) (fun c_11 => ?_)
      · skip
        refine z_aload_n 2 O dX6_beginIn_29 rfl ?_
        refine z_iload_n 3 O dX6_beginIn_30 rfl ?_
        refine z_iload_n 1 O dX6_beginIn_31 rfl ?_
        refine z_iconst 0 O dX6_beginIn_32 (by decide +kernel) ?_
        refine z_Si [.int (iI w), .int (iI (G (at_ w 0))), .int (iI 0)] [.ref q] kM_X6_73 O dX6_beginIn_33 (c_X6_workAt hst) rfl rfl (by decide) (Nat.le_of_ble_eq_true rfl) (by omega) (by omega) (Nat.le_of_ble_eq_true rfl) zNx ?_
        have ea1 : wA w (G (at_ w 0)) 0 = 36 + 1350 * w + (5 + 13 * (G (at_ w 0)) + 0) := rfl
        refine z_aload_n 2 O dX6_beginIn_36 rfl ?_
        refine z_iload_n 3 O dX6_beginIn_37 rfl ?_
        refine z_iconst 1 O dX6_beginIn_38 (by decide +kernel) ?_
        refine z_Si [.int (iI w), .int (iI 1)] [.ref q, .int (iI (wA w (G (at_ w 0)) 0)), .ref q] kM_X6_65 O dX6_beginIn_39 (c_X6_at hst) rfl rfl (by decide) (Nat.le_of_ble_eq_true rfl) (by omega) (by omega) (Nat.le_of_ble_eq_true rfl) zNx ?_
        have ea2 : at_ w 1 = 36 + 1350 * w + 1 := rfl
        refine z_iald O dX6_beginIn_42 hA'.1 ⟨by omega, by omega⟩ (by omega) (by omega) ?_
        rw [show (zFl G (wA w (G (at_ w 0)) 0) 13) (at_ w 1) = G (at_ w 1) from zFl_n (by first | omega | (simp only [sIn, wA, at_]; omega) | (simp only [sIn, wA, at_] at *; omega))]
        refine z_iast O dX6_beginIn_43 hA'.1 ⟨by omega, by omega⟩ (by omega) (by omega) (fun H3 hA4 hC5 => ?_)
        have hf6 := hA'.ch hC5
        have ha7 : zA (zEn x) H3 r t q 4086 (zU (zFl G (wA w (G (at_ w 0)) 0) 13) (wA w (G (at_ w 0)) 0) (G (at_ w 1))) := ⟨hA4, hA'.2⟩
        refine z_aload_n 2 O dX6_beginIn_44 rfl ?_
        refine z_iload_n 3 O dX6_beginIn_45 rfl ?_
        refine z_iload_n 1 O dX6_beginIn_46 rfl ?_
        refine z_iconst 1 O dX6_beginIn_47 (by decide +kernel) ?_
        refine z_Si [.int (iI w), .int (iI (G (at_ w 0))), .int (iI 1)] [.ref q] kM_X6_73 O dX6_beginIn_48 (c_X6_workAt hst) rfl rfl (by decide) (Nat.le_of_ble_eq_true rfl) (by omega) (by omega) (Nat.le_of_ble_eq_true rfl) zNx ?_
        have ea8 : wA w (G (at_ w 0)) 1 = 36 + 1350 * w + (5 + 13 * (G (at_ w 0)) + 1) := rfl
        refine z_aload_n 2 O dX6_beginIn_51 rfl ?_
        refine z_iload_n 3 O dX6_beginIn_52 rfl ?_
        refine z_iconst 2 O dX6_beginIn_53 (by decide +kernel) ?_
        refine z_Si [.int (iI w), .int (iI 2)] [.ref q, .int (iI (wA w (G (at_ w 0)) 1)), .ref q] kM_X6_65 O dX6_beginIn_54 (c_X6_at hst) rfl rfl (by decide) (Nat.le_of_ble_eq_true rfl) (by omega) (by omega) (Nat.le_of_ble_eq_true rfl) zNx ?_
        have ea9 : at_ w 2 = 36 + 1350 * w + 2 := rfl
        refine z_iald O dX6_beginIn_57 ha7.1 ⟨by omega, by omega⟩ (by omega) (by omega) ?_
        rw [show (zU (zFl G (wA w (G (at_ w 0)) 0) 13) (wA w (G (at_ w 0)) 0) (G (at_ w 1))) (at_ w 2) = G (at_ w 2) from ((zU_n (by first | omega | (simp only [sIn, wA, at_]; omega) | (simp only [sIn, wA, at_] at *; omega))).trans (zFl_n (by first | omega | (simp only [sIn, wA, at_]; omega) | (simp only [sIn, wA, at_] at *; omega))))]
        refine z_iast O dX6_beginIn_58 ha7.1 ⟨by omega, by omega⟩ (by omega) (by omega) (fun H10 hA11 hC12 => ?_)
        have hf13 := ha7.ch hC12
        have ha14 : zA (zEn x) H10 r t q 4086 (zU (zU (zFl G (wA w (G (at_ w 0)) 0) 13) (wA w (G (at_ w 0)) 0) (G (at_ w 1))) (wA w (G (at_ w 0)) 1) (G (at_ w 2))) := ⟨hA11, ha7.2⟩
        refine z_aload_n 2 O dX6_beginIn_59 rfl ?_
        refine z_iload_n 3 O dX6_beginIn_60 rfl ?_
        refine z_iconst 0 O dX6_beginIn_61 (by decide +kernel) ?_
        refine z_Si [.int (iI w), .int (iI 0)] [.ref q] kM_X6_65 O dX6_beginIn_62 (c_X6_at hst) rfl rfl (by decide) (Nat.le_of_ble_eq_true rfl) (by omega) (by omega) (Nat.le_of_ble_eq_true rfl) zNx ?_
        have ea15 : at_ w 0 = 36 + 1350 * w + 0 := rfl
        refine z_dup2 O dX6_beginIn_65 rfl rfl ?_
        refine z_iald O dX6_beginIn_66 ha14.1 ⟨by omega, by omega⟩ (by omega) (by omega) ?_
        rw [show (zU (zU (zFl G (wA w (G (at_ w 0)) 0) 13) (wA w (G (at_ w 0)) 0) (G (at_ w 1))) (wA w (G (at_ w 0)) 1) (G (at_ w 2))) (at_ w 0) = G (at_ w 0) from ((zU_n (by first | omega | (simp only [sIn, wA, at_]; omega) | (simp only [sIn, wA, at_] at *; omega))).trans ((zU_n (by first | omega | (simp only [sIn, wA, at_]; omega) | (simp only [sIn, wA, at_] at *; omega))).trans (zFl_n (by first | omega | (simp only [sIn, wA, at_]; omega) | (simp only [sIn, wA, at_] at *; omega)))))]
        refine z_iconst 1 O dX6_beginIn_67 (by decide +kernel) ?_
        refine z_iadd O dX6_beginIn_68 ?_
        refine z_iast O dX6_beginIn_69 ha14.1 ⟨by omega, by omega⟩ (by omega) (by omega) (fun H16 hA17 hC18 => ?_)
        have hf19 := ha14.ch hC18
        have ha20 : zA (zEn x) H16 r t q 4086 (zU (zU (zU (zFl G (wA w (G (at_ w 0)) 0) 13) (wA w (G (at_ w 0)) 0) (G (at_ w 1))) (wA w (G (at_ w 0)) 1) (G (at_ w 2))) (at_ w 0) ((G (at_ w 0)) + 1)) := ⟨hA17, ha14.2⟩
        exact z_iretv O dX6_beginIn_70 rfl (by omega) (by omega) hpo (⟨(((((((hf'.up (fun s h => by first | exact h.elim | omega | (simp at h ⊢; omega)))).tr (hf6.up (fun s h => by first | exact h.elim | omega | (simp at h ⊢; omega))))).tr (hf13.up (fun s h => by first | exact h.elim | omega | (simp at h ⊢; omega))))).tr (hf19.up (fun s h => by first | exact h.elim | omega | (simp at h ⊢; omega)))), ha20⟩)
      · exfalso; omega
    | succ d ih =>
      intro k H' hd hk hf' hA'
      refine z_iload_n 0 O dX6_beginIn_8 rfl ?_
      refine z_bipush 13 O dX6_beginIn_9 (by decide +kernel) ?_
      refine z_icmp_ge 29 O dX6_beginIn_11 (by decide) ⟨by omega, by omega⟩ ⟨by omega, by omega⟩ (fun c_11 => ?_) (fun c_11 => ?_)
      · exfalso; omega
      · skip
        refine z_aload_n 2 O dX6_beginIn_14 rfl ?_
        refine z_iload_n 3 O dX6_beginIn_15 rfl ?_
        refine z_iload_n 1 O dX6_beginIn_16 rfl ?_
        refine z_iload_n 0 O dX6_beginIn_17 rfl ?_
        refine z_Si [.int (iI w), .int (iI (G (at_ w 0))), .int (iI k)] [.ref q] kM_X6_73 O dX6_beginIn_18 (c_X6_workAt hst) rfl rfl (by decide) (Nat.le_of_ble_eq_true rfl) (by omega) (by omega) (Nat.le_of_ble_eq_true rfl) zNx ?_
        have ea21 : wA w (G (at_ w 0)) k = 36 + 1350 * w + (5 + 13 * (G (at_ w 0)) + k) := rfl
        refine z_iconst 0 O dX6_beginIn_21 (by decide +kernel) ?_
        refine z_iast O dX6_beginIn_22 hA'.1 ⟨by omega, by omega⟩ (by omega) (by omega) (fun H22 hA23 hC24 => ?_)
        have hf25 := hA'.ch hC24
        have ha26 : zA (zEn x) H22 r t q 4086 (zU (zFl G (wA w (G (at_ w 0)) 0) k) (wA w (G (at_ w 0)) k) 0) := ⟨hA23, hA'.2⟩
        refine z_iinc 0 [(3, .int (iI (k + 1))), (2, .int (iI (G (at_ w 0)))), (0, .ref q), (1, .int (iI w))] O dX6_beginIn_23 (by decide) rfl rfl ?_
        refine z_goto 8 O dX6_beginIn_26 (by decide) ?_
        exact ih (k + 1) H22 (by omega) (by omega) (((hf'.up (fun s h => by first | exact h.elim | omega | (simp at h ⊢; omega)))).tr (hf25.up (fun s h => by first | exact h.elim | omega | (simp at h ⊢; omega)))) (by rw [← zFl_s (by omega) (show wA w (G (at_ w 0)) k = wA w (G (at_ w 0)) 0 + k by unfold wA at_; omega)]; exact ha26)
  exact loop 13 0 H (by omega) (by omega) zFr.rf (by rw [zFl_0]; exact hA)

theorem c_X6_enter {E : zE} (hst : E.1.stackTraces = false) {H : Heap} {r : zH} {t q : Nat} {G : Int → Int} {w : Int} {c : Int} (hA : zA E H r t q 4086 G) (hw : 0 ≤ w ∧ w ≤ 2) (hc : 0 ≤ c ∧ c < 16) (hl : 0 ≤ G (at_ w 1) ∧ G (at_ w 1) ≤ 639) : zC E yX6_enter cX6_enter 3 none 1 21 [.ref q, .int (iI w), .int (iI c)] H 0 0 (zRv (fun H1 => zFr H r H1 r (fun s => s = t) ∧ zA E H1 r t q 4086 (sEnter G w c))) zN := by
  refine zC.of (by decide) (Nat.le_of_ble_eq_true rfl) hst ?_
  intro x O hE hpo hpx
  subst hE
  change zG x H 0 0 0 [(0, .ref q), (1, .int (iI w)), (2, .int (iI c))] []
  refine z_aload_n 0 O dX6_enter_0 rfl ?_
  refine z_iload_n 1 O dX6_enter_1 rfl ?_
  refine z_bipush 70 O dX6_enter_2 (by decide +kernel) ?_
  refine z_aload_n 0 O dX6_enter_4 rfl ?_
  refine z_iload_n 1 O dX6_enter_5 rfl ?_
  refine z_iconst 1 O dX6_enter_6 (by decide +kernel) ?_
  refine z_Si [.int (iI w), .int (iI 1)] [.ref q, .int (iI 70), .int (iI w), .ref q] kM_X6_65 O dX6_enter_7 (c_X6_at hst) rfl rfl (by decide) (Nat.le_of_ble_eq_true rfl) (by omega) (by omega) (Nat.le_of_ble_eq_true rfl) zNx ?_
  have ea1 : at_ w 1 = 36 + 1350 * w + 1 := rfl
  refine z_iald O dX6_enter_10 hA.1 ⟨by omega, by omega⟩ (by omega) (by omega) ?_
  refine z_iadd O dX6_enter_11 ?_
  refine z_Si [.int (iI w), .int (iI (70 + (G (at_ w 1))))] [.ref q] kM_X6_65 O dX6_enter_12 (c_X6_at hst) rfl rfl (by decide) (Nat.le_of_ble_eq_true rfl) (by omega) (by omega) (Nat.le_of_ble_eq_true rfl) zNx ?_
  have ea2 : at_ w (70 + (G (at_ w 1))) = 36 + 1350 * w + (70 + (G (at_ w 1))) := rfl
  refine z_bipush 100 O dX6_enter_15 (by decide +kernel) ?_
  refine z_iload_n 2 O dX6_enter_17 rfl ?_
  refine z_imul O dX6_enter_18 ?_
  refine z_aload_n 0 O dX6_enter_19 rfl ?_
  refine z_iload_n 2 O dX6_enter_20 rfl ?_
  refine z_iald O dX6_enter_21 hA.1 ⟨by omega, by omega⟩ (by omega) (by omega) ?_
  refine z_iadd O dX6_enter_22 ?_
  refine z_iast O dX6_enter_23 hA.1 ⟨by omega, by omega⟩ (by omega) (by omega) (fun H3 hA4 hC5 => ?_)
  have hf6 := hA.ch hC5
  have ha7 : zA (zEn x) H3 r t q 4086 (zU G (at_ w (70 + (G (at_ w 1)))) ((100 * c) + (G c))) := ⟨hA4, hA.2⟩
  refine z_aload_n 0 O dX6_enter_24 rfl ?_
  refine z_iload_n 1 O dX6_enter_25 rfl ?_
  refine z_iconst 1 O dX6_enter_26 (by decide +kernel) ?_
  refine z_Si [.int (iI w), .int (iI 1)] [.ref q] kM_X6_65 O dX6_enter_27 (c_X6_at hst) rfl rfl (by decide) (Nat.le_of_ble_eq_true rfl) (by omega) (by omega) (Nat.le_of_ble_eq_true rfl) zNx ?_
  have ea8 : at_ w 1 = 36 + 1350 * w + 1 := rfl
  refine z_dup2 O dX6_enter_30 rfl rfl ?_
  refine z_iald O dX6_enter_31 ha7.1 ⟨by omega, by omega⟩ (by omega) (by omega) ?_
  rw [show (zU G (at_ w (70 + (G (at_ w 1)))) ((100 * c) + (G c))) (at_ w 1) = G (at_ w 1) from (zU_n (by first | omega | (simp only [sIn, wA, at_]; omega) | (simp only [sIn, wA, at_] at *; omega)))]
  refine z_iconst 1 O dX6_enter_32 (by decide +kernel) ?_
  refine z_iadd O dX6_enter_33 ?_
  refine z_iast O dX6_enter_34 ha7.1 ⟨by omega, by omega⟩ (by omega) (by omega) (fun H9 hA10 hC11 => ?_)
  have hf12 := ha7.ch hC11
  have ha13 : zA (zEn x) H9 r t q 4086 (zU (zU G (at_ w (70 + (G (at_ w 1)))) ((100 * c) + (G c))) (at_ w 1) ((G (at_ w 1)) + 1)) := ⟨hA10, ha7.2⟩
  exact z_iretv O dX6_enter_35 rfl (by omega) (by omega) hpo (⟨(((hf6.up (fun s h => by first | exact h.elim | omega | (simp at h ⊢; omega)))).tr (hf12.up (fun s h => by first | exact h.elim | omega | (simp at h ⊢; omega)))), ha13⟩)

theorem c_X6_writeIn {E : zE} (hst : E.1.stackTraces = false) {H : Heap} {r : zH} {t q : Nat} {G : Int → Int} {w : Int} {c v : Int} (hA : zA E H r t q 4086 G) (hw : 0 ≤ w ∧ w ≤ 2) (hc : 0 ≤ c ∧ c < 16) (hl : 0 ≤ G (at_ w 1) ∧ G (at_ w 1) ≤ 639) : zC E yX6_writeIn cX6_writeIn 5 (some .int) 2 43 [.ref q, .int (iI w), .int (iI c), .int (iI v)] H 0 0 (zRi (G c) (fun H1 => zFr H r H1 r (fun s => s = t) ∧ zA E H1 r t q 4086 (sWrite G w c v))) zN := by
  refine zC.of (by decide) (Nat.le_of_ble_eq_true rfl) hst ?_
  intro x O hE hpo hpx
  subst hE
  change zG x H 0 0 0 [(0, .ref q), (1, .int (iI w)), (2, .int (iI c)), (3, .int (iI v))] []
  have e1 : at_ w 1 = 36 + 1350 * w + 1 := rfl
  refine z_aload_n 0 O dX6_writeIn_0 rfl ?_
  refine z_iload_n 2 O dX6_writeIn_1 rfl ?_
  refine z_iald O dX6_writeIn_2 hA.1 ⟨by omega, by omega⟩ (by omega) (by omega) ?_
  refine z_istore [(4, .int (iI (G c))), (0, .ref q), (1, .int (iI w)), (2, .int (iI c)), (3, .int (iI v))] O dX6_writeIn_3 (by decide) rfl ?_
  refine z_aload_n 1 O dX6_writeIn_5 rfl ?_
  refine z_bipush 16 O dX6_writeIn_6 (by decide +kernel) ?_
  refine z_iload_n 3 O dX6_writeIn_8 rfl ?_
  refine z_iadd O dX6_writeIn_9 ?_
  refine z_iload_n 2 O dX6_writeIn_10 rfl ?_
  refine z_iconst 1 O dX6_writeIn_11 (by decide +kernel) ?_
  refine z_iadd O dX6_writeIn_12 ?_
  refine z_iast O dX6_writeIn_13 hA.1 ⟨by omega, by omega⟩ (by omega) (by omega) (fun H1 hA2 hC3 => ?_)
  have hf4 := hA.ch hC3
  have ha5 : zA (zEn x) H1 r t q 4086 (zU G (16 + c) (w + 1)) := ⟨hA2, hA.2⟩
  refine z_aload_n 1 O dX6_writeIn_14 rfl ?_
  refine z_iload_n 2 O dX6_writeIn_15 rfl ?_
  refine z_iload_n 3 O dX6_writeIn_16 rfl ?_
  refine z_Svm [.ref q, .int (iI w), .int (iI c)] [] kM_X6_85 O dX6_writeIn_17 (c_X6_enter hst ha5 hw hc (by rw [zU_n (by omega)]; exact hl)) rfl rfl (by decide) (Nat.le_of_ble_eq_true rfl) (by omega) (by omega) (Nat.le_of_ble_eq_true rfl) zNx (fun H6 hp7 hz8 => ?_)
  obtain ⟨hf9, ha10⟩ := hp7
  refine z_aload_n 1 O dX6_writeIn_20 rfl ?_
  refine z_iload_n 3 O dX6_writeIn_21 rfl ?_
  refine z_iload_n 4 O dX6_writeIn_22 rfl ?_
  refine z_iast O dX6_writeIn_23 ha10.1 ⟨by omega, by omega⟩ (by omega) (by omega) (fun H11 hA12 hC13 => ?_)
  have hf14 := ha10.ch hC13
  have ha15 : zA (zEn x) H11 r t q 4086 (zU (sEnter (zU G (16 + c) (w + 1)) w c) c v) := ⟨hA12, ha10.2⟩
  refine z_aload_n 1 O dX6_writeIn_24 rfl ?_
  refine z_bipush 34 O dX6_writeIn_25 (by decide +kernel) ?_
  refine z_dup2 O dX6_writeIn_27 rfl rfl ?_
  refine z_iald O dX6_writeIn_28 ha15.1 ⟨by omega, by omega⟩ (by omega) (by omega) ?_
  rw [show (zU (sEnter (zU G (16 + c) (w + 1)) w c) c v) 34 = G 34 from (by unfold sEnter; have e2 : at_ w (70 + zU G (16 + c) (w + 1) (at_ w 1)) = 36 + 1350 * w + (70 + zU G (16 + c) (w + 1) (at_ w 1)) := rfl; rw [zU_n (by omega)] at e2; rw [zU_n (by omega), zU_n (by omega), zU_n (by rw [zU_n (by omega)]; omega), zU_n (by omega)])]
  refine z_iconst 1 O dX6_writeIn_29 (by decide +kernel) ?_
  refine z_iadd O dX6_writeIn_30 ?_
  refine z_iast O dX6_writeIn_31 ha15.1 ⟨by omega, by omega⟩ (by omega) (by omega) (fun H16 hA17 hC18 => ?_)
  have hf19 := ha15.ch hC18
  have ha20 : zA (zEn x) H16 r t q 4086 (zU (zU (sEnter (zU G (16 + c) (w + 1)) w c) c v) 34 ((G 34) + 1)) := ⟨hA17, ha15.2⟩
  refine z_iload 0 O dX6_writeIn_32 rfl ?_
  exact z_ireti O dX6_writeIn_34 rfl (by omega) (by omega) hpo (by first | rfl | omega) (⟨(((((((hf4.up (fun s h => by first | exact h.elim | omega | (simp at h ⊢; omega)))).tr (hf9.up (fun s h => by first | exact h.elim | omega | (simp at h ⊢; omega))))).tr (hf14.up (fun s h => by first | exact h.elim | omega | (simp at h ⊢; omega))))).tr (hf19.up (fun s h => by first | exact h.elim | omega | (simp at h ⊢; omega)))), ha20⟩)

theorem c_X6_pointIn {E : zE} (hst : E.1.stackTraces = false) {H : Heap} {r : zH} {t q : Nat} {G : Int → Int} {N w : Int} (hA : zA E H r t q 4086 G) (hG : sW G N) (hw : 0 ≤ w ∧ w ≤ 2) (hm0 : 0 < G (at_ w 0)) (hp : G (sIn G w 2) < 4) : zC E yX6_pointIn cX6_pointIn 3 (some .int) 3 65 [.ref q, .int (iI w)] H 0 0 (zRi (G (sIn G w 2)) (fun H1 => zFr H r H1 r (fun s => s = t) ∧ zA E H1 r t q 4086 (sPoint G w))) zN := by
  refine zC.of (by decide) (Nat.le_of_ble_eq_true rfl) hst ?_
  intro x O hE hpo hpx
  subst hE
  change zG x H 0 0 0 [(0, .ref q), (1, .int (iI w))] []
  have hi := hG.in hw hm0
  have hm := hG.m hw
  have hl := hG.l hw
  have n0 : at_ w 0 = 36 + 1350 * w + 0 := rfl
  have n1 : at_ w 1 = 36 + 1350 * w + 1 := rfl
  have n2 : at_ w 2 = 36 + 1350 * w + 2 := rfl
  have s5 : sIn G w (5 + G (sIn G w 2)) = 36 + 1350 * w + (5 + 13 * (G (at_ w 0) - 1) + (5 + G (sIn G w 2))) := rfl
  have s9 : sIn G w (9 + G (sIn G w 2)) = 36 + 1350 * w + (5 + 13 * (G (at_ w 0) - 1) + (9 + G (sIn G w 2))) := rfl
  have s2 : sIn G w 2 = 36 + 1350 * w + (5 + 13 * (G (at_ w 0) - 1) + 2) := rfl
  refine z_aload_n 0 O dX6_pointIn_0 rfl ?_
  refine z_aload_n 0 O dX6_pointIn_1 rfl ?_
  refine z_iload_n 1 O dX6_pointIn_2 rfl ?_
  refine z_iconst 2 O dX6_pointIn_3 (by decide +kernel) ?_
  refine z_Si [.ref q, .int (iI w), .int (iI 2)] [.ref q] kM_X6_77 O dX6_pointIn_4 (c_X6_innerAt hst hA hw) rfl rfl (by decide) (Nat.le_of_ble_eq_true rfl) (by omega) (by omega) (Nat.le_of_ble_eq_true rfl) zNx ?_
  have ea1 : sIn G w 2 = 36 + 1350 * w + (5 + 13 * (G (at_ w 0) - 1) + 2) := rfl
  have ea2 : at_ w 0 = 36 + 1350 * w + 0 := rfl
  refine z_iald O dX6_pointIn_7 hA.1 ⟨by omega, by omega⟩ (by omega) (by omega) ?_
  refine z_istore_n [(2, .int (iI (G (sIn G w 2)))), (0, .ref q), (1, .int (iI w))] O dX6_pointIn_8 (by decide) rfl ?_
  refine z_aload_n 1 O dX6_pointIn_9 rfl ?_
  refine z_aload_n 1 O dX6_pointIn_10 rfl ?_
  refine z_iload_n 2 O dX6_pointIn_11 rfl ?_
  refine z_iconst 5 O dX6_pointIn_12 (by decide +kernel) ?_
  refine z_iload_n 0 O dX6_pointIn_13 rfl ?_
  refine z_iadd O dX6_pointIn_14 ?_
  refine z_Si [.ref q, .int (iI w), .int (iI (5 + (G (sIn G w 2))))] [.ref q] kM_X6_77 O dX6_pointIn_15 (c_X6_innerAt hst hA hw) rfl rfl (by decide) (Nat.le_of_ble_eq_true rfl) (by omega) (by omega) (Nat.le_of_ble_eq_true rfl) zNx ?_
  have ea3 : sIn G w (5 + (G (sIn G w 2))) = 36 + 1350 * w + (5 + 13 * (G (at_ w 0) - 1) + (5 + (G (sIn G w 2)))) := rfl
  have ea4 : at_ w 0 = 36 + 1350 * w + 0 := rfl
  refine z_aload_n 1 O dX6_pointIn_18 rfl ?_
  refine z_iload_n 2 O dX6_pointIn_19 rfl ?_
  refine z_iconst 1 O dX6_pointIn_20 (by decide +kernel) ?_
  refine z_Si [.int (iI w), .int (iI 1)] [.ref q, .int (iI (sIn G w (5 + (G (sIn G w 2))))), .ref q] kM_X6_65 O dX6_pointIn_21 (c_X6_at hst) rfl rfl (by decide) (Nat.le_of_ble_eq_true rfl) (by omega) (by omega) (Nat.le_of_ble_eq_true rfl) zNx ?_
  have ea5 : at_ w 1 = 36 + 1350 * w + 1 := rfl
  refine z_iald O dX6_pointIn_24 hA.1 ⟨by omega, by omega⟩ (by omega) (by omega) ?_
  refine z_iast O dX6_pointIn_25 hA.1 ⟨by omega, by omega⟩ (by omega) (by omega) (fun H6 hA7 hC8 => ?_)
  have hf9 := hA.ch hC8
  have ha10 : zA (zEn x) H6 r t q 4086 (zU G (sIn G w (5 + (G (sIn G w 2)))) (G (at_ w 1))) := ⟨hA7, hA.2⟩
  refine z_aload_n 1 O dX6_pointIn_26 rfl ?_
  refine z_aload_n 1 O dX6_pointIn_27 rfl ?_
  refine z_iload_n 2 O dX6_pointIn_28 rfl ?_
  refine z_bipush 9 O dX6_pointIn_29 (by decide +kernel) ?_
  refine z_iload_n 0 O dX6_pointIn_31 rfl ?_
  refine z_iadd O dX6_pointIn_32 ?_
  refine z_Si [.ref q, .int (iI w), .int (iI (9 + (G (sIn G w 2))))] [.ref q] kM_X6_77 O dX6_pointIn_33 (c_X6_innerAt hst ha10 hw) rfl rfl (by decide) (Nat.le_of_ble_eq_true rfl) (by omega) (by omega) (Nat.le_of_ble_eq_true rfl) zNx ?_
  have ea11 : sIn (zU G (sIn G w (5 + (G (sIn G w 2)))) (G (at_ w 1))) w (9 + (G (sIn G w 2))) = 36 + 1350 * w + (5 + 13 * ((zU G (sIn G w (5 + (G (sIn G w 2)))) (G (at_ w 1))) (at_ w 0) - 1) + (9 + (G (sIn G w 2)))) := rfl
  have ea12 : at_ w 0 = 36 + 1350 * w + 0 := rfl
  rw [show sIn (zU G (sIn G w (5 + (G (sIn G w 2)))) (G (at_ w 1))) w (9 + (G (sIn G w 2))) = sIn G w (9 + G (sIn G w 2)) from sIn_c (zU_n (by omega))]
  refine z_aload_n 1 O dX6_pointIn_36 rfl ?_
  refine z_iload_n 2 O dX6_pointIn_37 rfl ?_
  refine z_iconst 2 O dX6_pointIn_38 (by decide +kernel) ?_
  refine z_Si [.int (iI w), .int (iI 2)] [.ref q, .int (iI (sIn G w (9 + G (sIn G w 2)))), .ref q] kM_X6_65 O dX6_pointIn_39 (c_X6_at hst) rfl rfl (by decide) (Nat.le_of_ble_eq_true rfl) (by omega) (by omega) (Nat.le_of_ble_eq_true rfl) zNx ?_
  have ea13 : at_ w 2 = 36 + 1350 * w + 2 := rfl
  refine z_iald O dX6_pointIn_42 ha10.1 ⟨by omega, by omega⟩ (by omega) (by omega) ?_
  rw [show (zU G (sIn G w (5 + (G (sIn G w 2)))) (G (at_ w 1))) (at_ w 2) = G (at_ w 2) from (zU_n (by omega))]
  refine z_iast O dX6_pointIn_43 ha10.1 ⟨by omega, by omega⟩ (by omega) (by omega) (fun H14 hA15 hC16 => ?_)
  have hf17 := ha10.ch hC16
  have ha18 : zA (zEn x) H14 r t q 4086 (zU (zU G (sIn G w (5 + (G (sIn G w 2)))) (G (at_ w 1))) (sIn G w (9 + G (sIn G w 2))) (G (at_ w 2))) := ⟨hA15, ha10.2⟩
  refine z_aload_n 1 O dX6_pointIn_44 rfl ?_
  refine z_aload_n 1 O dX6_pointIn_45 rfl ?_
  refine z_iload_n 2 O dX6_pointIn_46 rfl ?_
  refine z_iconst 2 O dX6_pointIn_47 (by decide +kernel) ?_
  refine z_Si [.ref q, .int (iI w), .int (iI 2)] [.ref q] kM_X6_77 O dX6_pointIn_48 (c_X6_innerAt hst ha18 hw) rfl rfl (by decide) (Nat.le_of_ble_eq_true rfl) (by omega) (by omega) (Nat.le_of_ble_eq_true rfl) zNx ?_
  have ea19 : sIn (zU (zU G (sIn G w (5 + (G (sIn G w 2)))) (G (at_ w 1))) (sIn G w (9 + G (sIn G w 2))) (G (at_ w 2))) w 2 = 36 + 1350 * w + (5 + 13 * ((zU (zU G (sIn G w (5 + (G (sIn G w 2)))) (G (at_ w 1))) (sIn G w (9 + G (sIn G w 2))) (G (at_ w 2))) (at_ w 0) - 1) + 2) := rfl
  have ea20 : at_ w 0 = 36 + 1350 * w + 0 := rfl
  rw [show sIn (zU (zU G (sIn G w (5 + (G (sIn G w 2)))) (G (at_ w 1))) (sIn G w (9 + G (sIn G w 2))) (G (at_ w 2))) w 2 = sIn G w 2 from sIn_c ((zU_n (by omega)).trans (zU_n (by omega)))]
  refine z_dup2 O dX6_pointIn_51 rfl rfl ?_
  refine z_iald O dX6_pointIn_52 ha18.1 ⟨by omega, by omega⟩ (by omega) (by omega) ?_
  rw [show (zU (zU G (sIn G w (5 + (G (sIn G w 2)))) (G (at_ w 1))) (sIn G w (9 + G (sIn G w 2))) (G (at_ w 2))) (sIn G w 2) = G (sIn G w 2) from ((zU_n (by omega)).trans (zU_n (by omega)))]
  refine z_iconst 1 O dX6_pointIn_53 (by decide +kernel) ?_
  refine z_iadd O dX6_pointIn_54 ?_
  refine z_iast O dX6_pointIn_55 ha18.1 ⟨by omega, by omega⟩ (by omega) (by omega) (fun H21 hA22 hC23 => ?_)
  have hf24 := ha18.ch hC23
  have ha25 : zA (zEn x) H21 r t q 4086 (zU (zU (zU G (sIn G w (5 + (G (sIn G w 2)))) (G (at_ w 1))) (sIn G w (9 + G (sIn G w 2))) (G (at_ w 2))) (sIn G w 2) ((G (sIn G w 2)) + 1)) := ⟨hA22, ha18.2⟩
  refine z_iload_n 0 O dX6_pointIn_56 rfl ?_
  exact z_ireti O dX6_pointIn_57 rfl (by omega) (by omega) hpo (by first | rfl | omega) (⟨(((((hf9.up (fun s h => by first | exact h.elim | omega | (simp at h ⊢; omega)))).tr (hf17.up (fun s h => by first | exact h.elim | omega | (simp at h ⊢; omega))))).tr (hf24.up (fun s h => by first | exact h.elim | omega | (simp at h ⊢; omega)))), ha25⟩)

theorem c_X6_undoTo {E : zE} (hst : E.1.stackTraces = false) {H : Heap} {r : zH} {t q : Nat} {G : Int → Int} {w : Int} {l : Int} (hA : zA E H r t q 4086 G) (hw : 0 ≤ w ∧ w ≤ 2) (he : eOK G w) (hl : 0 ≤ l ∧ l ≤ G (at_ w 1) ∧ G (at_ w 1) ≤ 640) : zC E yX6_undoTo cX6_undoTo 5 (some .int) 1 21 [.ref q, .int (iI w), .int (iI l)] H 0 0 (zRi (G (at_ w 1) - l) (fun H1 => zFr H r H1 r (fun s => s = t) ∧ zA E H1 r t q 4086 (sUn (G (at_ w 1) - l).toNat G w))) zN := by
  refine zC.of (by decide) (Nat.le_of_ble_eq_true rfl) hst ?_
  intro x O hE hpo hpx
  subst hE
  change zG x H 0 0 0 [(0, .ref q), (1, .int (iI w)), (2, .int (iI l))] []
  refine z_aload_n 0 O dX6_undoTo_0 rfl ?_
  refine z_iload_n 1 O dX6_undoTo_1 rfl ?_
  refine z_iconst 1 O dX6_undoTo_2 (by decide +kernel) ?_
  refine z_Si [.int (iI w), .int (iI 1)] [.ref q] kM_X6_65 O dX6_undoTo_3 (c_X6_at hst) rfl rfl (by decide) (Nat.le_of_ble_eq_true rfl) (by omega) (by omega) (Nat.le_of_ble_eq_true rfl) zNx ?_
  have ea1 : at_ w 1 = 36 + 1350 * w + 1 := rfl
  refine z_iald O dX6_undoTo_6 hA.1 ⟨by omega, by omega⟩ (by omega) (by omega) ?_
  refine z_iload_n 2 O dX6_undoTo_7 rfl ?_
  refine z_isub O dX6_undoTo_8 ?_
  refine z_istore_n [(3, .int (iI ((G (at_ w 1)) - l))), (0, .ref q), (1, .int (iI w)), (2, .int (iI l))] O dX6_undoTo_9 (by decide) rfl ?_
  have loop : ∀ (d : Nat) (K : Int → Int) (H' : Heap), (K (at_ w 1) = l + (d : Int)) → (K (at_ w 1) ≤ 640) → (eOK K w) → (sUn d K w = sUn (G (at_ w 1) - l).toNat G w) → (zFr H r H' r (fun s => s = t)) → (zA (zEn x) H' r t q 4086 K) → zG x H' 0 0 10 [(3, .int (iI (G (at_ w 1) - l))), (0, .ref q), (1, .int (iI w)), (2, .int (iI l))] [] := by
    intro d
    induction d with
    | zero =>
      intro K H' hd hK he' hR hf' hA'
      refine z_aload_n 1 O dX6_undoTo_10 rfl ?_
      refine z_iload_n 2 O dX6_undoTo_11 rfl ?_
      refine z_iconst 1 O dX6_undoTo_12 (by decide +kernel) ?_
      refine z_Si [.int (iI w), .int (iI 1)] [.ref q] kM_X6_65 O dX6_undoTo_13 (c_X6_at hst) rfl rfl (by decide) (Nat.le_of_ble_eq_true rfl) (by omega) (by omega) (Nat.le_of_ble_eq_true rfl) zNx ?_
      have ea2 : at_ w 1 = 36 + 1350 * w + 1 := rfl
      refine z_iald O dX6_undoTo_16 hA'.1 ⟨by omega, by omega⟩ (by omega) (by omega) ?_
      refine z_iload_n 3 O dX6_undoTo_17 rfl ?_
      refine z_icmp_le 65 O dX6_undoTo_18 (by decide) ⟨by omega, by omega⟩ ⟨by omega, by omega⟩ (fun c_18 => ?_) (fun c_18 => ?_)
      · skip
        refine z_iload_n 0 O dX6_undoTo_65 rfl ?_
        exact z_ireti O dX6_undoTo_66 rfl (by omega) (by omega) hpo (by first | rfl | omega) (⟨(hf'.up (fun s h => by first | exact h.elim | omega | (simp at h ⊢; omega))), (by rw [← hR]; exact hA')⟩)
      · exfalso; omega
    | succ d ih =>
      intro K H' hd hK he' hR hf' hA'
      have hen := he' (K (at_ w 1) - 1) (by omega) (by omega)
      refine z_aload_n 1 O dX6_undoTo_10 rfl ?_
      refine z_iload_n 2 O dX6_undoTo_11 rfl ?_
      refine z_iconst 1 O dX6_undoTo_12 (by decide +kernel) ?_
      refine z_Si [.int (iI w), .int (iI 1)] [.ref q] kM_X6_65 O dX6_undoTo_13 (c_X6_at hst) rfl rfl (by decide) (Nat.le_of_ble_eq_true rfl) (by omega) (by omega) (Nat.le_of_ble_eq_true rfl) zNx ?_
      have ea3 : at_ w 1 = 36 + 1350 * w + 1 := rfl
      refine z_iald O dX6_undoTo_16 hA'.1 ⟨by omega, by omega⟩ (by omega) (by omega) ?_
      refine z_iload_n 3 O dX6_undoTo_17 rfl ?_
      refine z_icmp_le 65 O dX6_undoTo_18 (by decide) ⟨by omega, by omega⟩ ⟨by omega, by omega⟩ (fun c_18 => ?_) (fun c_18 => ?_)
      · exfalso; omega
      · skip
        refine z_aload_n 1 O dX6_undoTo_21 rfl ?_
        refine z_iload_n 2 O dX6_undoTo_22 rfl ?_
        refine z_iconst 1 O dX6_undoTo_23 (by decide +kernel) ?_
        refine z_Si [.int (iI w), .int (iI 1)] [.ref q] kM_X6_65 O dX6_undoTo_24 (c_X6_at hst) rfl rfl (by decide) (Nat.le_of_ble_eq_true rfl) (by omega) (by omega) (Nat.le_of_ble_eq_true rfl) zNx ?_
        have ea4 : at_ w 1 = 36 + 1350 * w + 1 := rfl
        refine z_dup2 O dX6_undoTo_27 rfl rfl ?_
        refine z_iald O dX6_undoTo_28 hA'.1 ⟨by omega, by omega⟩ (by omega) (by omega) ?_
        refine z_iconst 1 O dX6_undoTo_29 (by decide +kernel) ?_
        refine z_isub O dX6_undoTo_30 ?_
        refine z_iast O dX6_undoTo_31 hA'.1 ⟨by omega, by omega⟩ (by omega) (by omega) (fun H5 hA6 hC7 => ?_)
        have hf8 := hA'.ch hC7
        have ha9 : zA (zEn x) H5 r t q 4086 (zU K (at_ w 1) ((K (at_ w 1)) - 1)) := ⟨hA6, hA'.2⟩
        refine z_aload_n 1 O dX6_undoTo_32 rfl ?_
        refine z_iload_n 2 O dX6_undoTo_33 rfl ?_
        refine z_bipush 70 O dX6_undoTo_34 (by decide +kernel) ?_
        refine z_aload_n 1 O dX6_undoTo_36 rfl ?_
        refine z_iload_n 2 O dX6_undoTo_37 rfl ?_
        refine z_iconst 1 O dX6_undoTo_38 (by decide +kernel) ?_
        refine z_Si [.int (iI w), .int (iI 1)] [.ref q, .int (iI 70), .int (iI w), .ref q] kM_X6_65 O dX6_undoTo_39 (c_X6_at hst) rfl rfl (by decide) (Nat.le_of_ble_eq_true rfl) (by omega) (by omega) (Nat.le_of_ble_eq_true rfl) zNx ?_
        have ea10 : at_ w 1 = 36 + 1350 * w + 1 := rfl
        refine z_iald O dX6_undoTo_42 ha9.1 ⟨by omega, by omega⟩ (by omega) (by omega) ?_
        rw [show (zU K (at_ w 1) ((K (at_ w 1)) - 1)) (at_ w 1) = K (at_ w 1) - 1 from zU_s]
        refine z_iadd O dX6_undoTo_43 ?_
        refine z_Si [.int (iI w), .int (iI (70 + (K (at_ w 1) - 1)))] [.ref q] kM_X6_65 O dX6_undoTo_44 (c_X6_at hst) rfl rfl (by decide) (Nat.le_of_ble_eq_true rfl) (by omega) (by omega) (Nat.le_of_ble_eq_true rfl) zNx ?_
        have ea11 : at_ w (70 + (K (at_ w 1) - 1)) = 36 + 1350 * w + (70 + (K (at_ w 1) - 1)) := rfl
        refine z_iald O dX6_undoTo_47 ha9.1 ⟨by omega, by omega⟩ (by omega) (by omega) ?_
        rw [show (zU K (at_ w 1) ((K (at_ w 1)) - 1)) (at_ w (70 + (K (at_ w 1) - 1))) = K (at_ w (70 + (K (at_ w 1) - 1))) from (zU_n (by first | omega | (simp only [sIn, wA, at_]; omega) | (simp only [sIn, wA, at_] at *; omega)))]
        refine z_istore [(4, .int (iI (K (at_ w (70 + (K (at_ w 1) - 1)))))), (3, .int (iI (G (at_ w 1) - l))), (0, .ref q), (1, .int (iI w)), (2, .int (iI l))] O dX6_undoTo_48 (by decide) rfl ?_
        refine z_aload_n 2 O dX6_undoTo_50 rfl ?_
        refine z_iload 0 O dX6_undoTo_51 rfl ?_
        refine z_bipush 100 O dX6_undoTo_53 (by decide +kernel) ?_
        refine z_idiv O dX6_undoTo_55 ⟨by omega, by omega⟩ ⟨by omega, by omega⟩ (by omega) (by omega) ?_
        refine z_iload 0 O dX6_undoTo_56 rfl ?_
        refine z_bipush 100 O dX6_undoTo_58 (by decide +kernel) ?_
        refine z_irem O dX6_undoTo_60 ⟨by omega, by omega⟩ ⟨by omega, by omega⟩ (by omega) (by omega) ?_
        refine z_iast O dX6_undoTo_61 ha9.1 ⟨by omega, by omega⟩ (by omega) (by omega) (fun H12 hA13 hC14 => ?_)
        have hf15 := ha9.ch hC14
        have ha16 : zA (zEn x) H12 r t q 4086 (zU (zU K (at_ w 1) ((K (at_ w 1)) - 1)) ((K (at_ w (70 + (K (at_ w 1) - 1)))) / 100) ((K (at_ w (70 + (K (at_ w 1) - 1)))) % 100)) := ⟨hA13, ha9.2⟩
        refine z_goto 10 O dX6_undoTo_62 (by decide) ?_
        refine z_locs [1, 2, 3, 4] rfl ?_
        exact ih (sUs K w) H12 (by rw [sUs_1 hw.1 hen]; omega) (by rw [sUs_1 hw.1 hen]; omega) (sUs_e hw.1 he' (by omega)) hR (((((hf'.up (fun s h => by first | exact h.elim | omega | (simp at h ⊢; omega)))).tr (hf8.up (fun s h => by first | exact h.elim | omega | (simp at h ⊢; omega))))).tr (hf15.up (fun s h => by first | exact h.elim | omega | (simp at h ⊢; omega)))) ha16
  exact loop (G (at_ w 1) - l).toNat G H (by omega) (by omega) he rfl zFr.rf hA

theorem c_X6_backIn {E : zE} (hst : E.1.stackTraces = false) {H : Heap} {r : zH} {t q : Nat} {G : Int → Int} {N w : Int} {i : Int} (hA : zA E H r t q 4086 G) (hG : sW G N) (hw : 0 ≤ w ∧ w ≤ 2) (hm0 : 0 < G (at_ w 0)) (hj : 0 ≤ i ∧ i < G (sIn G w 2)) : zC E yX6_backIn cX6_backIn 4 (some .int) 3 65 [.ref q, .int (iI w), .int (iI i)] H 0 0 (zRi (G (at_ w 1) - G (sIn G w (5 + i))) (fun H1 => zFr H r H1 r (fun s => s = t) ∧ zA E H1 r t q 4086 (sBack G w i))) zN := by
  refine zC.of (by decide) (Nat.le_of_ble_eq_true rfl) hst ?_
  intro x O hE hpo hpx
  subst hE
  change zG x H 0 0 0 [(0, .ref q), (1, .int (iI w)), (2, .int (iI i))] []
  have hi := hG.in hw hm0
  have hm := hG.m hw
  have hl := hG.l hw
  have n0 : at_ w 0 = 36 + 1350 * w + 0 := rfl
  have n1 : at_ w 1 = 36 + 1350 * w + 1 := rfl
  have n2 : at_ w 2 = 36 + 1350 * w + 2 := rfl
  have s5 : sIn G w (5 + i) = 36 + 1350 * w + (5 + 13 * (G (at_ w 0) - 1) + (5 + i)) := rfl
  have s9 : sIn G w (9 + i) = 36 + 1350 * w + (5 + 13 * (G (at_ w 0) - 1) + (9 + i)) := rfl
  have s2 : sIn G w 2 = 36 + 1350 * w + (5 + 13 * (G (at_ w 0) - 1) + 2) := rfl
  have hjj := hi.2.2.2.2.2 i hj.1 hj.2
  have he : eOK G w := fun k a b => hG.e hw a b
  have hU := sUn_n (G (at_ w 1) - G (sIn G w (5 + i))).toNat hw.1 he (by omega)
  have hU0 := hU.1 (at_ w 0) (by omega) (by omega)
  have hU9 := hU.1 (sIn G w (9 + i)) (by omega) (by omega)
  refine z_aload_n 0 O dX6_backIn_0 rfl ?_
  refine z_iload_n 1 O dX6_backIn_1 rfl ?_
  refine z_aload_n 0 O dX6_backIn_2 rfl ?_
  refine z_aload_n 0 O dX6_backIn_3 rfl ?_
  refine z_iload_n 1 O dX6_backIn_4 rfl ?_
  refine z_iconst 5 O dX6_backIn_5 (by decide +kernel) ?_
  refine z_iload_n 2 O dX6_backIn_6 rfl ?_
  refine z_iadd O dX6_backIn_7 ?_
  refine z_Si [.ref q, .int (iI w), .int (iI (5 + i))] [.ref q, .int (iI w), .ref q] kM_X6_77 O dX6_backIn_8 (c_X6_innerAt hst hA hw) rfl rfl (by decide) (Nat.le_of_ble_eq_true rfl) (by omega) (by omega) (Nat.le_of_ble_eq_true rfl) zNx ?_
  have ea1 : sIn G w (5 + i) = 36 + 1350 * w + (5 + 13 * (G (at_ w 0) - 1) + (5 + i)) := rfl
  have ea2 : at_ w 0 = 36 + 1350 * w + 0 := rfl
  refine z_iald O dX6_backIn_11 hA.1 ⟨by omega, by omega⟩ (by omega) (by omega) ?_
  refine z_Sim [.ref q, .int (iI w), .int (iI (G (sIn G w (5 + i))))] [] kM_X6_96 O dX6_backIn_12 (c_X6_undoTo hst hA hw he ⟨by omega, by omega, by omega⟩) rfl rfl (by decide) (Nat.le_of_ble_eq_true rfl) (by omega) (by omega) (Nat.le_of_ble_eq_true rfl) zNx (fun H3 hp4 hz5 => ?_)
  obtain ⟨hf6, ha7⟩ := hp4
  refine z_istore_n [(3, .int (iI (G (at_ w 1) - G (sIn G w (5 + i))))), (0, .ref q), (1, .int (iI w)), (2, .int (iI i))] O dX6_backIn_15 (by decide) rfl ?_
  refine z_aload_n 1 O dX6_backIn_16 rfl ?_
  refine z_iload_n 2 O dX6_backIn_17 rfl ?_
  refine z_iconst 2 O dX6_backIn_18 (by decide +kernel) ?_
  refine z_Si [.int (iI w), .int (iI 2)] [.ref q] kM_X6_65 O dX6_backIn_19 (c_X6_at hst) rfl rfl (by decide) (Nat.le_of_ble_eq_true rfl) (by omega) (by omega) (Nat.le_of_ble_eq_true rfl) zNx ?_
  have ea8 : at_ w 2 = 36 + 1350 * w + 2 := rfl
  refine z_aload_n 1 O dX6_backIn_22 rfl ?_
  refine z_aload_n 1 O dX6_backIn_23 rfl ?_
  refine z_iload_n 2 O dX6_backIn_24 rfl ?_
  refine z_bipush 9 O dX6_backIn_25 (by decide +kernel) ?_
  refine z_iload_n 3 O dX6_backIn_27 rfl ?_
  refine z_iadd O dX6_backIn_28 ?_
  refine z_Si [.ref q, .int (iI w), .int (iI (9 + i))] [.ref q, .int (iI (at_ w 2)), .ref q] kM_X6_77 O dX6_backIn_29 (c_X6_innerAt hst ha7 hw) rfl rfl (by decide) (Nat.le_of_ble_eq_true rfl) (by omega) (by omega) (Nat.le_of_ble_eq_true rfl) zNx ?_
  have ea9 : sIn (sUn (G (at_ w 1) - G (sIn G w (5 + i))).toNat G w) w (9 + i) = 36 + 1350 * w + (5 + 13 * ((sUn (G (at_ w 1) - G (sIn G w (5 + i))).toNat G w) (at_ w 0) - 1) + (9 + i)) := rfl
  have ea10 : at_ w 0 = 36 + 1350 * w + 0 := rfl
  rw [show sIn (sUn (G (at_ w 1) - G (sIn G w (5 + i))).toNat G w) w (9 + i) = sIn G w (9 + i) from sIn_c hU0]
  refine z_iald O dX6_backIn_32 ha7.1 ⟨by omega, by omega⟩ (by omega) (by omega) ?_
  rw [show (sUn (G (at_ w 1) - G (sIn G w (5 + i))).toNat G w) (sIn G w (9 + i)) = G (sIn G w (9 + i)) from hU9]
  refine z_iast O dX6_backIn_33 ha7.1 ⟨by omega, by omega⟩ (by omega) (by omega) (fun H11 hA12 hC13 => ?_)
  have hf14 := ha7.ch hC13
  have ha15 : zA (zEn x) H11 r t q 4086 (zU (sUn (G (at_ w 1) - G (sIn G w (5 + i))).toNat G w) (at_ w 2) (G (sIn G w (9 + i)))) := ⟨hA12, ha7.2⟩
  refine z_aload_n 1 O dX6_backIn_34 rfl ?_
  refine z_aload_n 1 O dX6_backIn_35 rfl ?_
  refine z_iload_n 2 O dX6_backIn_36 rfl ?_
  refine z_iconst 2 O dX6_backIn_37 (by decide +kernel) ?_
  refine z_Si [.ref q, .int (iI w), .int (iI 2)] [.ref q] kM_X6_77 O dX6_backIn_38 (c_X6_innerAt hst ha15 hw) rfl rfl (by decide) (Nat.le_of_ble_eq_true rfl) (by omega) (by omega) (Nat.le_of_ble_eq_true rfl) zNx ?_
  have ea16 : sIn (zU (sUn (G (at_ w 1) - G (sIn G w (5 + i))).toNat G w) (at_ w 2) (G (sIn G w (9 + i)))) w 2 = 36 + 1350 * w + (5 + 13 * ((zU (sUn (G (at_ w 1) - G (sIn G w (5 + i))).toNat G w) (at_ w 2) (G (sIn G w (9 + i)))) (at_ w 0) - 1) + 2) := rfl
  have ea17 : at_ w 0 = 36 + 1350 * w + 0 := rfl
  rw [show sIn (zU (sUn (G (at_ w 1) - G (sIn G w (5 + i))).toNat G w) (at_ w 2) (G (sIn G w (9 + i)))) w 2 = sIn G w 2 from sIn_c ((zU_n (by omega)).trans hU0)]
  refine z_iload_n 3 O dX6_backIn_41 rfl ?_
  refine z_iconst 1 O dX6_backIn_42 (by decide +kernel) ?_
  refine z_iadd O dX6_backIn_43 ?_
  refine z_iast O dX6_backIn_44 ha15.1 ⟨by omega, by omega⟩ (by omega) (by omega) (fun H18 hA19 hC20 => ?_)
  have hf21 := ha15.ch hC20
  have ha22 : zA (zEn x) H18 r t q 4086 (zU (zU (sUn (G (at_ w 1) - G (sIn G w (5 + i))).toNat G w) (at_ w 2) (G (sIn G w (9 + i)))) (sIn G w 2) (i + 1)) := ⟨hA19, ha15.2⟩
  refine z_iload_n 0 O dX6_backIn_45 rfl ?_
  exact z_ireti O dX6_backIn_46 rfl (by omega) (by omega) hpo (by first | rfl | omega) (⟨(((((hf6.up (fun s h => by first | exact h.elim | omega | (simp at h ⊢; omega)))).tr (hf14.up (fun s h => by first | exact h.elim | omega | (simp at h ⊢; omega))))).tr (hf21.up (fun s h => by first | exact h.elim | omega | (simp at h ⊢; omega)))), ha22⟩)

theorem c_X6_regretIn {E : zE} (hst : E.1.stackTraces = false) {H : Heap} {r : zH} {t q : Nat} {G : Int → Int} {w : Int} {c n : Int} (hA : zA E H r t q 4086 G) (hw : 0 ≤ w ∧ w ≤ 2) (hm : 0 < G (at_ w 0) ∧ G (at_ w 0) ≤ 5) (hc : 0 ≤ c ∧ c < 16) (hl : 0 ≤ G (at_ w 2) ∧ G (at_ w 2) ≤ 639) : zC E yX6_regretIn cX6_regretIn 4 (some .int) 3 66 [.ref q, .int (iI w), .int (iI c), .int (iI n)] H 0 0 (zRi (sRg (sRegret G w c n) w (G (at_ w 0) - 1)) (fun H1 => zFr H r H1 r (fun s => s = t) ∧ zA E H1 r t q 4086 (sRegret G w c n))) zN := by
  refine zC.of (by decide) (Nat.le_of_ble_eq_true rfl) hst ?_
  intro x O hE hpo hpx
  subst hE
  change zG x H 0 0 0 [(0, .ref q), (1, .int (iI w)), (2, .int (iI c)), (3, .int (iI n))] []
  have n0 : at_ w 0 = 36 + 1350 * w + 0 := rfl
  have n1 : at_ w 1 = 36 + 1350 * w + 1 := rfl
  have n2 : at_ w 2 = 36 + 1350 * w + 2 := rfl
  have n7 : at_ w (710 + G (at_ w 2)) = 36 + 1350 * w + (710 + G (at_ w 2)) := rfl
  have hM : sRegret G w c n (at_ w 0) = G (at_ w 0) := by unfold sRegret; rw [zU_n (by omega), zU_n (by omega), zU_n (by omega)]
  refine z_aload_n 0 O dX6_regretIn_0 rfl ?_
  refine z_bipush 16 O dX6_regretIn_1 (by decide +kernel) ?_
  refine z_iload_n 2 O dX6_regretIn_3 rfl ?_
  refine z_iadd O dX6_regretIn_4 ?_
  refine z_iload_n 1 O dX6_regretIn_5 rfl ?_
  refine z_iconst 1 O dX6_regretIn_6 (by decide +kernel) ?_
  refine z_iadd O dX6_regretIn_7 ?_
  refine z_iast O dX6_regretIn_8 hA.1 ⟨by omega, by omega⟩ (by omega) (by omega) (fun H1 hA2 hC3 => ?_)
  have hf4 := hA.ch hC3
  have ha5 : zA (zEn x) H1 r t q 4086 (zU G (16 + c) (w + 1)) := ⟨hA2, hA.2⟩
  refine z_aload_n 0 O dX6_regretIn_9 rfl ?_
  refine z_iload_n 1 O dX6_regretIn_10 rfl ?_
  refine z_sipush 710 O dX6_regretIn_11 (by decide +kernel) ?_
  refine z_aload_n 0 O dX6_regretIn_14 rfl ?_
  refine z_iload_n 1 O dX6_regretIn_15 rfl ?_
  refine z_iconst 2 O dX6_regretIn_16 (by decide +kernel) ?_
  refine z_Si [.int (iI w), .int (iI 2)] [.ref q, .int (iI 710), .int (iI w), .ref q] kM_X6_65 O dX6_regretIn_17 (c_X6_at hst) rfl rfl (by decide) (Nat.le_of_ble_eq_true rfl) (by omega) (by omega) (Nat.le_of_ble_eq_true rfl) zNx ?_
  have ea6 : at_ w 2 = 36 + 1350 * w + 2 := rfl
  refine z_iald O dX6_regretIn_20 ha5.1 ⟨by omega, by omega⟩ (by omega) (by omega) ?_
  rw [show (zU G (16 + c) (w + 1)) (at_ w 2) = G (at_ w 2) from (zU_n (by omega))]
  refine z_iadd O dX6_regretIn_21 ?_
  refine z_Si [.int (iI w), .int (iI (710 + (G (at_ w 2))))] [.ref q] kM_X6_65 O dX6_regretIn_22 (c_X6_at hst) rfl rfl (by decide) (Nat.le_of_ble_eq_true rfl) (by omega) (by omega) (Nat.le_of_ble_eq_true rfl) zNx ?_
  have ea7 : at_ w (710 + (G (at_ w 2))) = 36 + 1350 * w + (710 + (G (at_ w 2))) := rfl
  refine z_bipush 100 O dX6_regretIn_25 (by decide +kernel) ?_
  refine z_iload_n 2 O dX6_regretIn_27 rfl ?_
  refine z_imul O dX6_regretIn_28 ?_
  refine z_iload_n 3 O dX6_regretIn_29 rfl ?_
  refine z_iadd O dX6_regretIn_30 ?_
  refine z_iast O dX6_regretIn_31 ha5.1 ⟨by omega, by omega⟩ (by omega) (by omega) (fun H8 hA9 hC10 => ?_)
  have hf11 := ha5.ch hC10
  have ha12 : zA (zEn x) H8 r t q 4086 (zU (zU G (16 + c) (w + 1)) (at_ w (710 + (G (at_ w 2)))) ((100 * c) + n)) := ⟨hA9, ha5.2⟩
  refine z_aload_n 0 O dX6_regretIn_32 rfl ?_
  refine z_iload_n 1 O dX6_regretIn_33 rfl ?_
  refine z_iconst 2 O dX6_regretIn_34 (by decide +kernel) ?_
  refine z_Si [.int (iI w), .int (iI 2)] [.ref q] kM_X6_65 O dX6_regretIn_35 (c_X6_at hst) rfl rfl (by decide) (Nat.le_of_ble_eq_true rfl) (by omega) (by omega) (Nat.le_of_ble_eq_true rfl) zNx ?_
  have ea13 : at_ w 2 = 36 + 1350 * w + 2 := rfl
  refine z_dup2 O dX6_regretIn_38 rfl rfl ?_
  refine z_iald O dX6_regretIn_39 ha12.1 ⟨by omega, by omega⟩ (by omega) (by omega) ?_
  rw [show (zU (zU G (16 + c) (w + 1)) (at_ w (710 + (G (at_ w 2)))) ((100 * c) + n)) (at_ w 2) = G (at_ w 2) from ((zU_n (by omega)).trans (zU_n (by omega)))]
  refine z_iconst 1 O dX6_regretIn_40 (by decide +kernel) ?_
  refine z_iadd O dX6_regretIn_41 ?_
  refine z_iast O dX6_regretIn_42 ha12.1 ⟨by omega, by omega⟩ (by omega) (by omega) (fun H14 hA15 hC16 => ?_)
  have hf17 := ha12.ch hC16
  have ha18 : zA (zEn x) H14 r t q 4086 (zU (zU (zU G (16 + c) (w + 1)) (at_ w (710 + (G (at_ w 2)))) ((100 * c) + n)) (at_ w 2) ((G (at_ w 2)) + 1)) := ⟨hA15, ha12.2⟩
  refine z_aload_n 0 O dX6_regretIn_43 rfl ?_
  refine z_iload_n 1 O dX6_regretIn_44 rfl ?_
  refine z_aload_n 0 O dX6_regretIn_45 rfl ?_
  refine z_iload_n 1 O dX6_regretIn_46 rfl ?_
  refine z_Si [.ref q, .int (iI w)] [.int (iI w), .ref q] kM_X6_69 O dX6_regretIn_47 (c_X6_many hst ha18 hw) rfl rfl (by decide) (Nat.le_of_ble_eq_true rfl) (by omega) (by omega) (Nat.le_of_ble_eq_true rfl) zNx ?_
  rw [show (zU (zU (zU G (16 + c) (w + 1)) (at_ w (710 + (G (at_ w 2)))) ((100 * c) + n)) (at_ w 2) ((G (at_ w 2)) + 1)) (at_ w 0) = G (at_ w 0) from hM]
  refine z_iconst 1 O dX6_regretIn_50 (by decide +kernel) ?_
  refine z_isub O dX6_regretIn_51 ?_
  refine z_Si [.ref q, .int (iI w), .int (iI ((G (at_ w 0)) - 1))] [] kM_X6_102 O dX6_regretIn_52 (c_X6_regretsOf hst ha18 (show 0 ≤ sRegret G w c n (at_ w 0) ∧ sRegret G w c n (at_ w 0) ≤ 5 by rw [hM]; omega) hw (show 0 ≤ G (at_ w 0) - 1 ∧ G (at_ w 0) - 1 < sRegret G w c n (at_ w 0) by rw [hM]; omega)) rfl rfl (by decide) (Nat.le_of_ble_eq_true rfl) (by omega) (by omega) (Nat.le_of_ble_eq_true rfl) zNx ?_
  exact z_ireti O dX6_regretIn_55 rfl (by omega) (by omega) hpo (by first | rfl | omega) (⟨(((((hf4.up (fun s h => by first | exact h.elim | omega | (simp at h ⊢; omega)))).tr (hf11.up (fun s h => by first | exact h.elim | omega | (simp at h ⊢; omega))))).tr (hf17.up (fun s h => by first | exact h.elim | omega | (simp at h ⊢; omega)))), ha18⟩)
