/-! the reference: its methods that read (written by program: wip/whole/gen/model1.py) -/
theorem c_X6_in {E : zE} (hst : E.1.stackTraces = false) {H : Heap} {u a b : Int} (hu : zRL u) (ha : zRL a) (hb : zRL b) : zC E yX6_in cX6_in 6 (some .boolean) 0 0 [.long (iL u), .long (iL a), .long (iL b)] H 0 0 (zRi (zb (sBt u a b)) (zSm H)) zN := by
  refine zC.of (by decide) (Nat.le_of_ble_eq_true rfl) hst ?_
  intro x O hE hpo hpx
  subst hE
  change zG x H 0 0 0 [(0, .long (iL u)), (2, .long (iL a)), (4, .long (iL b))] []
  refine z_lload_n 0 O dX6_in_0 rfl ?_
  refine z_lload_n 1 O dX6_in_1 rfl ?_
  refine z_lif_lt 17 O dX6_in_2 dX6_in_3 (by decide) ⟨by omega, by omega⟩ ⟨by omega, by omega⟩ (fun c_2 => ?_) (fun c_2 => ?_)
  · skip
    refine z_iconst 0 O dX6_in_17 (by decide +kernel) ?_
    exact z_iretb O dX6_in_18 rfl (by omega) (by omega) hpo (by unfold sBt; first | exact zb_t (decide_eq_true (by omega)) | exact zb_f (decide_eq_false (by omega))) (rfl)
  · skip
    refine z_lload_n 0 O dX6_in_6 rfl ?_
    refine z_lload 2 O dX6_in_7 rfl ?_
    refine z_lif_gt 17 O dX6_in_9 dX6_in_10 (by decide) ⟨by omega, by omega⟩ ⟨by omega, by omega⟩ (fun c_9 => ?_) (fun c_9 => ?_)
    · skip
      refine z_iconst 0 O dX6_in_17 (by decide +kernel) ?_
      exact z_iretb O dX6_in_18 rfl (by omega) (by omega) hpo (by unfold sBt; first | exact zb_t (decide_eq_true (by omega)) | exact zb_f (decide_eq_false (by omega))) (rfl)
    · skip
      refine z_iconst 1 O dX6_in_13 (by decide +kernel) ?_
      refine z_goto 18 O dX6_in_14 (by decide) ?_
      exact z_iretb O dX6_in_18 rfl (by omega) (by omega) hpo (by unfold sBt; first | exact zb_t (decide_eq_true (by omega)) | exact zb_f (decide_eq_false (by omega))) (rfl)

theorem c_X6_at {E : zE} (hst : E.1.stackTraces = false) {H : Heap} {w k : Int}  : zC E yX6_at cX6_at 2 (some .int) 0 0 [.int (iI w), .int (iI k)] H 0 0 (zRi (at_ w k) (zSm H)) zN := by
  refine zC.of (by decide) (Nat.le_of_ble_eq_true rfl) hst ?_
  intro x O hE hpo hpx
  subst hE
  change zG x H 0 0 0 [(0, .int (iI w)), (1, .int (iI k))] []
  refine z_bipush 36 O dX6_at_0 (by decide +kernel) ?_
  refine z_sipush 1350 O dX6_at_2 (by decide +kernel) ?_
  refine z_iload_n 0 O dX6_at_5 rfl ?_
  refine z_imul O dX6_at_6 ?_
  refine z_iadd O dX6_at_7 ?_
  refine z_iload_n 1 O dX6_at_8 rfl ?_
  refine z_iadd O dX6_at_9 ?_
  exact z_ireti O dX6_at_10 rfl (by omega) (by omega) hpo (by first | rfl | omega) (rfl)

theorem c_X6_workAt {E : zE} (hst : E.1.stackTraces = false) {H : Heap} {w i k : Int}  : zC E yX6_workAt cX6_workAt 3 (some .int) 1 21 [.int (iI w), .int (iI i), .int (iI k)] H 0 0 (zRi (wA w i k) (zSm H)) zN := by
  refine zC.of (by decide) (Nat.le_of_ble_eq_true rfl) hst ?_
  intro x O hE hpo hpx
  subst hE
  change zG x H 0 0 0 [(0, .int (iI w)), (1, .int (iI i)), (2, .int (iI k))] []
  refine z_iload_n 0 O dX6_workAt_0 rfl ?_
  refine z_iconst 5 O dX6_workAt_1 (by decide +kernel) ?_
  refine z_bipush 13 O dX6_workAt_2 (by decide +kernel) ?_
  refine z_iload_n 1 O dX6_workAt_4 rfl ?_
  refine z_imul O dX6_workAt_5 ?_
  refine z_iadd O dX6_workAt_6 ?_
  refine z_iload_n 2 O dX6_workAt_7 rfl ?_
  refine z_iadd O dX6_workAt_8 ?_
  refine z_Si [.int (iI w), .int (iI ((5 + (13 * i)) + k))] [] kM_X6_65 O dX6_workAt_9 (c_X6_at hst) rfl rfl (by decide) (Nat.le_of_ble_eq_true rfl) (by omega) (by omega) (Nat.le_of_ble_eq_true rfl) zNx ?_
  have ea1 : at_ w ((5 + (13 * i)) + k) = 36 + 1350 * w + ((5 + (13 * i)) + k) := rfl
  exact z_ireti O dX6_workAt_12 rfl (by omega) (by omega) hpo (by first | rfl | omega) (rfl)

theorem c_X6_many {E : zE} (hst : E.1.stackTraces = false) {H : Heap} {r : zH} {t q : Nat} {G : Int → Int} {w : Int} (hA : zA E H r t q 4086 G) (hw : 0 ≤ w ∧ w ≤ 2) : zC E yX6_many cX6_many 2 (some .int) 1 21 [.ref q, .int (iI w)] H 0 0 (zRi (G (at_ w 0)) (zSm H)) zN := by
  refine zC.of (by decide) (Nat.le_of_ble_eq_true rfl) hst ?_
  intro x O hE hpo hpx
  subst hE
  change zG x H 0 0 0 [(0, .ref q), (1, .int (iI w))] []
  refine z_aload_n 0 O dX6_many_0 rfl ?_
  refine z_iload_n 1 O dX6_many_1 rfl ?_
  refine z_iconst 0 O dX6_many_2 (by decide +kernel) ?_
  refine z_Si [.int (iI w), .int (iI 0)] [.ref q] kM_X6_65 O dX6_many_3 (c_X6_at hst) rfl rfl (by decide) (Nat.le_of_ble_eq_true rfl) (by omega) (by omega) (Nat.le_of_ble_eq_true rfl) zNx ?_
  have ea1 : at_ w 0 = 36 + 1350 * w + 0 := rfl
  refine z_iald O dX6_many_6 hA.1 ⟨by omega, by omega⟩ (by omega) (by omega) ?_
  exact z_ireti O dX6_many_7 rfl (by omega) (by omega) hpo (by first | rfl | omega) (rfl)

theorem c_X6_innerAt {E : zE} (hst : E.1.stackTraces = false) {H : Heap} {r : zH} {t q : Nat} {G : Int → Int} {w : Int} {k : Int} (hA : zA E H r t q 4086 G) (hw : 0 ≤ w ∧ w ≤ 2) : zC E yX6_innerAt cX6_innerAt 3 (some .int) 2 43 [.ref q, .int (iI w), .int (iI k)] H 0 0 (zRi (sIn G w k) (zSm H)) zN := by
  refine zC.of (by decide) (Nat.le_of_ble_eq_true rfl) hst ?_
  intro x O hE hpo hpx
  subst hE
  change zG x H 0 0 0 [(0, .ref q), (1, .int (iI w)), (2, .int (iI k))] []
  refine z_iload_n 1 O dX6_innerAt_0 rfl ?_
  refine z_aload_n 0 O dX6_innerAt_1 rfl ?_
  refine z_iload_n 1 O dX6_innerAt_2 rfl ?_
  refine z_Si [.ref q, .int (iI w)] [.int (iI w)] kM_X6_69 O dX6_innerAt_3 (c_X6_many hst hA hw) rfl rfl (by decide) (Nat.le_of_ble_eq_true rfl) (by omega) (by omega) (Nat.le_of_ble_eq_true rfl) zNx ?_
  refine z_iconst 1 O dX6_innerAt_6 (by decide +kernel) ?_
  refine z_isub O dX6_innerAt_7 ?_
  refine z_iload_n 2 O dX6_innerAt_8 rfl ?_
  refine z_Si [.int (iI w), .int (iI ((G (at_ w 0)) - 1)), .int (iI k)] [] kM_X6_73 O dX6_innerAt_9 (c_X6_workAt hst) rfl rfl (by decide) (Nat.le_of_ble_eq_true rfl) (by omega) (by omega) (Nat.le_of_ble_eq_true rfl) zNx ?_
  have ea1 : wA w ((G (at_ w 0)) - 1) k = 36 + 1350 * w + (5 + 13 * ((G (at_ w 0)) - 1) + k) := rfl
  exact z_ireti O dX6_innerAt_12 rfl (by omega) (by omega) hpo (by first | rfl | omega) (rfl)

theorem c_X6_isSpoiled {E : zE} (hst : E.1.stackTraces = false) {H : Heap} {r : zH} {t q : Nat} {G : Int → Int} {N w : Int} (hA : zA E H r t q 4086 G) (hG : sW G N) (hw : 0 ≤ w ∧ w ≤ 2) : zC E yX6_isSpoiled cX6_isSpoiled 2 (some .boolean) 3 65 [.ref q, .int (iI w)] H 0 0 (zRi (zb (sSp G w)) (zSm H)) zN := by
  refine zC.of (by decide) (Nat.le_of_ble_eq_true rfl) hst ?_
  intro x O hE hpo hpx
  subst hE
  change zG x H 0 0 0 [(0, .ref q), (1, .int (iI w))] []
  have hm := hG.m hw
  refine z_aload_n 0 O dX6_isSpoiled_0 rfl ?_
  refine z_iload_n 1 O dX6_isSpoiled_1 rfl ?_
  refine z_Si [.ref q, .int (iI w)] [] kM_X6_69 O dX6_isSpoiled_2 (c_X6_many hst hA hw) rfl rfl (by decide) (Nat.le_of_ble_eq_true rfl) (by omega) (by omega) (Nat.le_of_ble_eq_true rfl) zNx ?_
  refine z_if_le 24 O dX6_isSpoiled_5 (by decide) ⟨by omega, by omega⟩ (fun c_5 => ?_) (fun c_5 => ?_)
  · skip
    refine z_iconst 0 O dX6_isSpoiled_24 (by decide +kernel) ?_
    exact z_iretb O dX6_isSpoiled_25 rfl (by omega) (by omega) hpo (by unfold sSp; first | exact zb_t (decide_eq_true (by omega)) | exact zb_f (decide_eq_false (by omega))) (rfl)
  · skip
    have hi := hG.in hw (by omega)
    refine z_aload_n 0 O dX6_isSpoiled_8 rfl ?_
    refine z_aload_n 0 O dX6_isSpoiled_9 rfl ?_
    refine z_iload_n 1 O dX6_isSpoiled_10 rfl ?_
    refine z_iconst 4 O dX6_isSpoiled_11 (by decide +kernel) ?_
    refine z_Si [.ref q, .int (iI w), .int (iI 4)] [.ref q] kM_X6_77 O dX6_isSpoiled_12 (c_X6_innerAt hst hA hw) rfl rfl (by decide) (Nat.le_of_ble_eq_true rfl) (by omega) (by omega) (Nat.le_of_ble_eq_true rfl) zNx ?_
    have ea1 : sIn G w 4 = 36 + 1350 * w + (5 + 13 * (G (at_ w 0) - 1) + 4) := rfl
    have ea2 : at_ w 0 = 36 + 1350 * w + 0 := rfl
    refine z_iald O dX6_isSpoiled_15 hA.1 ⟨by omega, by omega⟩ (by omega) (by omega) ?_
    refine z_iconst 1 O dX6_isSpoiled_16 (by decide +kernel) ?_
    refine z_icmp_ne 24 O dX6_isSpoiled_17 (by decide) ⟨by omega, by omega⟩ ⟨by omega, by omega⟩ (fun c_17 => ?_) (fun c_17 => ?_)
    · skip
      refine z_iconst 0 O dX6_isSpoiled_24 (by decide +kernel) ?_
      exact z_iretb O dX6_isSpoiled_25 rfl (by omega) (by omega) hpo (by unfold sSp; first | exact zb_t (decide_eq_true (by omega)) | exact zb_f (decide_eq_false (by omega))) (rfl)
    · skip
      refine z_iconst 1 O dX6_isSpoiled_20 (by decide +kernel) ?_
      refine z_goto 25 O dX6_isSpoiled_21 (by decide) ?_
      exact z_iretb O dX6_isSpoiled_25 rfl (by omega) (by omega) hpo (by unfold sSp; first | exact zb_t (decide_eq_true (by omega)) | exact zb_f (decide_eq_false (by omega))) (rfl)

theorem c_X6_isOpen {E : zE} (hst : E.1.stackTraces = false) {H : Heap} {r : zH} {t q : Nat} {G : Int → Int} {N w : Int} (hA : zA E H r t q 4086 G) (hG : sW G N) (hw : 0 ≤ w ∧ w ≤ 2) : zC E yX6_isOpen cX6_isOpen 2 (some .boolean) 4 86 [.ref q, .int (iI w)] H 0 0 (zRi (zb (sOp G w)) (zSm H)) zN := by
  refine zC.of (by decide) (Nat.le_of_ble_eq_true rfl) hst ?_
  intro x O hE hpo hpx
  subst hE
  change zG x H 0 0 0 [(0, .ref q), (1, .int (iI w))] []
  have hm := hG.m hw
  refine z_aload_n 0 O dX6_isOpen_0 rfl ?_
  refine z_iload_n 1 O dX6_isOpen_1 rfl ?_
  refine z_Si [.ref q, .int (iI w)] [] kM_X6_69 O dX6_isOpen_2 (c_X6_many hst hA hw) rfl rfl (by decide) (Nat.le_of_ble_eq_true rfl) (by omega) (by omega) (Nat.le_of_ble_eq_true rfl) zNx ?_
  refine z_if_le 20 O dX6_isOpen_5 (by decide) ⟨by omega, by omega⟩ (fun c_5 => ?_) (fun c_5 => ?_)
  · skip
    refine z_iconst 0 O dX6_isOpen_20 (by decide +kernel) ?_
    exact z_iretb O dX6_isOpen_21 rfl (by omega) (by omega) hpo (by unfold sOp; first | exact zb_t (decide_eq_true (by omega)) | exact zb_f (decide_eq_false (by omega))) (rfl)
  · skip
    refine z_aload_n 0 O dX6_isOpen_8 rfl ?_
    refine z_iload_n 1 O dX6_isOpen_9 rfl ?_
    refine z_Si [.ref q, .int (iI w)] [] kM_X6_81 O dX6_isOpen_10 (c_X6_isSpoiled hst hA hG hw) rfl rfl (by decide) (Nat.le_of_ble_eq_true rfl) (by omega) (by omega) (Nat.le_of_ble_eq_true rfl) zNx ?_
    refine z_ifb_ne 20 O dX6_isOpen_13 (by decide) (fun c_13 => ?_) (fun c_13 => ?_)
    · skip
      have k_13 := sSp_t.mp c_13
      refine z_iconst 0 O dX6_isOpen_20 (by decide +kernel) ?_
      exact z_iretb O dX6_isOpen_21 rfl (by omega) (by omega) hpo (by unfold sOp; first | exact zb_t (decide_eq_true (by omega)) | exact zb_f (decide_eq_false (by omega))) (rfl)
    · skip
      have k_13 := sSp_f.mp c_13
      refine z_iconst 1 O dX6_isOpen_16 (by decide +kernel) ?_
      refine z_goto 21 O dX6_isOpen_17 (by decide) ?_
      exact z_iretb O dX6_isOpen_21 rfl (by omega) (by omega) hpo (by unfold sOp; first | exact zb_t (decide_eq_true (by omega)) | exact zb_f (decide_eq_false (by omega))) (rfl)

theorem c_X6_reason {E : zE} (hst : E.1.stackTraces = false) {H : Heap} {r : zH} {t q : Nat} {G : Int → Int} {N w : Int} {c : Int} (hA : zA E H r t q 4086 G) (hG : sW G N) (hw : 0 ≤ w ∧ w ≤ 2) (hc : 0 ≤ c ∧ c < 16) : zC E yX6_reason cX6_reason 3 (some .int) 4 86 [.ref q, .int (iI w), .int (iI c)] H 0 0 (zRi (sRe G w c) (zSm H)) zN := by
  refine zC.of (by decide) (Nat.le_of_ble_eq_true rfl) hst ?_
  intro x O hE hpo hpx
  subst hE
  change zG x H 0 0 0 [(0, .ref q), (1, .int (iI w)), (2, .int (iI c))] []
  have hm := hG.m hw
  have hl := hG.l hw
  have hk := hG.2.2.1 c hc.1 hc.2
  refine z_aload_n 0 O dX6_reason_0 rfl ?_
  refine z_iload_n 1 O dX6_reason_1 rfl ?_
  refine z_Si [.ref q, .int (iI w)] [] kM_X6_69 O dX6_reason_2 (c_X6_many hst hA hw) rfl rfl (by decide) (Nat.le_of_ble_eq_true rfl) (by omega) (by omega) (Nat.le_of_ble_eq_true rfl) zNx ?_
  refine z_if_ne 10 O dX6_reason_5 (by decide) ⟨by omega, by omega⟩ (fun c_5 => ?_) (fun c_5 => ?_)
  · skip
    refine z_aload_n 0 O dX6_reason_10 rfl ?_
    refine z_iload_n 1 O dX6_reason_11 rfl ?_
    refine z_Si [.ref q, .int (iI w)] [] kM_X6_81 O dX6_reason_12 (c_X6_isSpoiled hst hA hG hw) rfl rfl (by decide) (Nat.le_of_ble_eq_true rfl) (by omega) (by omega) (Nat.le_of_ble_eq_true rfl) zNx ?_
    refine z_ifb_eq 20 O dX6_reason_15 (by decide) (fun c_15 => ?_) (fun c_15 => ?_)
    · skip
      have k_15 := sSp_f.mp c_15
      refine z_aload_n 0 O dX6_reason_20 rfl ?_
      refine z_bipush 16 O dX6_reason_21 (by decide +kernel) ?_
      refine z_iload_n 2 O dX6_reason_23 rfl ?_
      refine z_iadd O dX6_reason_24 ?_
      refine z_iald O dX6_reason_25 hA.1 ⟨by omega, by omega⟩ (by omega) (by omega) ?_
      refine z_if_eq 43 O dX6_reason_26 (by decide) ⟨by omega, by omega⟩ (fun c_26 => ?_) (fun c_26 => ?_)
      · skip
        refine z_aload_n 0 O dX6_reason_43 rfl ?_
        refine z_iload_n 1 O dX6_reason_44 rfl ?_
        refine z_iconst 1 O dX6_reason_45 (by decide +kernel) ?_
        refine z_Si [.int (iI w), .int (iI 1)] [.ref q] kM_X6_65 O dX6_reason_46 (c_X6_at hst) rfl rfl (by decide) (Nat.le_of_ble_eq_true rfl) (by omega) (by omega) (Nat.le_of_ble_eq_true rfl) zNx ?_
        have ea1 : at_ w 1 = 36 + 1350 * w + 1 := rfl
        refine z_iald O dX6_reason_49 hA.1 ⟨by omega, by omega⟩ (by omega) (by omega) ?_
        refine z_bipush 40 O dX6_reason_50 (by decide +kernel) ?_
        refine z_icmp_lt 59 O dX6_reason_52 (by decide) ⟨by omega, by omega⟩ ⟨by omega, by omega⟩ (fun c_52 => ?_) (fun c_52 => ?_)
        · skip
          refine z_iconst 0 O dX6_reason_59 (by decide +kernel) ?_
          exact z_ireti O dX6_reason_60 rfl (by omega) (by omega) hpo (by unfold sRe; (repeat' split) <;> first | rfl | (exfalso; omega) | (exfalso; simp_all; done)) (rfl)
        · skip
          refine z_iconst 4 O dX6_reason_55 (by decide +kernel) ?_
          refine z_goto 60 O dX6_reason_56 (by decide) ?_
          exact z_ireti O dX6_reason_60 rfl (by omega) (by omega) hpo (by unfold sRe; (repeat' split) <;> first | rfl | (exfalso; omega) | (exfalso; simp_all; done)) (rfl)
      · skip
        refine z_aload_n 0 O dX6_reason_29 rfl ?_
        refine z_bipush 16 O dX6_reason_30 (by decide +kernel) ?_
        refine z_iload_n 2 O dX6_reason_32 rfl ?_
        refine z_iadd O dX6_reason_33 ?_
        refine z_iald O dX6_reason_34 hA.1 ⟨by omega, by omega⟩ (by omega) (by omega) ?_
        refine z_iload_n 1 O dX6_reason_35 rfl ?_
        refine z_iconst 1 O dX6_reason_36 (by decide +kernel) ?_
        refine z_iadd O dX6_reason_37 ?_
        refine z_icmp_eq 43 O dX6_reason_38 (by decide) ⟨by omega, by omega⟩ ⟨by omega, by omega⟩ (fun c_38 => ?_) (fun c_38 => ?_)
        · skip
          refine z_aload_n 0 O dX6_reason_43 rfl ?_
          refine z_iload_n 1 O dX6_reason_44 rfl ?_
          refine z_iconst 1 O dX6_reason_45 (by decide +kernel) ?_
          refine z_Si [.int (iI w), .int (iI 1)] [.ref q] kM_X6_65 O dX6_reason_46 (c_X6_at hst) rfl rfl (by decide) (Nat.le_of_ble_eq_true rfl) (by omega) (by omega) (Nat.le_of_ble_eq_true rfl) zNx ?_
          have ea2 : at_ w 1 = 36 + 1350 * w + 1 := rfl
          refine z_iald O dX6_reason_49 hA.1 ⟨by omega, by omega⟩ (by omega) (by omega) ?_
          refine z_bipush 40 O dX6_reason_50 (by decide +kernel) ?_
          refine z_icmp_lt 59 O dX6_reason_52 (by decide) ⟨by omega, by omega⟩ ⟨by omega, by omega⟩ (fun c_52 => ?_) (fun c_52 => ?_)
          · skip
            refine z_iconst 0 O dX6_reason_59 (by decide +kernel) ?_
            exact z_ireti O dX6_reason_60 rfl (by omega) (by omega) hpo (by unfold sRe; (repeat' split) <;> first | rfl | (exfalso; omega) | (exfalso; simp_all; done)) (rfl)
          · skip
            refine z_iconst 4 O dX6_reason_55 (by decide +kernel) ?_
            refine z_goto 60 O dX6_reason_56 (by decide) ?_
            exact z_ireti O dX6_reason_60 rfl (by omega) (by omega) hpo (by unfold sRe; (repeat' split) <;> first | rfl | (exfalso; omega) | (exfalso; simp_all; done)) (rfl)
        · skip
          refine z_iconst 3 O dX6_reason_41 (by decide +kernel) ?_
          exact z_ireti O dX6_reason_42 rfl (by omega) (by omega) hpo (by unfold sRe; (repeat' split) <;> first | rfl | (exfalso; omega) | (exfalso; simp_all; done)) (rfl)
    · skip
      have k_15 := sSp_t.mp c_15
      refine z_iconst 2 O dX6_reason_18 (by decide +kernel) ?_
      exact z_ireti O dX6_reason_19 rfl (by omega) (by omega) hpo (by unfold sRe; (repeat' split) <;> first | rfl | (exfalso; omega) | (exfalso; simp_all; done)) (rfl)
  · skip
    refine z_iconst 1 O dX6_reason_8 (by decide +kernel) ?_
    exact z_ireti O dX6_reason_9 rfl (by omega) (by omega) hpo (by unfold sRe; (repeat' split) <;> first | rfl | (exfalso; omega) | (exfalso; simp_all; done)) (rfl)

theorem c_X6_regretsOf {E : zE} (hst : E.1.stackTraces = false) {H : Heap} {r : zH} {t q : Nat} {G : Int → Int} {w : Int} {i : Int} (hA : zA E H r t q 4086 G) (hm : 0 ≤ G (at_ w 0) ∧ G (at_ w 0) ≤ 5) (hw : 0 ≤ w ∧ w ≤ 2) (hi : 0 ≤ i ∧ i < G (at_ w 0)) : zC E yX6_regretsOf cX6_regretsOf 4 (some .int) 2 43 [.ref q, .int (iI w), .int (iI i)] H 0 0 (zRi (sRg G w i) (zSm H)) zN := by
  refine zC.of (by decide) (Nat.le_of_ble_eq_true rfl) hst ?_
  intro x O hE hpo hpx
  subst hE
  change zG x H 0 0 0 [(0, .ref q), (1, .int (iI w)), (2, .int (iI i))] []
  refine z_iload_n 2 O dX6_regretsOf_0 rfl ?_
  refine z_iconst 1 O dX6_regretsOf_1 (by decide +kernel) ?_
  refine z_iadd O dX6_regretsOf_2 ?_
  refine z_aload_n 0 O dX6_regretsOf_3 rfl ?_
  refine z_iload_n 1 O dX6_regretsOf_4 rfl ?_
  refine z_Si [.ref q, .int (iI w)] [.int (iI (i + 1))] kM_X6_69 O dX6_regretsOf_5 (c_X6_many hst hA hw) rfl rfl (by decide) (Nat.le_of_ble_eq_true rfl) (by omega) (by omega) (Nat.le_of_ble_eq_true rfl) zNx ?_
  refine z_icmp_ge 24 O dX6_regretsOf_8 (by decide) ⟨by omega, by omega⟩ ⟨by omega, by omega⟩ (fun c_8 => ?_) (fun c_8 => ?_)
  · skip
    refine z_aload_n 0 O dX6_regretsOf_24 rfl ?_
    refine z_iload_n 1 O dX6_regretsOf_25 rfl ?_
    refine z_iconst 2 O dX6_regretsOf_26 (by decide +kernel) ?_
    refine z_Si [.int (iI w), .int (iI 2)] [.ref q] kM_X6_65 O dX6_regretsOf_27 (c_X6_at hst) rfl rfl (by decide) (Nat.le_of_ble_eq_true rfl) (by omega) (by omega) (Nat.le_of_ble_eq_true rfl) zNx ?_
    have ea1 : at_ w 2 = 36 + 1350 * w + 2 := rfl
    refine z_iald O dX6_regretsOf_30 hA.1 ⟨by omega, by omega⟩ (by omega) (by omega) ?_
    refine z_istore_n [(3, .int (iI (G (at_ w 2)))), (0, .ref q), (1, .int (iI w)), (2, .int (iI i))] O dX6_regretsOf_31 (by decide) rfl ?_
    refine z_iload_n 0 O dX6_regretsOf_32 rfl ?_
    refine z_aload_n 1 O dX6_regretsOf_33 rfl ?_
    refine z_iload_n 2 O dX6_regretsOf_34 rfl ?_
    refine z_iload_n 3 O dX6_regretsOf_35 rfl ?_
    refine z_iconst 1 O dX6_regretsOf_36 (by decide +kernel) ?_
    refine z_Si [.int (iI w), .int (iI i), .int (iI 1)] [.ref q, .int (iI (G (at_ w 2)))] kM_X6_73 O dX6_regretsOf_37 (c_X6_workAt hst) rfl rfl (by decide) (Nat.le_of_ble_eq_true rfl) (by omega) (by omega) (Nat.le_of_ble_eq_true rfl) zNx ?_
    have ea2 : wA w i 1 = 36 + 1350 * w + (5 + 13 * i + 1) := rfl
    refine z_iald O dX6_regretsOf_40 hA.1 ⟨by omega, by omega⟩ (by omega) (by omega) ?_
    refine z_isub O dX6_regretsOf_41 ?_
    exact z_ireti O dX6_regretsOf_42 rfl (by omega) (by omega) hpo (by unfold sRg; first | rw [if_pos (by omega)] | rw [if_neg (by omega)]) (rfl)
  · skip
    refine z_aload_n 0 O dX6_regretsOf_11 rfl ?_
    refine z_iload_n 1 O dX6_regretsOf_12 rfl ?_
    refine z_iload_n 2 O dX6_regretsOf_13 rfl ?_
    refine z_iconst 1 O dX6_regretsOf_14 (by decide +kernel) ?_
    refine z_iadd O dX6_regretsOf_15 ?_
    refine z_iconst 1 O dX6_regretsOf_16 (by decide +kernel) ?_
    refine z_Si [.int (iI w), .int (iI (i + 1)), .int (iI 1)] [.ref q] kM_X6_73 O dX6_regretsOf_17 (c_X6_workAt hst) rfl rfl (by decide) (Nat.le_of_ble_eq_true rfl) (by omega) (by omega) (Nat.le_of_ble_eq_true rfl) zNx ?_
    have ea3 : wA w (i + 1) 1 = 36 + 1350 * w + (5 + 13 * (i + 1) + 1) := rfl
    refine z_iald O dX6_regretsOf_20 hA.1 ⟨by omega, by omega⟩ (by omega) (by omega) ?_
    refine z_goto 31 O dX6_regretsOf_21 (by decide) ?_
    refine z_istore_n [(3, .int (iI (G (wA w (i + 1) 1)))), (0, .ref q), (1, .int (iI w)), (2, .int (iI i))] O dX6_regretsOf_31 (by decide) rfl ?_
    refine z_iload_n 0 O dX6_regretsOf_32 rfl ?_
    refine z_aload_n 1 O dX6_regretsOf_33 rfl ?_
    refine z_iload_n 2 O dX6_regretsOf_34 rfl ?_
    refine z_iload_n 3 O dX6_regretsOf_35 rfl ?_
    refine z_iconst 1 O dX6_regretsOf_36 (by decide +kernel) ?_
    refine z_Si [.int (iI w), .int (iI i), .int (iI 1)] [.ref q, .int (iI (G (wA w (i + 1) 1)))] kM_X6_73 O dX6_regretsOf_37 (c_X6_workAt hst) rfl rfl (by decide) (Nat.le_of_ble_eq_true rfl) (by omega) (by omega) (Nat.le_of_ble_eq_true rfl) zNx ?_
    have ea4 : wA w i 1 = 36 + 1350 * w + (5 + 13 * i + 1) := rfl
    refine z_iald O dX6_regretsOf_40 hA.1 ⟨by omega, by omega⟩ (by omega) (by omega) ?_
    refine z_isub O dX6_regretsOf_41 ?_
    exact z_ireti O dX6_regretsOf_42 rfl (by omega) (by omega) hpo (by unfold sRg; first | rw [if_pos (by omega)] | rw [if_neg (by omega)]) (rfl)

theorem c_X6_canBegin {E : zE} (hst : E.1.stackTraces = false) {H : Heap} {r : zH} {t q : Nat} {G : Int → Int} {N w : Int} (hA : zA E H r t q 4086 G) (hG : sW G N) (hw : 0 ≤ w ∧ w ≤ 2) : zC E yX6_canBegin cX6_canBegin 2 (some .boolean) 4 86 [.ref q, .int (iI w)] H 0 0 (zRi (zb (sCb G w)) (zSm H)) zN := by
  refine zC.of (by decide) (Nat.le_of_ble_eq_true rfl) hst ?_
  intro x O hE hpo hpx
  subst hE
  change zG x H 0 0 0 [(0, .ref q), (1, .int (iI w))] []
  have hm := hG.m hw
  refine z_aload_n 0 O dX6_canBegin_0 rfl ?_
  refine z_iload_n 1 O dX6_canBegin_1 rfl ?_
  refine z_Si [.ref q, .int (iI w)] [] kM_X6_69 O dX6_canBegin_2 (c_X6_many hst hA hw) rfl rfl (by decide) (Nat.le_of_ble_eq_true rfl) (by omega) (by omega) (Nat.le_of_ble_eq_true rfl) zNx ?_
  refine z_iconst 5 O dX6_canBegin_5 (by decide +kernel) ?_
  refine z_icmp_ge 21 O dX6_canBegin_6 (by decide) ⟨by omega, by omega⟩ ⟨by omega, by omega⟩ (fun c_6 => ?_) (fun c_6 => ?_)
  · skip
    refine z_iconst 0 O dX6_canBegin_21 (by decide +kernel) ?_
    exact z_iretb O dX6_canBegin_22 rfl (by omega) (by omega) hpo (by unfold sCb; first | exact zb_t (decide_eq_true (by omega)) | exact zb_f (decide_eq_false (by omega))) (rfl)
  · skip
    refine z_aload_n 0 O dX6_canBegin_9 rfl ?_
    refine z_iload_n 1 O dX6_canBegin_10 rfl ?_
    refine z_Si [.ref q, .int (iI w)] [] kM_X6_81 O dX6_canBegin_11 (c_X6_isSpoiled hst hA hG hw) rfl rfl (by decide) (Nat.le_of_ble_eq_true rfl) (by omega) (by omega) (Nat.le_of_ble_eq_true rfl) zNx ?_
    refine z_ifb_ne 21 O dX6_canBegin_14 (by decide) (fun c_14 => ?_) (fun c_14 => ?_)
    · skip
      have k_14 := sSp_t.mp c_14
      refine z_iconst 0 O dX6_canBegin_21 (by decide +kernel) ?_
      exact z_iretb O dX6_canBegin_22 rfl (by omega) (by omega) hpo (by unfold sCb; first | exact zb_t (decide_eq_true (by omega)) | exact zb_f (decide_eq_false (by omega))) (rfl)
    · skip
      have k_14 := sSp_f.mp c_14
      refine z_iconst 1 O dX6_canBegin_17 (by decide +kernel) ?_
      refine z_goto 22 O dX6_canBegin_18 (by decide) ?_
      exact z_iretb O dX6_canBegin_22 rfl (by omega) (by omega) hpo (by unfold sCb; first | exact zb_t (decide_eq_true (by omega)) | exact zb_f (decide_eq_false (by omega))) (rfl)

theorem c_X6_canPoint {E : zE} (hst : E.1.stackTraces = false) {H : Heap} {r : zH} {t q : Nat} {G : Int → Int} {N w : Int} (hA : zA E H r t q 4086 G) (hG : sW G N) (hw : 0 ≤ w ∧ w ≤ 2) : zC E yX6_canPoint cX6_canPoint 2 (some .boolean) 5 107 [.ref q, .int (iI w)] H 0 0 (zRi (zb (sCp G w)) (zSm H)) zN := by
  refine zC.of (by decide) (Nat.le_of_ble_eq_true rfl) hst ?_
  intro x O hE hpo hpx
  subst hE
  change zG x H 0 0 0 [(0, .ref q), (1, .int (iI w))] []
  have hm := hG.m hw
  refine z_aload_n 0 O dX6_canPoint_0 rfl ?_
  refine z_iload_n 1 O dX6_canPoint_1 rfl ?_
  refine z_Si [.ref q, .int (iI w)] [] kM_X6_89 O dX6_canPoint_2 (c_X6_isOpen hst hA hG hw) rfl rfl (by decide) (Nat.le_of_ble_eq_true rfl) (by omega) (by omega) (Nat.le_of_ble_eq_true rfl) zNx ?_
  refine z_ifb_eq 24 O dX6_canPoint_5 (by decide) (fun c_5 => ?_) (fun c_5 => ?_)
  · skip
    have k_5 := sOp_f.mp c_5
    refine z_iconst 0 O dX6_canPoint_24 (by decide +kernel) ?_
    exact z_iretb O dX6_canPoint_25 rfl (by omega) (by omega) hpo (by unfold sCp; first | exact zb_t (decide_eq_true (by omega)) | exact zb_f (decide_eq_false (by omega))) (rfl)
  · skip
    have k_5 := sOp_t.mp c_5
    refine z_aload_n 0 O dX6_canPoint_8 rfl ?_
    have hi := hG.in hw (by omega)
    refine z_aload_n 0 O dX6_canPoint_9 rfl ?_
    refine z_iload_n 1 O dX6_canPoint_10 rfl ?_
    refine z_iconst 2 O dX6_canPoint_11 (by decide +kernel) ?_
    refine z_Si [.ref q, .int (iI w), .int (iI 2)] [.ref q] kM_X6_77 O dX6_canPoint_12 (c_X6_innerAt hst hA hw) rfl rfl (by decide) (Nat.le_of_ble_eq_true rfl) (by omega) (by omega) (Nat.le_of_ble_eq_true rfl) zNx ?_
    have ea1 : sIn G w 2 = 36 + 1350 * w + (5 + 13 * (G (at_ w 0) - 1) + 2) := rfl
    have ea2 : at_ w 0 = 36 + 1350 * w + 0 := rfl
    refine z_iald O dX6_canPoint_15 hA.1 ⟨by omega, by omega⟩ (by omega) (by omega) ?_
    refine z_iconst 4 O dX6_canPoint_16 (by decide +kernel) ?_
    refine z_icmp_ge 24 O dX6_canPoint_17 (by decide) ⟨by omega, by omega⟩ ⟨by omega, by omega⟩ (fun c_17 => ?_) (fun c_17 => ?_)
    · skip
      refine z_iconst 0 O dX6_canPoint_24 (by decide +kernel) ?_
      exact z_iretb O dX6_canPoint_25 rfl (by omega) (by omega) hpo (by unfold sCp; first | exact zb_t (decide_eq_true (by omega)) | exact zb_f (decide_eq_false (by omega))) (rfl)
    · skip
      refine z_iconst 1 O dX6_canPoint_20 (by decide +kernel) ?_
      refine z_goto 25 O dX6_canPoint_21 (by decide) ?_
      exact z_iretb O dX6_canPoint_25 rfl (by omega) (by omega) hpo (by unfold sCp; first | exact zb_t (decide_eq_true (by omega)) | exact zb_f (decide_eq_false (by omega))) (rfl)

theorem c_X6_hasPoint {E : zE} (hst : E.1.stackTraces = false) {H : Heap} {r : zH} {t q : Nat} {G : Int → Int} {N w : Int} {i : Int} (hA : zA E H r t q 4086 G) (hG : sW G N) (hw : 0 ≤ w ∧ w ≤ 2) (hz : zR i) : zC E yX6_hasPoint cX6_hasPoint 3 (some .boolean) 3 65 [.ref q, .int (iI w), .int (iI i)] H 0 0 (zRi (zb (sHp G w i)) (zSm H)) zN := by
  refine zC.of (by decide) (Nat.le_of_ble_eq_true rfl) hst ?_
  intro x O hE hpo hpx
  subst hE
  change zG x H 0 0 0 [(0, .ref q), (1, .int (iI w)), (2, .int (iI i))] []
  have hm := hG.m hw
  refine z_aload_n 0 O dX6_hasPoint_0 rfl ?_
  refine z_iload_n 1 O dX6_hasPoint_1 rfl ?_
  refine z_Si [.ref q, .int (iI w)] [] kM_X6_69 O dX6_hasPoint_2 (c_X6_many hst hA hw) rfl rfl (by decide) (Nat.le_of_ble_eq_true rfl) (by omega) (by omega) (Nat.le_of_ble_eq_true rfl) zNx ?_
  refine z_if_le 32 O dX6_hasPoint_5 (by decide) ⟨by omega, by omega⟩ (fun c_5 => ?_) (fun c_5 => ?_)
  · skip
    refine z_iconst 0 O dX6_hasPoint_32 (by decide +kernel) ?_
    exact z_iretb O dX6_hasPoint_33 rfl (by omega) (by omega) hpo (by unfold sHp; first | exact zb_t (decide_eq_true (by omega)) | exact zb_f (decide_eq_false (by omega))) (rfl)
  · skip
    have hi := hG.in hw (by omega)
    refine z_iload_n 2 O dX6_hasPoint_8 rfl ?_
    refine z_i2l O dX6_hasPoint_9 ⟨by omega, by omega⟩ ?_
    refine z_lconst 0 O dX6_hasPoint_10 (by decide +kernel) ?_
    refine z_aload_n 0 O dX6_hasPoint_11 rfl ?_
    refine z_aload_n 0 O dX6_hasPoint_12 rfl ?_
    refine z_iload_n 1 O dX6_hasPoint_13 rfl ?_
    refine z_iconst 2 O dX6_hasPoint_14 (by decide +kernel) ?_
    refine z_Si [.ref q, .int (iI w), .int (iI 2)] [.ref q, .long (iL 0), .long (iL i)] kM_X6_77 O dX6_hasPoint_15 (c_X6_innerAt hst hA hw) rfl rfl (by decide) (Nat.le_of_ble_eq_true rfl) (by omega) (by omega) (Nat.le_of_ble_eq_true rfl) zNx ?_
    have ea1 : sIn G w 2 = 36 + 1350 * w + (5 + 13 * (G (at_ w 0) - 1) + 2) := rfl
    have ea2 : at_ w 0 = 36 + 1350 * w + 0 := rfl
    refine z_iald O dX6_hasPoint_18 hA.1 ⟨by omega, by omega⟩ (by omega) (by omega) ?_
    refine z_iconst 1 O dX6_hasPoint_19 (by decide +kernel) ?_
    refine z_isub O dX6_hasPoint_20 ?_
    refine z_i2l O dX6_hasPoint_21 ⟨by omega, by omega⟩ ?_
    refine z_Si [.long (iL i), .long (iL 0), .long (iL ((G (sIn G w 2)) - 1))] [] kM_X6_92 O dX6_hasPoint_22 (c_X6_in hst ⟨by omega, by omega⟩ ⟨by omega, by omega⟩ ⟨by omega, by omega⟩) rfl rfl (by decide) (Nat.le_of_ble_eq_true rfl) (by omega) (by omega) (Nat.le_of_ble_eq_true rfl) zNx ?_
    refine z_ifb_eq 32 O dX6_hasPoint_25 (by decide) (fun c_25 => ?_) (fun c_25 => ?_)
    · skip
      have k_25 := sBt_f.mp c_25
      refine z_iconst 0 O dX6_hasPoint_32 (by decide +kernel) ?_
      exact z_iretb O dX6_hasPoint_33 rfl (by omega) (by omega) hpo (by unfold sHp; first | exact zb_t (decide_eq_true (by omega)) | exact zb_f (decide_eq_false (by omega))) (rfl)
    · skip
      have k_25 := sBt_t.mp c_25
      refine z_iconst 1 O dX6_hasPoint_28 (by decide +kernel) ?_
      refine z_goto 33 O dX6_hasPoint_29 (by decide) ?_
      exact z_iretb O dX6_hasPoint_33 rfl (by omega) (by omega) hpo (by unfold sHp; first | exact zb_t (decide_eq_true (by omega)) | exact zb_f (decide_eq_false (by omega))) (rfl)

theorem c_X6_canRegret {E : zE} (hst : E.1.stackTraces = false) {H : Heap} {r : zH} {t q : Nat} {G : Int → Int} {N w : Int} {c : Int} (hA : zA E H r t q 4086 G) (hG : sW G N) (hw : 0 ≤ w ∧ w ≤ 2) (hc : 0 ≤ c ∧ c < 16) : zC E yX6_canRegret cX6_canRegret 4 (some .boolean) 5 108 [.ref q, .int (iI w), .int (iI c)] H 0 0 (zRi (zb (sCr G w c)) (zSm H)) zN := by
  refine zC.of (by decide) (Nat.le_of_ble_eq_true rfl) hst ?_
  intro x O hE hpo hpx
  subst hE
  change zG x H 0 0 0 [(0, .ref q), (1, .int (iI w)), (2, .int (iI c))] []
  have hm := hG.m hw
  have hl := hG.l hw
  have hre := sRe_R hG hw (c := c)
  refine z_aload_n 0 O dX6_canRegret_0 rfl ?_
  refine z_iload_n 1 O dX6_canRegret_1 rfl ?_
  refine z_iload_n 2 O dX6_canRegret_2 rfl ?_
  refine z_Si [.ref q, .int (iI w), .int (iI c)] [] kM_X6_99 O dX6_canRegret_3 (c_X6_reason hst hA hG hw ⟨by omega, by omega⟩) rfl rfl (by decide) (Nat.le_of_ble_eq_true rfl) (by omega) (by omega) (Nat.le_of_ble_eq_true rfl) zNx ?_
  refine z_istore_n [(3, .int (iI (sRe G w c))), (0, .ref q), (1, .int (iI w)), (2, .int (iI c))] O dX6_canRegret_6 (by decide) rfl ?_
  refine z_iload_n 0 O dX6_canRegret_7 rfl ?_
  refine z_if_eq 16 O dX6_canRegret_8 (by decide) ⟨by omega, by omega⟩ (fun c_8 => ?_) (fun c_8 => ?_)
  · skip
    have hmm := sRe_m (G := G) (w := w) (c := c) (by omega)
    have hrr := sRg_R hG hw (by omega)
    refine z_aload_n 1 O dX6_canRegret_16 rfl ?_
    refine z_iload_n 2 O dX6_canRegret_17 rfl ?_
    refine z_aload_n 1 O dX6_canRegret_18 rfl ?_
    refine z_iload_n 2 O dX6_canRegret_19 rfl ?_
    refine z_Si [.ref q, .int (iI w)] [.int (iI w), .ref q] kM_X6_69 O dX6_canRegret_20 (c_X6_many hst hA hw) rfl rfl (by decide) (Nat.le_of_ble_eq_true rfl) (by omega) (by omega) (Nat.le_of_ble_eq_true rfl) zNx ?_
    refine z_iconst 1 O dX6_canRegret_23 (by decide +kernel) ?_
    refine z_isub O dX6_canRegret_24 ?_
    refine z_Si [.ref q, .int (iI w), .int (iI ((G (at_ w 0)) - 1))] [] kM_X6_102 O dX6_canRegret_25 (c_X6_regretsOf hst hA hm hw ⟨by omega, by omega⟩) rfl rfl (by decide) (Nat.le_of_ble_eq_true rfl) (by omega) (by omega) (Nat.le_of_ble_eq_true rfl) zNx ?_
    refine z_bipush 6 O dX6_canRegret_28 (by decide +kernel) ?_
    refine z_icmp_ge 37 O dX6_canRegret_30 (by decide) ⟨by omega, by omega⟩ ⟨by omega, by omega⟩ (fun c_30 => ?_) (fun c_30 => ?_)
    · skip
      refine z_iconst 0 O dX6_canRegret_37 (by decide +kernel) ?_
      exact z_iretb O dX6_canRegret_38 rfl (by omega) (by omega) hpo (by unfold sCr; first | exact zb_t (decide_eq_true (by omega)) | exact zb_f (decide_eq_false (by omega))) (rfl)
    · skip
      refine z_iconst 1 O dX6_canRegret_33 (by decide +kernel) ?_
      refine z_goto 38 O dX6_canRegret_34 (by decide) ?_
      exact z_iretb O dX6_canRegret_38 rfl (by omega) (by omega) hpo (by unfold sCr; first | exact zb_t (decide_eq_true (by omega)) | exact zb_f (decide_eq_false (by omega))) (rfl)
  · skip
    refine z_iload_n 0 O dX6_canRegret_11 rfl ?_
    refine z_iconst 4 O dX6_canRegret_12 (by decide +kernel) ?_
    refine z_icmp_ne 37 O dX6_canRegret_13 (by decide) ⟨by omega, by omega⟩ ⟨by omega, by omega⟩ (fun c_13 => ?_) (fun c_13 => ?_)
    · skip
      refine z_iconst 0 O dX6_canRegret_37 (by decide +kernel) ?_
      exact z_iretb O dX6_canRegret_38 rfl (by omega) (by omega) hpo (by unfold sCr; first | exact zb_t (decide_eq_true (by omega)) | exact zb_f (decide_eq_false (by omega))) (rfl)
    · skip
      have hmm := sRe_m (G := G) (w := w) (c := c) (by omega)
      have hrr := sRg_R hG hw (by omega)
      refine z_aload_n 1 O dX6_canRegret_16 rfl ?_
      refine z_iload_n 2 O dX6_canRegret_17 rfl ?_
      refine z_aload_n 1 O dX6_canRegret_18 rfl ?_
      refine z_iload_n 2 O dX6_canRegret_19 rfl ?_
      refine z_Si [.ref q, .int (iI w)] [.int (iI w), .ref q] kM_X6_69 O dX6_canRegret_20 (c_X6_many hst hA hw) rfl rfl (by decide) (Nat.le_of_ble_eq_true rfl) (by omega) (by omega) (Nat.le_of_ble_eq_true rfl) zNx ?_
      refine z_iconst 1 O dX6_canRegret_23 (by decide +kernel) ?_
      refine z_isub O dX6_canRegret_24 ?_
      refine z_Si [.ref q, .int (iI w), .int (iI ((G (at_ w 0)) - 1))] [] kM_X6_102 O dX6_canRegret_25 (c_X6_regretsOf hst hA hm hw ⟨by omega, by omega⟩) rfl rfl (by decide) (Nat.le_of_ble_eq_true rfl) (by omega) (by omega) (Nat.le_of_ble_eq_true rfl) zNx ?_
      refine z_bipush 6 O dX6_canRegret_28 (by decide +kernel) ?_
      refine z_icmp_ge 37 O dX6_canRegret_30 (by decide) ⟨by omega, by omega⟩ ⟨by omega, by omega⟩ (fun c_30 => ?_) (fun c_30 => ?_)
      · skip
        refine z_iconst 0 O dX6_canRegret_37 (by decide +kernel) ?_
        exact z_iretb O dX6_canRegret_38 rfl (by omega) (by omega) hpo (by unfold sCr; first | exact zb_t (decide_eq_true (by omega)) | exact zb_f (decide_eq_false (by omega))) (rfl)
      · skip
        refine z_iconst 1 O dX6_canRegret_33 (by decide +kernel) ?_
        refine z_goto 38 O dX6_canRegret_34 (by decide) ?_
        exact z_iretb O dX6_canRegret_38 rfl (by omega) (by omega) hpo (by unfold sCr; first | exact zb_t (decide_eq_true (by omega)) | exact zb_f (decide_eq_false (by omega))) (rfl)
