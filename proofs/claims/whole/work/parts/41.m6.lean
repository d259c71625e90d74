/-! the reference: sums (written by program: wip/whole/gen/model3.py) -/
theorem c_X6_sum {E : zE} (hst : E.1.stackTraces = false) {H : Heap} {r : zH} {t q : Nat} {G : Int → Int} (hA : zA E H r t q 4086 G) : zC E yX6_sum cX6_sum 3 (some .int) 0 0 [.ref q] H 0 0 (zRi (zSum 16 G) (zSm H)) zN := by
  refine zC.of (by decide) (Nat.le_of_ble_eq_true rfl) hst ?_
  intro x O hE hpo hpx
  subst hE
  change zG x H 0 0 0 [(0, .ref q)] []
  refine z_iconst 0 O dX6_sum_0 (by decide +kernel) ?_
  refine z_istore_n [(1, .int (iI 0)), (0, .ref q)] O dX6_sum_1 (by decide) rfl ?_
  refine z_iconst 0 O dX6_sum_2 (by decide +kernel) ?_
  refine z_istore_n [(2, .int (iI 0)), (1, .int (iI 0)), (0, .ref q)] O dX6_sum_3 (by decide) rfl ?_
  have loop : ∀ (d : Nat) (k : Nat), (k + d = 16) → zG x H 0 0 4 [(2, .int (iI (k : Int))), (1, .int (iI (zSum k (G)))), (0, .ref q)] [] := by
    intro d
    induction d with
    | zero =>
      intro k hd
      obtain rfl : k = 16 := by omega
      refine z_iload_n 0 O dX6_sum_4 rfl ?_
      refine z_bipush 16 O dX6_sum_5 (by decide +kernel) ?_
      refine z_icmp_ge 22 O dX6_sum_7 (by decide) ⟨by omega, by omega⟩ ⟨by omega, by omega⟩ (fun c_7 => ?_) (fun c_7 => ?_)
      · skip
        refine z_iload_n 1 O dX6_sum_22 rfl ?_
        exact z_ireti O dX6_sum_23 rfl (by omega) (by omega) hpo (by first | rfl | omega) (rfl)
      · exfalso; omega
    | succ d ih =>
      intro k hd
      refine z_iload_n 0 O dX6_sum_4 rfl ?_
      refine z_bipush 16 O dX6_sum_5 (by decide +kernel) ?_
      refine z_icmp_ge 22 O dX6_sum_7 (by decide) ⟨by omega, by omega⟩ ⟨by omega, by omega⟩ (fun c_7 => ?_) (fun c_7 => ?_)
      · exfalso; omega
      · skip
        refine z_iload_n 1 O dX6_sum_10 rfl ?_
        refine z_aload_n 2 O dX6_sum_11 rfl ?_
        refine z_iload_n 0 O dX6_sum_12 rfl ?_
        refine z_iald O dX6_sum_13 hA.1 ⟨by omega, by omega⟩ (by omega) (by omega) ?_
        refine z_iadd O dX6_sum_14 ?_
        refine z_istore_n [(1, .int (iI ((zSum k (G)) + (G (k : Int))))), (2, .int (iI (k : Int))), (0, .ref q)] O dX6_sum_15 (by decide) rfl ?_
        refine z_iinc 1 [(2, .int (iI ((k : Int) + 1))), (1, .int (iI ((zSum k (G)) + (G (k : Int))))), (0, .ref q)] O dX6_sum_16 (by decide) rfl rfl ?_
        refine z_goto 4 O dX6_sum_19 (by decide) ?_
        have hz := ih (k + 1) (by omega)
        rw [← zSum_1 (f := G) (v := G k) (by rfl)] at hz
        exact hz
  exact loop 16 0 rfl

theorem c_X6_locked {E : zE} (hst : E.1.stackTraces = false) {H : Heap} {r : zH} {t q : Nat} {G : Int → Int} {w : Int} (hA : zA E H r t q 4086 G) (hk : kOK G) (hw : -1 ≤ w ∧ w ≤ 2) : zC E yX6_locked cX6_locked 4 (some .int) 0 0 [.ref q, .int (iI w)] H 0 0 (zRi (zSum 16 (sLc G w)) (zSm H)) zN := by
  refine zC.of (by decide) (Nat.le_of_ble_eq_true rfl) hst ?_
  intro x O hE hpo hpx
  subst hE
  change zG x H 0 0 0 [(0, .ref q), (1, .int (iI w))] []
  refine z_iconst 0 O dX6_locked_0 (by decide +kernel) ?_
  refine z_istore_n [(2, .int (iI 0)), (0, .ref q), (1, .int (iI w))] O dX6_locked_1 (by decide) rfl ?_
  refine z_iconst 0 O dX6_locked_2 (by decide +kernel) ?_
  refine z_istore_n [(3, .int (iI 0)), (2, .int (iI 0)), (0, .ref q), (1, .int (iI w))] O dX6_locked_3 (by decide) rfl ?_
  have loop : ∀ (d : Nat) (k : Nat), (k + d = 16) → zG x H 0 0 4 [(3, .int (iI (k : Int))), (2, .int (iI (zSum k (sLc G w)))), (0, .ref q), (1, .int (iI w))] [] := by
    intro d
    induction d with
    | zero =>
      intro k hd
      obtain rfl : k = 16 := by omega
      refine z_iload_n 0 O dX6_locked_4 rfl ?_
      refine z_bipush 16 O dX6_locked_5 (by decide +kernel) ?_
      refine z_icmp_ge 50 O dX6_locked_7 (by decide) ⟨by omega, by omega⟩ ⟨by omega, by omega⟩ (fun c_7 => ?_) (fun c_7 => ?_)
      · skip
        refine z_iload_n 1 O dX6_locked_50 rfl ?_
        exact z_ireti O dX6_locked_51 rfl (by omega) (by omega) hpo (by first | rfl | omega) (rfl)
      · exfalso; omega
    | succ d ih =>
      intro k hd
      refine z_iload_n 0 O dX6_locked_4 rfl ?_
      refine z_bipush 16 O dX6_locked_5 (by decide +kernel) ?_
      refine z_icmp_ge 50 O dX6_locked_7 (by decide) ⟨by omega, by omega⟩ ⟨by omega, by omega⟩ (fun c_7 => ?_) (fun c_7 => ?_)
      · exfalso; omega
      · skip
        refine z_iload_n 1 O dX6_locked_10 rfl ?_
        refine z_aload_n 2 O dX6_locked_11 rfl ?_
        refine z_bipush 16 O dX6_locked_12 (by decide +kernel) ?_
        refine z_iload_n 0 O dX6_locked_14 rfl ?_
        refine z_iadd O dX6_locked_15 ?_
        refine z_iald O dX6_locked_16 hA.1 ⟨by omega, by omega⟩ (by omega) (by omega) ?_
        have hkk := hk k (by omega) (by omega)
        refine z_if_eq 41 O dX6_locked_17 (by decide) ⟨by omega, by omega⟩ (fun c_17 => ?_) (fun c_17 => ?_)
        · skip
          refine z_iconst 0 O dX6_locked_41 (by decide +kernel) ?_
          refine z_iadd O dX6_locked_42 ?_
          refine z_istore_n [(2, .int (iI ((zSum k (sLc G w)) + 0))), (3, .int (iI (k : Int))), (0, .ref q), (1, .int (iI w))] O dX6_locked_43 (by decide) rfl ?_
          refine z_iinc 1 [(3, .int (iI ((k : Int) + 1))), (2, .int (iI ((zSum k (sLc G w)) + 0))), (0, .ref q), (1, .int (iI w))] O dX6_locked_44 (by decide) rfl rfl ?_
          refine z_goto 4 O dX6_locked_47 (by decide) ?_
          have hz := ih (k + 1) (by omega)
          rw [← zSum_1 (f := sLc G w) (v := 0) (by unfold sLc; first | rw [if_pos (by omega)] | rw [if_neg (by omega)])] at hz
          exact hz
        · skip
          refine z_iload_n 3 O dX6_locked_20 rfl ?_
          refine z_iconst (-1) O dX6_locked_21 (by decide +kernel) ?_
          refine z_icmp_eq 37 O dX6_locked_22 (by decide) ⟨by omega, by omega⟩ ⟨by omega, by omega⟩ (fun c_22 => ?_) (fun c_22 => ?_)
          · skip
            refine z_iconst 1 O dX6_locked_37 (by decide +kernel) ?_
            refine z_goto 42 O dX6_locked_38 (by decide) ?_
            refine z_iadd O dX6_locked_42 ?_
            refine z_istore_n [(2, .int (iI ((zSum k (sLc G w)) + 1))), (3, .int (iI (k : Int))), (0, .ref q), (1, .int (iI w))] O dX6_locked_43 (by decide) rfl ?_
            refine z_iinc 1 [(3, .int (iI ((k : Int) + 1))), (2, .int (iI ((zSum k (sLc G w)) + 1))), (0, .ref q), (1, .int (iI w))] O dX6_locked_44 (by decide) rfl rfl ?_
            refine z_goto 4 O dX6_locked_47 (by decide) ?_
            have hz := ih (k + 1) (by omega)
            rw [← zSum_1 (f := sLc G w) (v := 1) (by unfold sLc; first | rw [if_pos (by omega)] | rw [if_neg (by omega)])] at hz
            exact hz
          · skip
            refine z_aload_n 2 O dX6_locked_25 rfl ?_
            refine z_bipush 16 O dX6_locked_26 (by decide +kernel) ?_
            refine z_iload_n 0 O dX6_locked_28 rfl ?_
            refine z_iadd O dX6_locked_29 ?_
            refine z_iald O dX6_locked_30 hA.1 ⟨by omega, by omega⟩ (by omega) (by omega) ?_
            refine z_iload_n 3 O dX6_locked_31 rfl ?_
            refine z_iconst 1 O dX6_locked_32 (by decide +kernel) ?_
            refine z_iadd O dX6_locked_33 ?_
            refine z_icmp_ne 41 O dX6_locked_34 (by decide) ⟨by omega, by omega⟩ ⟨by omega, by omega⟩ (fun c_34 => ?_) (fun c_34 => ?_)
            · skip
              refine z_iconst 0 O dX6_locked_41 (by decide +kernel) ?_
              refine z_iadd O dX6_locked_42 ?_
              refine z_istore_n [(2, .int (iI ((zSum k (sLc G w)) + 0))), (3, .int (iI (k : Int))), (0, .ref q), (1, .int (iI w))] O dX6_locked_43 (by decide) rfl ?_
              refine z_iinc 1 [(3, .int (iI ((k : Int) + 1))), (2, .int (iI ((zSum k (sLc G w)) + 0))), (0, .ref q), (1, .int (iI w))] O dX6_locked_44 (by decide) rfl rfl ?_
              refine z_goto 4 O dX6_locked_47 (by decide) ?_
              have hz := ih (k + 1) (by omega)
              rw [← zSum_1 (f := sLc G w) (v := 0) (by unfold sLc; first | rw [if_pos (by omega)] | rw [if_neg (by omega)])] at hz
              exact hz
            · skip
              refine z_iconst 1 O dX6_locked_37 (by decide +kernel) ?_
              refine z_goto 42 O dX6_locked_38 (by decide) ?_
              refine z_iadd O dX6_locked_42 ?_
              refine z_istore_n [(2, .int (iI ((zSum k (sLc G w)) + 1))), (3, .int (iI (k : Int))), (0, .ref q), (1, .int (iI w))] O dX6_locked_43 (by decide) rfl ?_
              refine z_iinc 1 [(3, .int (iI ((k : Int) + 1))), (2, .int (iI ((zSum k (sLc G w)) + 1))), (0, .ref q), (1, .int (iI w))] O dX6_locked_44 (by decide) rfl rfl ?_
              refine z_goto 4 O dX6_locked_47 (by decide) ?_
              have hz := ih (k + 1) (by omega)
              rw [← zSum_1 (f := sLc G w) (v := 1) (by unfold sLc; first | rw [if_pos (by omega)] | rw [if_neg (by omega)])] at hz
              exact hz
  exact loop 16 0 rfl

theorem c_X6_together {E : zE} (hst : E.1.stackTraces = false) {H : Heap} {r : zH} {t q : Nat} {G : Int → Int} {c : Int} (hA : zA E H r t q 4086 G) (hc : 0 ≤ c ∧ c ≤ 5) : zC E yX6_together cX6_together 4 (some .int) 1 21 [.ref q, .int (iI c)] H 0 0 (zRi (zSum 3 (fun w => G (at_ w c))) (zSm H)) zN := by
  refine zC.of (by decide) (Nat.le_of_ble_eq_true rfl) hst ?_
  intro x O hE hpo hpx
  subst hE
  change zG x H 0 0 0 [(0, .ref q), (1, .int (iI c))] []
  refine z_iconst 0 O dX6_together_0 (by decide +kernel) ?_
  refine z_istore_n [(2, .int (iI 0)), (0, .ref q), (1, .int (iI c))] O dX6_together_1 (by decide) rfl ?_
  refine z_iconst 0 O dX6_together_2 (by decide +kernel) ?_
  refine z_istore_n [(3, .int (iI 0)), (2, .int (iI 0)), (0, .ref q), (1, .int (iI c))] O dX6_together_3 (by decide) rfl ?_
  have loop : ∀ (d : Nat) (k : Nat), (k + d = 3) → zG x H 0 0 4 [(3, .int (iI (k : Int))), (2, .int (iI (zSum k (fun w => G (at_ w c))))), (0, .ref q), (1, .int (iI c))] [] := by
    intro d
    induction d with
    | zero =>
      intro k hd
      obtain rfl : k = 3 := by omega
      refine z_iload_n 0 O dX6_together_4 rfl ?_
      refine z_iconst 3 O dX6_together_5 (by decide +kernel) ?_
      refine z_icmp_ge 25 O dX6_together_6 (by decide) ⟨by omega, by omega⟩ ⟨by omega, by omega⟩ (fun c_6 => ?_) (fun c_6 => ?_)
      · skip
        refine z_iload_n 1 O dX6_together_25 rfl ?_
        exact z_ireti O dX6_together_26 rfl (by omega) (by omega) hpo (by first | rfl | omega) (rfl)
      · exfalso; omega
    | succ d ih =>
      intro k hd
      refine z_iload_n 0 O dX6_together_4 rfl ?_
      refine z_iconst 3 O dX6_together_5 (by decide +kernel) ?_
      refine z_icmp_ge 25 O dX6_together_6 (by decide) ⟨by omega, by omega⟩ ⟨by omega, by omega⟩ (fun c_6 => ?_) (fun c_6 => ?_)
      · exfalso; omega
      · skip
        refine z_iload_n 1 O dX6_together_9 rfl ?_
        refine z_aload_n 2 O dX6_together_10 rfl ?_
        refine z_iload_n 0 O dX6_together_11 rfl ?_
        refine z_iload_n 3 O dX6_together_12 rfl ?_
        refine z_Si [.int (iI (k : Int)), .int (iI c)] [.ref q, .int (iI (zSum k (fun w => G (at_ w c))))] kM_X6_65 O dX6_together_13 (c_X6_at hst) rfl rfl (by decide) (Nat.le_of_ble_eq_true rfl) (by omega) (by omega) (Nat.le_of_ble_eq_true rfl) zNx ?_
        have ea1 : at_ (k : Int) c = 36 + 1350 * (k : Int) + c := rfl
        refine z_iald O dX6_together_16 hA.1 ⟨by omega, by omega⟩ (by omega) (by omega) ?_
        refine z_iadd O dX6_together_17 ?_
        refine z_istore_n [(2, .int (iI ((zSum k (fun w => G (at_ w c))) + (G (at_ (k : Int) c))))), (3, .int (iI (k : Int))), (0, .ref q), (1, .int (iI c))] O dX6_together_18 (by decide) rfl ?_
        refine z_iinc 1 [(3, .int (iI ((k : Int) + 1))), (2, .int (iI ((zSum k (fun w => G (at_ w c))) + (G (at_ (k : Int) c))))), (0, .ref q), (1, .int (iI c))] O dX6_together_19 (by decide) rfl rfl ?_
        refine z_goto 4 O dX6_together_22 (by decide) ?_
        have hz := ih (k + 1) (by omega)
        rw [← zSum_1 (f := fun w => G (at_ w c)) (v := G (at_ k c)) (by rfl)] at hz
        exact hz
  exact loop 3 0 rfl

theorem c_X6_spoiled {E : zE} (hst : E.1.stackTraces = false) {H : Heap} {r : zH} {t q : Nat} {G : Int → Int} {N : Int} (hA : zA E H r t q 4086 G) (hG : sW G N) : zC E yX6_spoiled cX6_spoiled 3 (some .int) 4 86 [.ref q] H 0 0 (zRi (zSum 3 (fun w => zb (sSp G w))) (zSm H)) zN := by
  refine zC.of (by decide) (Nat.le_of_ble_eq_true rfl) hst ?_
  intro x O hE hpo hpx
  subst hE
  change zG x H 0 0 0 [(0, .ref q)] []
  refine z_iconst 0 O dX6_spoiled_0 (by decide +kernel) ?_
  refine z_istore_n [(1, .int (iI 0)), (0, .ref q)] O dX6_spoiled_1 (by decide) rfl ?_
  refine z_iconst 0 O dX6_spoiled_2 (by decide +kernel) ?_
  refine z_istore_n [(2, .int (iI 0)), (1, .int (iI 0)), (0, .ref q)] O dX6_spoiled_3 (by decide) rfl ?_
  have loop : ∀ (d : Nat) (k : Nat), (k + d = 3) → zG x H 0 0 4 [(2, .int (iI (k : Int))), (1, .int (iI (zSum k (fun w => zb (sSp G w))))), (0, .ref q)] [] := by
    intro d
    induction d with
    | zero =>
      intro k hd
      obtain rfl : k = 3 := by omega
      refine z_iload_n 0 O dX6_spoiled_4 rfl ?_
      refine z_iconst 3 O dX6_spoiled_5 (by decide +kernel) ?_
      refine z_icmp_ge 31 O dX6_spoiled_6 (by decide) ⟨by omega, by omega⟩ ⟨by omega, by omega⟩ (fun c_6 => ?_) (fun c_6 => ?_)
      · skip
        refine z_iload_n 1 O dX6_spoiled_31 rfl ?_
        exact z_ireti O dX6_spoiled_32 rfl (by omega) (by omega) hpo (by first | rfl | omega) (rfl)
      · exfalso; omega
    | succ d ih =>
      intro k hd
      refine z_iload_n 0 O dX6_spoiled_4 rfl ?_
      refine z_iconst 3 O dX6_spoiled_5 (by decide +kernel) ?_
      refine z_icmp_ge 31 O dX6_spoiled_6 (by decide) ⟨by omega, by omega⟩ ⟨by omega, by omega⟩ (fun c_6 => ?_) (fun c_6 => ?_)
      · exfalso; omega
      · skip
        refine z_iload_n 1 O dX6_spoiled_9 rfl ?_
        refine z_aload_n 2 O dX6_spoiled_10 rfl ?_
        refine z_iload_n 0 O dX6_spoiled_11 rfl ?_
        refine z_Si [.ref q, .int (iI (k : Int))] [.int (iI (zSum k (fun w => zb (sSp G w))))] kM_X6_81 O dX6_spoiled_12 (c_X6_isSpoiled hst hA hG ⟨by omega, by omega⟩) rfl rfl (by decide) (Nat.le_of_ble_eq_true rfl) (by omega) (by omega) (Nat.le_of_ble_eq_true rfl) zNx ?_
        refine z_ifb_eq 22 O dX6_spoiled_15 (by decide) (fun c_15 => ?_) (fun c_15 => ?_)
        · skip
          have k_15 := sSp_f.mp c_15
          refine z_iconst 0 O dX6_spoiled_22 (by decide +kernel) ?_
          refine z_iadd O dX6_spoiled_23 ?_
          refine z_istore_n [(1, .int (iI ((zSum k (fun w => zb (sSp G w))) + 0))), (2, .int (iI (k : Int))), (0, .ref q)] O dX6_spoiled_24 (by decide) rfl ?_
          refine z_iinc 1 [(2, .int (iI ((k : Int) + 1))), (1, .int (iI ((zSum k (fun w => zb (sSp G w))) + 0))), (0, .ref q)] O dX6_spoiled_25 (by decide) rfl rfl ?_
          refine z_goto 4 O dX6_spoiled_28 (by decide) ?_
          have hz := ih (k + 1) (by omega)
          rw [← zSum_1 (f := fun w => zb (sSp G w)) (v := 0) (by show zb (sSp G k) = _; rw [c_15]; rfl)] at hz
          exact hz
        · skip
          have k_15 := sSp_t.mp c_15
          refine z_iconst 1 O dX6_spoiled_18 (by decide +kernel) ?_
          refine z_goto 23 O dX6_spoiled_19 (by decide) ?_
          refine z_iadd O dX6_spoiled_23 ?_
          refine z_istore_n [(1, .int (iI ((zSum k (fun w => zb (sSp G w))) + 1))), (2, .int (iI (k : Int))), (0, .ref q)] O dX6_spoiled_24 (by decide) rfl ?_
          refine z_iinc 1 [(2, .int (iI ((k : Int) + 1))), (1, .int (iI ((zSum k (fun w => zb (sSp G w))) + 1))), (0, .ref q)] O dX6_spoiled_25 (by decide) rfl rfl ?_
          refine z_goto 4 O dX6_spoiled_28 (by decide) ?_
          have hz := ih (k + 1) (by omega)
          rw [← zSum_1 (f := fun w => zb (sSp G w)) (v := 1) (by show zb (sSp G k) = _; rw [c_15]; rfl)] at hz
          exact hz
  exact loop 3 0 rfl
