/-! the reference: reading the text, its small steps (written by program: wip/whole/gen/model4.py) -/
theorem c_X6_isNext {E : zE} (hst : E.1.stackTraces = false) {H : Heap} {r : zH} {q : Nat} {Q : Nat → Nat} {rf n : Int} {s : zP} {lo fi ac : Int} {tx : Int → Int} {c : Int} (hO : zMo E H r q Q rf n s.2 s.1 lo fi ac) (hT : zA E H r 100001 (Q 1) 120 tx) (hx : ∀ j : Int, 0 ≤ j → j < n → 0 ≤ tx j ∧ tx j ≤ 255) (hn : 0 ≤ n ∧ n ≤ 120) (hs : 0 ≤ s.2 ∧ s.2 ≤ n) (hc : zR c) : zC E yX6_isNext cX6_isNext 2 (some .boolean) 0 0 [.ref q, .int (iI c)] H 0 0 (zRi (zb (tNx n s.2 c tx)) (zSm H)) zN := by
  refine zC.of (by decide) (Nat.le_of_ble_eq_true rfl) hst ?_
  intro x O hE hpo hpx
  subst hE
  change zG x H 0 0 0 [(0, .ref q), (1, .int (iI c))] []
  refine z_aload_n 0 O dX6_isNext_0 rfl ?_
  refine z_getf kF_X6_122 O dX6_isNext_1 hO.1 rfl ?_
  refine z_aload_n 0 O dX6_isNext_4 rfl ?_
  refine z_getf kF_X6_115 O dX6_isNext_5 hO.1 rfl ?_
  refine z_icmp_ge 28 O dX6_isNext_8 (by decide) ⟨by omega, by omega⟩ ⟨by omega, by omega⟩ (fun c_8 => ?_) (fun c_8 => ?_)
  · skip
    refine z_iconst 0 O dX6_isNext_28 (by decide +kernel) ?_
    exact z_iretb O dX6_isNext_29 rfl (by omega) (by omega) hpo (by unfold tNx; first | exact zb_t (decide_eq_true (by omega)) | exact zb_f (decide_eq_false (by omega))) (rfl)
  · skip
    refine z_aload_n 0 O dX6_isNext_11 rfl ?_
    refine z_getf kF_X6_7 O dX6_isNext_12 hO.1 rfl ?_
    refine z_aload_n 0 O dX6_isNext_15 rfl ?_
    refine z_getf kF_X6_122 O dX6_isNext_16 hO.1 rfl ?_
    refine z_iald O dX6_isNext_19 hT.1 ⟨by omega, by omega⟩ (by omega) (by omega) ?_
    refine z_iload_n 1 O dX6_isNext_20 rfl ?_
    have hxx := hx s.2 (by omega) (by omega)
    refine z_icmp_ne 28 O dX6_isNext_21 (by decide) ⟨by omega, by omega⟩ ⟨by omega, by omega⟩ (fun c_21 => ?_) (fun c_21 => ?_)
    · skip
      refine z_iconst 0 O dX6_isNext_28 (by decide +kernel) ?_
      exact z_iretb O dX6_isNext_29 rfl (by omega) (by omega) hpo (by unfold tNx; first | exact zb_t (decide_eq_true (by omega)) | exact zb_f (decide_eq_false (by omega))) (rfl)
    · skip
      refine z_iconst 1 O dX6_isNext_24 (by decide +kernel) ?_
      refine z_goto 29 O dX6_isNext_25 (by decide) ?_
      exact z_iretb O dX6_isNext_29 rfl (by omega) (by omega) hpo (by unfold tNx; first | exact zb_t (decide_eq_true (by omega)) | exact zb_f (decide_eq_false (by omega))) (rfl)

theorem c_X6_accept {E : zE} (hst : E.1.stackTraces = false) {H : Heap} {r : zH} {q : Nat} {Q : Nat → Nat} {rf n : Int} {s : zP} {lo fi ac : Int} {b : Bool} (hO : zMo E H r q Q rf n s.2 s.1 lo fi ac) (hn : 0 ≤ n ∧ n ≤ 120) (hs : 0 ≤ s.2 ∧ s.2 ≤ n) : zC E yX6_accept cX6_accept 2 none 0 0 [.ref q, .int (iI (zb b))] H 0 0 (zRv (fun H1 => zFr H r H1 r (fun s => s = 100000) ∧ zMo E H1 r q Q rf n (tAc b s).2 (tAc b s).1 lo fi ac)) zN := by
  refine zC.of (by decide) (Nat.le_of_ble_eq_true rfl) hst ?_
  intro x O hE hpo hpx
  subst hE
  change zG x H 0 0 0 [(0, .ref q), (1, .int (iI (zb b)))] []
  refine z_aload_n 0 O dX6_accept_0 rfl ?_
  refine z_aload_n 0 O dX6_accept_1 rfl ?_
  refine z_getf kF_X6_125 O dX6_accept_2 hO.1 rfl ?_
  refine z_ifb_eq 16 O dX6_accept_5 (by decide) (fun c_5 => ?_) (fun c_5 => ?_)
  · skip
    refine z_iconst 0 O dX6_accept_16 (by decide +kernel) ?_
    refine z_putf kP_X6_125 O (fun h => nomatch h) dX6_accept_17 hO.1 (by decide +kernel) rfl (Nat.le_of_ble_eq_true rfl) (fun H1 hO2 hC3 => ?_)
    have hf4 := hO.ch hC3
    have ho5 : zO (zEn x) H1 r 100000 q 6 [.int (iI rf), .ref (Q 1), .int (iI n), .int (iI s.2), .int (iI 0), .int (iI lo), .ref (Q 2), .ref (Q 3), .ref (Q 4), .ref (Q 5), .ref (Q 6), .ref (Q 7), .ref (Q 8), .int (iI fi), .int (iI ac), .ref (Q 9), .ref (Q 10)] := ⟨hO2, hO.2⟩
    refine z_aload_n 0 O dX6_accept_20 rfl ?_
    refine z_dup O dX6_accept_21 rfl ?_
    refine z_getf kF_X6_122 O dX6_accept_22 ho5.1 rfl ?_
    refine z_aload_n 0 O dX6_accept_25 rfl ?_
    refine z_getf kF_X6_125 O dX6_accept_26 ho5.1 rfl ?_
    refine z_if_eq 36 O dX6_accept_29 (by decide) ⟨by omega, by omega⟩ (fun c_29 => ?_) (fun c_29 => ?_)
    · skip
      refine z_iconst 0 O dX6_accept_36 (by decide +kernel) ?_
      refine z_iadd O dX6_accept_37 ?_
      rw [show s.2 + 0 = s.2 from Int.add_zero _]
      refine z_putf kP_X6_122 O (fun h => nomatch h) dX6_accept_38 ho5.1 rfl rfl (Nat.le_of_ble_eq_true rfl) (fun H6 hO7 hC8 => ?_)
      have hf9 := ho5.ch hC8
      have ho10 : zO (zEn x) H6 r 100000 q 6 [.int (iI rf), .ref (Q 1), .int (iI n), .int (iI s.2), .int (iI 0), .int (iI lo), .ref (Q 2), .ref (Q 3), .ref (Q 4), .ref (Q 5), .ref (Q 6), .ref (Q 7), .ref (Q 8), .int (iI fi), .int (iI ac), .ref (Q 9), .ref (Q 10)] := ⟨hO7, ho5.2⟩
      exact z_iretv O dX6_accept_41 rfl (by omega) (by omega) hpo (⟨(((hf4.up (fun s h => by first | exact h.elim | omega | (simp at h ⊢; omega)))).tr (hf9.up (fun s h => by first | exact h.elim | omega | (simp at h ⊢; omega)))), by have e : (s.1 && b) = false := (by simp_all); unfold tAc tSp; rw [e]; exact ho10⟩)
    · exfalso; omega
  · skip
    refine z_iload_n 1 O dX6_accept_8 rfl ?_
    refine z_ifb_eq 16 O dX6_accept_9 (by decide) (fun c_9 => ?_) (fun c_9 => ?_)
    · skip
      refine z_iconst 0 O dX6_accept_16 (by decide +kernel) ?_
      refine z_putf kP_X6_125 O (fun h => nomatch h) dX6_accept_17 hO.1 (by decide +kernel) rfl (Nat.le_of_ble_eq_true rfl) (fun H11 hO12 hC13 => ?_)
      have hf14 := hO.ch hC13
      have ho15 : zO (zEn x) H11 r 100000 q 6 [.int (iI rf), .ref (Q 1), .int (iI n), .int (iI s.2), .int (iI 0), .int (iI lo), .ref (Q 2), .ref (Q 3), .ref (Q 4), .ref (Q 5), .ref (Q 6), .ref (Q 7), .ref (Q 8), .int (iI fi), .int (iI ac), .ref (Q 9), .ref (Q 10)] := ⟨hO12, hO.2⟩
      refine z_aload_n 0 O dX6_accept_20 rfl ?_
      refine z_dup O dX6_accept_21 rfl ?_
      refine z_getf kF_X6_122 O dX6_accept_22 ho15.1 rfl ?_
      refine z_aload_n 0 O dX6_accept_25 rfl ?_
      refine z_getf kF_X6_125 O dX6_accept_26 ho15.1 rfl ?_
      refine z_if_eq 36 O dX6_accept_29 (by decide) ⟨by omega, by omega⟩ (fun c_29 => ?_) (fun c_29 => ?_)
      · skip
        refine z_iconst 0 O dX6_accept_36 (by decide +kernel) ?_
        refine z_iadd O dX6_accept_37 ?_
        rw [show s.2 + 0 = s.2 from Int.add_zero _]
        refine z_putf kP_X6_122 O (fun h => nomatch h) dX6_accept_38 ho15.1 rfl rfl (Nat.le_of_ble_eq_true rfl) (fun H16 hO17 hC18 => ?_)
        have hf19 := ho15.ch hC18
        have ho20 : zO (zEn x) H16 r 100000 q 6 [.int (iI rf), .ref (Q 1), .int (iI n), .int (iI s.2), .int (iI 0), .int (iI lo), .ref (Q 2), .ref (Q 3), .ref (Q 4), .ref (Q 5), .ref (Q 6), .ref (Q 7), .ref (Q 8), .int (iI fi), .int (iI ac), .ref (Q 9), .ref (Q 10)] := ⟨hO17, ho15.2⟩
        exact z_iretv O dX6_accept_41 rfl (by omega) (by omega) hpo (⟨(((hf14.up (fun s h => by first | exact h.elim | omega | (simp at h ⊢; omega)))).tr (hf19.up (fun s h => by first | exact h.elim | omega | (simp at h ⊢; omega)))), by have e : (s.1 && b) = false := (by simp_all); unfold tAc tSp; rw [e]; exact ho20⟩)
      · exfalso; omega
    · skip
      refine z_iconst 1 O dX6_accept_12 (by decide +kernel) ?_
      refine z_goto 17 O dX6_accept_13 (by decide) ?_
      refine z_putf kP_X6_125 O (fun h => nomatch h) dX6_accept_17 hO.1 (by decide +kernel) rfl (Nat.le_of_ble_eq_true rfl) (fun H21 hO22 hC23 => ?_)
      have hf24 := hO.ch hC23
      have ho25 : zO (zEn x) H21 r 100000 q 6 [.int (iI rf), .ref (Q 1), .int (iI n), .int (iI s.2), .int (iI 1), .int (iI lo), .ref (Q 2), .ref (Q 3), .ref (Q 4), .ref (Q 5), .ref (Q 6), .ref (Q 7), .ref (Q 8), .int (iI fi), .int (iI ac), .ref (Q 9), .ref (Q 10)] := ⟨hO22, hO.2⟩
      refine z_aload_n 0 O dX6_accept_20 rfl ?_
      refine z_dup O dX6_accept_21 rfl ?_
      refine z_getf kF_X6_122 O dX6_accept_22 ho25.1 rfl ?_
      refine z_aload_n 0 O dX6_accept_25 rfl ?_
      refine z_getf kF_X6_125 O dX6_accept_26 ho25.1 rfl ?_
      refine z_if_eq 36 O dX6_accept_29 (by decide) ⟨by omega, by omega⟩ (fun c_29 => ?_) (fun c_29 => ?_)
      · exfalso; omega
      · skip
        refine z_iconst 1 O dX6_accept_32 (by decide +kernel) ?_
        refine z_goto 37 O dX6_accept_33 (by decide) ?_
        refine z_iadd O dX6_accept_37 ?_
        refine z_putf kP_X6_122 O (fun h => nomatch h) dX6_accept_38 ho25.1 rfl rfl (Nat.le_of_ble_eq_true rfl) (fun H26 hO27 hC28 => ?_)
        have hf29 := ho25.ch hC28
        have ho30 : zO (zEn x) H26 r 100000 q 6 [.int (iI rf), .ref (Q 1), .int (iI n), .int (iI (s.2 + 1)), .int (iI 1), .int (iI lo), .ref (Q 2), .ref (Q 3), .ref (Q 4), .ref (Q 5), .ref (Q 6), .ref (Q 7), .ref (Q 8), .int (iI fi), .int (iI ac), .ref (Q 9), .ref (Q 10)] := ⟨hO27, ho25.2⟩
        exact z_iretv O dX6_accept_41 rfl (by omega) (by omega) hpo (⟨(((hf24.up (fun s h => by first | exact h.elim | omega | (simp at h ⊢; omega)))).tr (hf29.up (fun s h => by first | exact h.elim | omega | (simp at h ⊢; omega)))), by have e : (s.1 && b) = true := (by simp_all); unfold tAc tSp; rw [e]; exact ho30⟩)

theorem c_X6_digit {E : zE} (hst : E.1.stackTraces = false) {H : Heap} {r : zH} {q : Nat} {Q : Nat → Nat} {rf n : Int} {s : zP} {lo fi ac : Int} {tx : Int → Int} {a b : Int} (hO : zMo E H r q Q rf n s.2 s.1 lo fi ac) (hT : zA E H r 100001 (Q 1) 120 tx) (hx : ∀ j : Int, 0 ≤ j → j < n → 0 ≤ tx j ∧ tx j ≤ 255) (hn : 0 ≤ n ∧ n ≤ 120) (hs : 0 ≤ s.2 ∧ s.2 ≤ n) (ha : 0 ≤ a ∧ a ≤ 9) (hb : 0 ≤ b ∧ b ≤ 9) : zC E yX6_digit cX6_digit 4 (some .int) 1 25 [.ref q, .int (iI a), .int (iI b)] H 0 0 (zRi (tDg n a b tx s).1 (fun H1 => zFr H r H1 r (fun s => s = 100000) ∧ zMo E H1 r q Q rf n (tDg n a b tx s).2.2 (tDg n a b tx s).2.1 lo fi ac)) zN := by
  refine zC.of (by decide) (Nat.le_of_ble_eq_true rfl) hst ?_
  intro x O hE hpo hpx
  subst hE
  change zG x H 0 0 0 [(0, .ref q), (1, .int (iI a)), (2, .int (iI b))] []
  refine z_aload_n 0 O dX6_digit_0 rfl ?_
  refine z_getf kF_X6_122 O dX6_digit_1 hO.1 rfl ?_
  refine z_aload_n 0 O dX6_digit_4 rfl ?_
  refine z_getf kF_X6_115 O dX6_digit_5 hO.1 rfl ?_
  refine z_icmp_ge 26 O dX6_digit_8 (by decide) ⟨by omega, by omega⟩ ⟨by omega, by omega⟩ (fun c_8 => ?_) (fun c_8 => ?_)
  · skip
    refine z_iconst (-1) O dX6_digit_26 (by decide +kernel) ?_
    refine z_istore_n [(3, .int (iI (-1))), (0, .ref q), (1, .int (iI a)), (2, .int (iI b))] O dX6_digit_27 (by decide) rfl ?_
    refine z_aload_n 1 O dX6_digit_28 rfl ?_
    refine z_iload_n 0 O dX6_digit_29 rfl ?_
    refine z_i2l O dX6_digit_30 ⟨by omega, by omega⟩ ?_
    refine z_lconst 0 O dX6_digit_31 (by decide +kernel) ?_
    refine z_ldc2 (iL 9) O dX6_digit_32 (List.mem_of_getElem? (i := 1017) (by decide +kernel)) ?_
    refine z_Si [.long (iL (-1)), .long (iL 0), .long (iL 9)] [.ref q] kM_X6_92 O dX6_digit_35 (c_X6_in hst ⟨by omega, by omega⟩ ⟨by omega, by omega⟩ ⟨by omega, by omega⟩) rfl rfl (by decide) (Nat.le_of_ble_eq_true rfl) (by omega) (by omega) (Nat.le_of_ble_eq_true rfl) zNx ?_
    refine z_ifb_eq 57 O dX6_digit_38 (by decide) (fun c_38 => ?_) (fun c_38 => ?_)
    · skip
      have k_38 := sBt_f.mp c_38
      refine z_iconst 0 O dX6_digit_57 (by decide +kernel) ?_
      have eD : tD n s.2 tx = -1 := by unfold tD; rw [if_neg (by omega)]
      have eK : tOk n s.2 a b tx = false := decide_eq_false (by rw [eD]; have z1 := sBt_f.mp c_38; omega)
      refine z_Vvm [.int (iI 0)] [] kM_X6_131 O dX6_digit_58 (c_X6_accept hst (b := false) hO hn hs) rfl rfl hO.1 (by decide) (Nat.le_of_ble_eq_true rfl) (by omega) (by omega) (Nat.le_of_ble_eq_true rfl) zNx (fun H1 hp2 hz3 => ?_)
      obtain ⟨hf4, ho5⟩ := hp2
      have hT6 := hT.fr hf4 (zT1 (by omega))
      refine z_aload_n 1 O dX6_digit_61 rfl ?_
      refine z_getf kF_X6_125 O dX6_digit_62 ho5.1 rfl ?_
      refine z_ifb_eq 72 O dX6_digit_65 (by decide) (fun c_65 => ?_) (fun c_65 => ?_)
      · skip
        refine z_iload_n 2 O dX6_digit_72 rfl ?_
        exact z_ireti O dX6_digit_73 rfl (by omega) (by omega) hpo (by unfold tDg; rw [eK]; show _ = if _ then _ else _; rw [if_neg (by rw [show (s.1 && false) = false from c_65]; decide)]) (⟨(hf4.up (fun s h => by first | exact h.elim | omega | (simp at h ⊢; omega))), by unfold tDg; rw [eK]; exact ho5⟩)
      · skip
        refine z_iload_n 0 O dX6_digit_68 rfl ?_
        refine z_goto 73 O dX6_digit_69 (by decide) ?_
        exact z_ireti O dX6_digit_73 rfl (by omega) (by omega) hpo (by exact absurd (show (s.1 && false) = true from c_65) (by rw [Bool.and_false]; decide)) (⟨(hf4.up (fun s h => by first | exact h.elim | omega | (simp at h ⊢; omega))), by unfold tDg; rw [eK]; exact ho5⟩)
    · skip
      have k_38 := sBt_t.mp c_38
      refine z_iload_n 0 O dX6_digit_41 rfl ?_
      refine z_i2l O dX6_digit_42 ⟨by omega, by omega⟩ ?_
      refine z_iload_n 2 O dX6_digit_43 rfl ?_
      refine z_i2l O dX6_digit_44 ⟨by omega, by omega⟩ ?_
      refine z_iload_n 3 O dX6_digit_45 rfl ?_
      refine z_i2l O dX6_digit_46 ⟨by omega, by omega⟩ ?_
      refine z_Si [.long (iL (-1)), .long (iL a), .long (iL b)] [.ref q] kM_X6_92 O dX6_digit_47 (c_X6_in hst ⟨by omega, by omega⟩ ⟨by omega, by omega⟩ ⟨by omega, by omega⟩) rfl rfl (by decide) (Nat.le_of_ble_eq_true rfl) (by omega) (by omega) (Nat.le_of_ble_eq_true rfl) zNx ?_
      refine z_ifb_eq 57 O dX6_digit_50 (by decide) (fun c_50 => ?_) (fun c_50 => ?_)
      · skip
        have k_50 := sBt_f.mp c_50
        refine z_iconst 0 O dX6_digit_57 (by decide +kernel) ?_
        have eD : tD n s.2 tx = -1 := by unfold tD; rw [if_neg (by omega)]
        have eK : tOk n s.2 a b tx = false := decide_eq_false (by rw [eD]; have z1 := sBt_t.mp c_38; have z2 := sBt_f.mp c_50; omega)
        refine z_Vvm [.int (iI 0)] [] kM_X6_131 O dX6_digit_58 (c_X6_accept hst (b := false) hO hn hs) rfl rfl hO.1 (by decide) (Nat.le_of_ble_eq_true rfl) (by omega) (by omega) (Nat.le_of_ble_eq_true rfl) zNx (fun H7 hp8 hz9 => ?_)
        obtain ⟨hf10, ho11⟩ := hp8
        have hT12 := hT.fr hf10 (zT1 (by omega))
        refine z_aload_n 1 O dX6_digit_61 rfl ?_
        refine z_getf kF_X6_125 O dX6_digit_62 ho11.1 rfl ?_
        refine z_ifb_eq 72 O dX6_digit_65 (by decide) (fun c_65 => ?_) (fun c_65 => ?_)
        · skip
          refine z_iload_n 2 O dX6_digit_72 rfl ?_
          exact z_ireti O dX6_digit_73 rfl (by omega) (by omega) hpo (by unfold tDg; rw [eK]; show _ = if _ then _ else _; rw [if_neg (by rw [show (s.1 && false) = false from c_65]; decide)]) (⟨(hf10.up (fun s h => by first | exact h.elim | omega | (simp at h ⊢; omega))), by unfold tDg; rw [eK]; exact ho11⟩)
        · skip
          refine z_iload_n 0 O dX6_digit_68 rfl ?_
          refine z_goto 73 O dX6_digit_69 (by decide) ?_
          exact z_ireti O dX6_digit_73 rfl (by omega) (by omega) hpo (by exact absurd (show (s.1 && false) = true from c_65) (by rw [Bool.and_false]; decide)) (⟨(hf10.up (fun s h => by first | exact h.elim | omega | (simp at h ⊢; omega))), by unfold tDg; rw [eK]; exact ho11⟩)
      · skip
        have k_50 := sBt_t.mp c_50
        refine z_iconst 1 O dX6_digit_53 (by decide +kernel) ?_
        refine z_goto 58 O dX6_digit_54 (by decide) ?_
        have eD : tD n s.2 tx = -1 := by unfold tD; rw [if_neg (by omega)]
        have eK : tOk n s.2 a b tx = true := decide_eq_true (by rw [eD]; have z1 := sBt_t.mp c_38; have z2 := sBt_t.mp c_50; omega)
        refine z_Vvm [.int (iI 1)] [] kM_X6_131 O dX6_digit_58 (c_X6_accept hst (b := true) hO hn hs) rfl rfl hO.1 (by decide) (Nat.le_of_ble_eq_true rfl) (by omega) (by omega) (Nat.le_of_ble_eq_true rfl) zNx (fun H13 hp14 hz15 => ?_)
        obtain ⟨hf16, ho17⟩ := hp14
        have hT18 := hT.fr hf16 (zT1 (by omega))
        refine z_aload_n 1 O dX6_digit_61 rfl ?_
        refine z_getf kF_X6_125 O dX6_digit_62 ho17.1 rfl ?_
        refine z_ifb_eq 72 O dX6_digit_65 (by decide) (fun c_65 => ?_) (fun c_65 => ?_)
        · skip
          refine z_iload_n 2 O dX6_digit_72 rfl ?_
          exact z_ireti O dX6_digit_73 rfl (by omega) (by omega) hpo (by unfold tDg; rw [eK]; show _ = if _ then _ else _; rw [if_neg (by rw [show (s.1 && true) = false from c_65]; decide)]) (⟨(hf16.up (fun s h => by first | exact h.elim | omega | (simp at h ⊢; omega))), by unfold tDg; rw [eK]; exact ho17⟩)
        · skip
          refine z_iload_n 0 O dX6_digit_68 rfl ?_
          refine z_goto 73 O dX6_digit_69 (by decide) ?_
          exact z_ireti O dX6_digit_73 rfl (by omega) (by omega) hpo (by unfold tDg; rw [eK]; show _ = if _ then _ else _; rw [if_pos (show (s.1 && true) = true from c_65), eD]) (⟨(hf16.up (fun s h => by first | exact h.elim | omega | (simp at h ⊢; omega))), by unfold tDg; rw [eK]; exact ho17⟩)
  · skip
    refine z_aload_n 0 O dX6_digit_11 rfl ?_
    refine z_getf kF_X6_7 O dX6_digit_12 hO.1 rfl ?_
    refine z_aload_n 0 O dX6_digit_15 rfl ?_
    refine z_getf kF_X6_122 O dX6_digit_16 hO.1 rfl ?_
    refine z_iald O dX6_digit_19 hT.1 ⟨by omega, by omega⟩ (by omega) (by omega) ?_
    have hxx := hx s.2 (by omega) (by omega)
    refine z_bipush 48 O dX6_digit_20 (by decide +kernel) ?_
    refine z_isub O dX6_digit_22 ?_
    refine z_goto 27 O dX6_digit_23 (by decide) ?_
    refine z_istore_n [(3, .int (iI ((tx s.2) - 48))), (0, .ref q), (1, .int (iI a)), (2, .int (iI b))] O dX6_digit_27 (by decide) rfl ?_
    refine z_aload_n 1 O dX6_digit_28 rfl ?_
    refine z_iload_n 0 O dX6_digit_29 rfl ?_
    refine z_i2l O dX6_digit_30 ⟨by omega, by omega⟩ ?_
    refine z_lconst 0 O dX6_digit_31 (by decide +kernel) ?_
    refine z_ldc2 (iL 9) O dX6_digit_32 (List.mem_of_getElem? (i := 1017) (by decide +kernel)) ?_
    refine z_Si [.long (iL ((tx s.2) - 48)), .long (iL 0), .long (iL 9)] [.ref q] kM_X6_92 O dX6_digit_35 (c_X6_in hst ⟨by omega, by omega⟩ ⟨by omega, by omega⟩ ⟨by omega, by omega⟩) rfl rfl (by decide) (Nat.le_of_ble_eq_true rfl) (by omega) (by omega) (Nat.le_of_ble_eq_true rfl) zNx ?_
    refine z_ifb_eq 57 O dX6_digit_38 (by decide) (fun c_38 => ?_) (fun c_38 => ?_)
    · skip
      have k_38 := sBt_f.mp c_38
      refine z_iconst 0 O dX6_digit_57 (by decide +kernel) ?_
      have eD : tD n s.2 tx = tx s.2 - 48 := by unfold tD; rw [if_pos (by omega)]
      have eK : tOk n s.2 a b tx = false := decide_eq_false (by rw [eD]; have z1 := sBt_f.mp c_38; omega)
      refine z_Vvm [.int (iI 0)] [] kM_X6_131 O dX6_digit_58 (c_X6_accept hst (b := false) hO hn hs) rfl rfl hO.1 (by decide) (Nat.le_of_ble_eq_true rfl) (by omega) (by omega) (Nat.le_of_ble_eq_true rfl) zNx (fun H19 hp20 hz21 => ?_)
      obtain ⟨hf22, ho23⟩ := hp20
      have hT24 := hT.fr hf22 (zT1 (by omega))
      refine z_aload_n 1 O dX6_digit_61 rfl ?_
      refine z_getf kF_X6_125 O dX6_digit_62 ho23.1 rfl ?_
      refine z_ifb_eq 72 O dX6_digit_65 (by decide) (fun c_65 => ?_) (fun c_65 => ?_)
      · skip
        refine z_iload_n 2 O dX6_digit_72 rfl ?_
        exact z_ireti O dX6_digit_73 rfl (by omega) (by omega) hpo (by unfold tDg; rw [eK]; show _ = if _ then _ else _; rw [if_neg (by rw [show (s.1 && false) = false from c_65]; decide)]) (⟨(hf22.up (fun s h => by first | exact h.elim | omega | (simp at h ⊢; omega))), by unfold tDg; rw [eK]; exact ho23⟩)
      · skip
        refine z_iload_n 0 O dX6_digit_68 rfl ?_
        refine z_goto 73 O dX6_digit_69 (by decide) ?_
        exact z_ireti O dX6_digit_73 rfl (by omega) (by omega) hpo (by exact absurd (show (s.1 && false) = true from c_65) (by rw [Bool.and_false]; decide)) (⟨(hf22.up (fun s h => by first | exact h.elim | omega | (simp at h ⊢; omega))), by unfold tDg; rw [eK]; exact ho23⟩)
    · skip
      have k_38 := sBt_t.mp c_38
      refine z_iload_n 0 O dX6_digit_41 rfl ?_
      refine z_i2l O dX6_digit_42 ⟨by omega, by omega⟩ ?_
      refine z_iload_n 2 O dX6_digit_43 rfl ?_
      refine z_i2l O dX6_digit_44 ⟨by omega, by omega⟩ ?_
      refine z_iload_n 3 O dX6_digit_45 rfl ?_
      refine z_i2l O dX6_digit_46 ⟨by omega, by omega⟩ ?_
      refine z_Si [.long (iL ((tx s.2) - 48)), .long (iL a), .long (iL b)] [.ref q] kM_X6_92 O dX6_digit_47 (c_X6_in hst ⟨by omega, by omega⟩ ⟨by omega, by omega⟩ ⟨by omega, by omega⟩) rfl rfl (by decide) (Nat.le_of_ble_eq_true rfl) (by omega) (by omega) (Nat.le_of_ble_eq_true rfl) zNx ?_
      refine z_ifb_eq 57 O dX6_digit_50 (by decide) (fun c_50 => ?_) (fun c_50 => ?_)
      · skip
        have k_50 := sBt_f.mp c_50
        refine z_iconst 0 O dX6_digit_57 (by decide +kernel) ?_
        have eD : tD n s.2 tx = tx s.2 - 48 := by unfold tD; rw [if_pos (by omega)]
        have eK : tOk n s.2 a b tx = false := decide_eq_false (by rw [eD]; have z1 := sBt_t.mp c_38; have z2 := sBt_f.mp c_50; omega)
        refine z_Vvm [.int (iI 0)] [] kM_X6_131 O dX6_digit_58 (c_X6_accept hst (b := false) hO hn hs) rfl rfl hO.1 (by decide) (Nat.le_of_ble_eq_true rfl) (by omega) (by omega) (Nat.le_of_ble_eq_true rfl) zNx (fun H25 hp26 hz27 => ?_)
        obtain ⟨hf28, ho29⟩ := hp26
        have hT30 := hT.fr hf28 (zT1 (by omega))
        refine z_aload_n 1 O dX6_digit_61 rfl ?_
        refine z_getf kF_X6_125 O dX6_digit_62 ho29.1 rfl ?_
        refine z_ifb_eq 72 O dX6_digit_65 (by decide) (fun c_65 => ?_) (fun c_65 => ?_)
        · skip
          refine z_iload_n 2 O dX6_digit_72 rfl ?_
          exact z_ireti O dX6_digit_73 rfl (by omega) (by omega) hpo (by unfold tDg; rw [eK]; show _ = if _ then _ else _; rw [if_neg (by rw [show (s.1 && false) = false from c_65]; decide)]) (⟨(hf28.up (fun s h => by first | exact h.elim | omega | (simp at h ⊢; omega))), by unfold tDg; rw [eK]; exact ho29⟩)
        · skip
          refine z_iload_n 0 O dX6_digit_68 rfl ?_
          refine z_goto 73 O dX6_digit_69 (by decide) ?_
          exact z_ireti O dX6_digit_73 rfl (by omega) (by omega) hpo (by exact absurd (show (s.1 && false) = true from c_65) (by rw [Bool.and_false]; decide)) (⟨(hf28.up (fun s h => by first | exact h.elim | omega | (simp at h ⊢; omega))), by unfold tDg; rw [eK]; exact ho29⟩)
      · skip
        have k_50 := sBt_t.mp c_50
        refine z_iconst 1 O dX6_digit_53 (by decide +kernel) ?_
        refine z_goto 58 O dX6_digit_54 (by decide) ?_
        have eD : tD n s.2 tx = tx s.2 - 48 := by unfold tD; rw [if_pos (by omega)]
        have eK : tOk n s.2 a b tx = true := decide_eq_true (by rw [eD]; have z1 := sBt_t.mp c_38; have z2 := sBt_t.mp c_50; omega)
        refine z_Vvm [.int (iI 1)] [] kM_X6_131 O dX6_digit_58 (c_X6_accept hst (b := true) hO hn hs) rfl rfl hO.1 (by decide) (Nat.le_of_ble_eq_true rfl) (by omega) (by omega) (Nat.le_of_ble_eq_true rfl) zNx (fun H31 hp32 hz33 => ?_)
        obtain ⟨hf34, ho35⟩ := hp32
        have hT36 := hT.fr hf34 (zT1 (by omega))
        refine z_aload_n 1 O dX6_digit_61 rfl ?_
        refine z_getf kF_X6_125 O dX6_digit_62 ho35.1 rfl ?_
        refine z_ifb_eq 72 O dX6_digit_65 (by decide) (fun c_65 => ?_) (fun c_65 => ?_)
        · skip
          refine z_iload_n 2 O dX6_digit_72 rfl ?_
          exact z_ireti O dX6_digit_73 rfl (by omega) (by omega) hpo (by unfold tDg; rw [eK]; show _ = if _ then _ else _; rw [if_neg (by rw [show (s.1 && true) = false from c_65]; decide)]) (⟨(hf34.up (fun s h => by first | exact h.elim | omega | (simp at h ⊢; omega))), by unfold tDg; rw [eK]; exact ho35⟩)
        · skip
          refine z_iload_n 0 O dX6_digit_68 rfl ?_
          refine z_goto 73 O dX6_digit_69 (by decide) ?_
          exact z_ireti O dX6_digit_73 rfl (by omega) (by omega) hpo (by unfold tDg; rw [eK]; show _ = if _ then _ else _; rw [if_pos (show (s.1 && true) = true from c_65), eD]) (⟨(hf34.up (fun s h => by first | exact h.elim | omega | (simp at h ⊢; omega))), by unfold tDg; rw [eK]; exact ho35⟩)
