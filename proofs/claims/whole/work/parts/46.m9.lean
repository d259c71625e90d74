/-! the reference: reading numbers in the text (written by program: wip/whole/gen/model4.py) -/
theorem c_X6_cellRead {E : zE} (hst : E.1.stackTraces = false) {H : Heap} {r : zH} {q : Nat} {Q : Nat → Nat} {rf n : Int} {s : zP} {lo fi ac : Int} {tx : Int → Int} (hO : zMo E H r q Q rf n s.2 s.1 lo fi ac) (hT : zA E H r 100001 (Q 1) 120 tx) (hx : ∀ j : Int, 0 ≤ j → j < n → 0 ≤ tx j ∧ tx j ≤ 255) (hn : 0 ≤ n ∧ n ≤ 120) (hs : 0 ≤ s.2 ∧ s.2 ≤ n) : zC E yX6_cellRead cX6_cellRead 2 (some .int) 2 48 [.ref q] H 0 0 (zRi (tCl n tx s).1 (fun H1 => zFr H r H1 r (fun s => s = 100000) ∧ zMo E H1 r q Q rf n (tCl n tx s).2.2 (tCl n tx s).2.1 lo fi ac)) zN := by
  refine zC.of (by decide) (Nat.le_of_ble_eq_true rfl) hst ?_
  intro x O hE hpo hpx
  subst hE
  change zG x H 0 0 0 [(0, .ref q)] []
  refine z_aload_n 0 O dX6_cellRead_0 rfl ?_
  refine z_iconst 0 O dX6_cellRead_1 (by decide +kernel) ?_
  refine z_iconst 1 O dX6_cellRead_2 (by decide +kernel) ?_
  refine z_Vim [.int (iI 0), .int (iI 1)] [] kM_X6_135 O dX6_cellRead_3 (c_X6_digit hst hO hT hx hn hs (by omega) (by omega)) rfl rfl hO.1 (by decide) (Nat.le_of_ble_eq_true rfl) (by omega) (by omega) (Nat.le_of_ble_eq_true rfl) zNx (fun H1 hp2 hz3 => ?_)
  obtain ⟨hf4, ho5⟩ := hp2
  have hT6 := hT.fr hf4 (zT1 (by omega))
  have hr1 : _ ∧ 0 ≤ (tDg n 0 1 tx s).2.2 ∧ (tDg n 0 1 tx s).2.2 ≤ n := tDg_R hs (by omega)
  obtain ⟨v1, ev1⟩ : ∃ z, z = (tDg n 0 1 tx s).1 := ⟨_, rfl⟩
  obtain ⟨s1, es1⟩ : ∃ z, z = (tDg n 0 1 tx s).2 := ⟨_, rfl⟩
  rw [← ev1]
  rw [← ev1, ← es1] at hr1
  obtain ⟨hv1, hs1⟩ := hr1
  rw [← es1] at ho5
  refine z_istore_n [(1, .int (iI v1)), (0, .ref q)] O dX6_cellRead_6 (by decide) rfl ?_
  refine z_bipush 10 O dX6_cellRead_7 (by decide +kernel) ?_
  refine z_iload_n 0 O dX6_cellRead_9 rfl ?_
  refine z_imul O dX6_cellRead_10 ?_
  refine z_aload_n 1 O dX6_cellRead_11 rfl ?_
  refine z_iconst 0 O dX6_cellRead_12 (by decide +kernel) ?_
  refine z_iload_n 0 O dX6_cellRead_13 rfl ?_
  refine z_iconst 1 O dX6_cellRead_14 (by decide +kernel) ?_
  refine z_icmp_ne 22 O dX6_cellRead_15 (by decide) ⟨by omega, by omega⟩ ⟨by omega, by omega⟩ (fun c_15 => ?_) (fun c_15 => ?_)
  · skip
    refine z_bipush 9 O dX6_cellRead_22 (by decide +kernel) ?_
    refine z_Vim [.int (iI 0), .int (iI 9)] [.int (iI (10 * v1))] kM_X6_135 O dX6_cellRead_24 (c_X6_digit hst ho5 hT6 hx hn hs1 (by omega) (by omega)) rfl rfl ho5.1 (by decide) (Nat.le_of_ble_eq_true rfl) (by omega) (by omega) (Nat.le_of_ble_eq_true rfl) zNx (fun H7 hp8 hz9 => ?_)
    obtain ⟨hf10, ho11⟩ := hp8
    have hT12 := hT6.fr hf10 (zT1 (by omega))
    have hr2 : _ ∧ 0 ≤ (tDg n 0 9 tx s1).2.2 ∧ (tDg n 0 9 tx s1).2.2 ≤ n := tDg_R hs1 (by omega)
    obtain ⟨v2, ev2⟩ : ∃ z, z = (tDg n 0 9 tx s1).1 := ⟨_, rfl⟩
    obtain ⟨s2, es2⟩ : ∃ z, z = (tDg n 0 9 tx s1).2 := ⟨_, rfl⟩
    rw [← ev2]
    rw [← ev2, ← es2] at hr2
    obtain ⟨hv2, hs2⟩ := hr2
    rw [← es2] at ho11
    refine z_iadd O dX6_cellRead_27 ?_
    exact z_ireti O dX6_cellRead_28 rfl (by omega) (by omega) hpo (by unfold tCl; rw [← ev1, if_neg (by omega), ← es1, ev2]) (⟨(((hf4.up (fun s h => by first | exact h.elim | omega | (simp at h ⊢; omega)))).tr (hf10.up (fun s h => by first | exact h.elim | omega | (simp at h ⊢; omega)))), by unfold tCl; rw [← ev1, if_neg (by omega), ← es1, ← es2]; exact ho11⟩)
  · skip
    refine z_iconst 5 O dX6_cellRead_18 (by decide +kernel) ?_
    refine z_goto 24 O dX6_cellRead_19 (by decide) ?_
    refine z_Vim [.int (iI 0), .int (iI 5)] [.int (iI (10 * v1))] kM_X6_135 O dX6_cellRead_24 (c_X6_digit hst ho5 hT6 hx hn hs1 (by omega) (by omega)) rfl rfl ho5.1 (by decide) (Nat.le_of_ble_eq_true rfl) (by omega) (by omega) (Nat.le_of_ble_eq_true rfl) zNx (fun H13 hp14 hz15 => ?_)
    obtain ⟨hf16, ho17⟩ := hp14
    have hT18 := hT6.fr hf16 (zT1 (by omega))
    have hr2 : _ ∧ 0 ≤ (tDg n 0 5 tx s1).2.2 ∧ (tDg n 0 5 tx s1).2.2 ≤ n := tDg_R hs1 (by omega)
    obtain ⟨v2, ev2⟩ : ∃ z, z = (tDg n 0 5 tx s1).1 := ⟨_, rfl⟩
    obtain ⟨s2, es2⟩ : ∃ z, z = (tDg n 0 5 tx s1).2 := ⟨_, rfl⟩
    rw [← ev2]
    rw [← ev2, ← es2] at hr2
    obtain ⟨hv2, hs2⟩ := hr2
    rw [← es2] at ho17
    refine z_iadd O dX6_cellRead_27 ?_
    exact z_ireti O dX6_cellRead_28 rfl (by omega) (by omega) hpo (by unfold tCl; rw [← ev1, if_pos (by omega), ← es1, ev2]) (⟨(((hf4.up (fun s h => by first | exact h.elim | omega | (simp at h ⊢; omega)))).tr (hf16.up (fun s h => by first | exact h.elim | omega | (simp at h ⊢; omega)))), by unfold tCl; rw [← ev1, if_pos (by omega), ← es1, ← es2]; exact ho17⟩)

theorem c_X6_twoRead {E : zE} (hst : E.1.stackTraces = false) {H : Heap} {r : zH} {q : Nat} {Q : Nat → Nat} {rf n : Int} {s : zP} {lo fi ac : Int} {tx : Int → Int} {m : Int} (hO : zMo E H r q Q rf n s.2 s.1 lo fi ac) (hT : zA E H r 100001 (Q 1) 120 tx) (hx : ∀ j : Int, 0 ≤ j → j < n → 0 ≤ tx j ∧ tx j ≤ 255) (hn : 0 ≤ n ∧ n ≤ 120) (hs : 0 ≤ s.2 ∧ s.2 ≤ n) (hm : 0 ≤ m ∧ m ≤ 9) : zC E yX6_twoRead cX6_twoRead 3 (some .int) 2 48 [.ref q, .int (iI m)] H 0 0 (zRi (tTw n m tx s).1 (fun H1 => zFr H r H1 r (fun s => s = 100000) ∧ zMo E H1 r q Q rf n (tTw n m tx s).2.2 (tTw n m tx s).2.1 lo fi ac)) zN := by
  refine zC.of (by decide) (Nat.le_of_ble_eq_true rfl) hst ?_
  intro x O hE hpo hpx
  subst hE
  change zG x H 0 0 0 [(0, .ref q), (1, .int (iI m))] []
  refine z_aload_n 0 O dX6_twoRead_0 rfl ?_
  refine z_iconst 0 O dX6_twoRead_1 (by decide +kernel) ?_
  refine z_bipush 9 O dX6_twoRead_2 (by decide +kernel) ?_
  refine z_Vim [.int (iI 0), .int (iI 9)] [] kM_X6_135 O dX6_twoRead_4 (c_X6_digit hst hO hT hx hn hs (by omega) (by omega)) rfl rfl hO.1 (by decide) (Nat.le_of_ble_eq_true rfl) (by omega) (by omega) (Nat.le_of_ble_eq_true rfl) zNx (fun H1 hp2 hz3 => ?_)
  obtain ⟨hf4, ho5⟩ := hp2
  have hT6 := hT.fr hf4 (zT1 (by omega))
  have hr1 : _ ∧ 0 ≤ (tDg n 0 9 tx s).2.2 ∧ (tDg n 0 9 tx s).2.2 ≤ n := tDg_R hs (by omega)
  obtain ⟨v1, ev1⟩ : ∃ z, z = (tDg n 0 9 tx s).1 := ⟨_, rfl⟩
  obtain ⟨s1, es1⟩ : ∃ z, z = (tDg n 0 9 tx s).2 := ⟨_, rfl⟩
  rw [← ev1]
  rw [← ev1, ← es1] at hr1
  obtain ⟨hv1, hs1⟩ := hr1
  rw [← es1] at ho5
  refine z_istore_n [(2, .int (iI v1)), (0, .ref q), (1, .int (iI m))] O dX6_twoRead_7 (by decide) rfl ?_
  refine z_bipush 10 O dX6_twoRead_8 (by decide +kernel) ?_
  refine z_iload_n 0 O dX6_twoRead_10 rfl ?_
  refine z_imul O dX6_twoRead_11 ?_
  refine z_aload_n 1 O dX6_twoRead_12 rfl ?_
  refine z_iload_n 0 O dX6_twoRead_13 rfl ?_
  refine z_if_ne 21 O dX6_twoRead_14 (by decide) ⟨by omega, by omega⟩ (fun c_14 => ?_) (fun c_14 => ?_)
  · skip
    refine z_iconst 0 O dX6_twoRead_21 (by decide +kernel) ?_
    refine z_bipush 9 O dX6_twoRead_22 (by decide +kernel) ?_
    refine z_Vim [.int (iI 0), .int (iI 9)] [.int (iI (10 * v1))] kM_X6_135 O dX6_twoRead_24 (c_X6_digit hst ho5 hT6 hx hn hs1 (by omega) (by omega)) rfl rfl ho5.1 (by decide) (Nat.le_of_ble_eq_true rfl) (by omega) (by omega) (Nat.le_of_ble_eq_true rfl) zNx (fun H7 hp8 hz9 => ?_)
    obtain ⟨hf10, ho11⟩ := hp8
    have hT12 := hT6.fr hf10 (zT1 (by omega))
    have hr2 : _ ∧ 0 ≤ (tDg n 0 9 tx s1).2.2 ∧ (tDg n 0 9 tx s1).2.2 ≤ n := tDg_R hs1 (by omega)
    obtain ⟨v2, ev2⟩ : ∃ z, z = (tDg n 0 9 tx s1).1 := ⟨_, rfl⟩
    obtain ⟨s2, es2⟩ : ∃ z, z = (tDg n 0 9 tx s1).2 := ⟨_, rfl⟩
    rw [← ev2]
    rw [← ev2, ← es2] at hr2
    obtain ⟨hv2, hs2⟩ := hr2
    rw [← es2] at ho11
    refine z_iadd O dX6_twoRead_27 ?_
    exact z_ireti O dX6_twoRead_28 rfl (by omega) (by omega) hpo (by unfold tTw; rw [← ev1, if_neg (by omega), ← es1, ev2]) (⟨(((hf4.up (fun s h => by first | exact h.elim | omega | (simp at h ⊢; omega)))).tr (hf10.up (fun s h => by first | exact h.elim | omega | (simp at h ⊢; omega)))), by unfold tTw; rw [← ev1, if_neg (by omega), ← es1, ← es2]; exact ho11⟩)
  · skip
    refine z_iload_n 2 O dX6_twoRead_17 rfl ?_
    refine z_goto 22 O dX6_twoRead_18 (by decide) ?_
    refine z_bipush 9 O dX6_twoRead_22 (by decide +kernel) ?_
    refine z_Vim [.int (iI m), .int (iI 9)] [.int (iI (10 * v1))] kM_X6_135 O dX6_twoRead_24 (c_X6_digit hst ho5 hT6 hx hn hs1 (by omega) (by omega)) rfl rfl ho5.1 (by decide) (Nat.le_of_ble_eq_true rfl) (by omega) (by omega) (Nat.le_of_ble_eq_true rfl) zNx (fun H13 hp14 hz15 => ?_)
    obtain ⟨hf16, ho17⟩ := hp14
    have hT18 := hT6.fr hf16 (zT1 (by omega))
    have hr2 : _ ∧ 0 ≤ (tDg n m 9 tx s1).2.2 ∧ (tDg n m 9 tx s1).2.2 ≤ n := tDg_R hs1 (by omega)
    obtain ⟨v2, ev2⟩ : ∃ z, z = (tDg n m 9 tx s1).1 := ⟨_, rfl⟩
    obtain ⟨s2, es2⟩ : ∃ z, z = (tDg n m 9 tx s1).2 := ⟨_, rfl⟩
    rw [← ev2]
    rw [← ev2, ← es2] at hr2
    obtain ⟨hv2, hs2⟩ := hr2
    rw [← es2] at ho17
    refine z_iadd O dX6_twoRead_27 ?_
    exact z_ireti O dX6_twoRead_28 rfl (by omega) (by omega) hpo (by unfold tTw; rw [← ev1, if_pos (by omega), ← es1, ev2]) (⟨(((hf4.up (fun s h => by first | exact h.elim | omega | (simp at h ⊢; omega)))).tr (hf16.up (fun s h => by first | exact h.elim | omega | (simp at h ⊢; omega)))), by unfold tTw; rw [← ev1, if_pos (by omega), ← es1, ← es2]; exact ho17⟩)

theorem c_X6_doIt {E : zE} (hst : E.1.stackTraces = false) {H : Heap} {r : zH} {q : Nat} {Q : Nat → Nat} {rf n : Int} {s : zP} {lo fi ac : Int} {b : Bool} (hO : zMo E H r q Q rf n s.2 s.1 lo fi ac) : zC E yX6_doIt cX6_doIt 2 none 0 0 [.ref q, .int (iI (zb b))] H 0 0 (zRv (fun H1 => zFr H r H1 r (fun s => s = 100000) ∧ zMo E H1 r q Q rf n s.2 s.1 (tDo s.1 b lo) fi ac)) zN := by
  refine zC.of (by decide) (Nat.le_of_ble_eq_true rfl) hst ?_
  intro x O hE hpo hpx
  subst hE
  change zG x H 0 0 0 [(0, .ref q), (1, .int (iI (zb b)))] []
  refine z_aload_n 0 O dX6_doIt_0 rfl ?_
  refine z_dup O dX6_doIt_1 rfl ?_
  refine z_getf kF_X6_138 O dX6_doIt_2 hO.1 rfl ?_
  refine z_aload_n 0 O dX6_doIt_5 rfl ?_
  refine z_getf kF_X6_125 O dX6_doIt_6 hO.1 rfl ?_
  refine z_ifb_eq 20 O dX6_doIt_9 (by decide) (fun c_9 => ?_) (fun c_9 => ?_)
  · skip
    refine z_iconst 0 O dX6_doIt_20 (by decide +kernel) ?_
    refine z_iadd O dX6_doIt_21 ?_
    rw [show lo + 0 = lo from Int.add_zero _]
    refine z_putf kP_X6_138 O (fun h => nomatch h) dX6_doIt_22 hO.1 rfl rfl (Nat.le_of_ble_eq_true rfl) (fun H1 hO2 hC3 => ?_)
    have hf4 := hO.ch hC3
    have ho5 : zO (zEn x) H1 r 100000 q 6 [.int (iI rf), .ref (Q 1), .int (iI n), .int (iI s.2), .int (iI (zb s.1)), .int (iI lo), .ref (Q 2), .ref (Q 3), .ref (Q 4), .ref (Q 5), .ref (Q 6), .ref (Q 7), .ref (Q 8), .int (iI fi), .int (iI ac), .ref (Q 9), .ref (Q 10)] := ⟨hO2, hO.2⟩
    exact z_iretv O dX6_doIt_25 rfl (by omega) (by omega) hpo (⟨(hf4.up (fun s h => by first | exact h.elim | omega | (simp at h ⊢; omega))), by have e : (s.1 && !b) = false := (by simp_all); unfold tDo; rw [e]; exact ho5⟩)
  · skip
    refine z_iload_n 1 O dX6_doIt_12 rfl ?_
    refine z_ifb_ne 20 O dX6_doIt_13 (by decide) (fun c_13 => ?_) (fun c_13 => ?_)
    · skip
      refine z_iconst 0 O dX6_doIt_20 (by decide +kernel) ?_
      refine z_iadd O dX6_doIt_21 ?_
      rw [show lo + 0 = lo from Int.add_zero _]
      refine z_putf kP_X6_138 O (fun h => nomatch h) dX6_doIt_22 hO.1 rfl rfl (Nat.le_of_ble_eq_true rfl) (fun H6 hO7 hC8 => ?_)
      have hf9 := hO.ch hC8
      have ho10 : zO (zEn x) H6 r 100000 q 6 [.int (iI rf), .ref (Q 1), .int (iI n), .int (iI s.2), .int (iI (zb s.1)), .int (iI lo), .ref (Q 2), .ref (Q 3), .ref (Q 4), .ref (Q 5), .ref (Q 6), .ref (Q 7), .ref (Q 8), .int (iI fi), .int (iI ac), .ref (Q 9), .ref (Q 10)] := ⟨hO7, hO.2⟩
      exact z_iretv O dX6_doIt_25 rfl (by omega) (by omega) hpo (⟨(hf9.up (fun s h => by first | exact h.elim | omega | (simp at h ⊢; omega))), by have e : (s.1 && !b) = false := (by simp_all); unfold tDo; rw [e]; exact ho10⟩)
    · skip
      refine z_iconst 1 O dX6_doIt_16 (by decide +kernel) ?_
      refine z_goto 21 O dX6_doIt_17 (by decide) ?_
      refine z_iadd O dX6_doIt_21 ?_
      refine z_putf kP_X6_138 O (fun h => nomatch h) dX6_doIt_22 hO.1 rfl rfl (Nat.le_of_ble_eq_true rfl) (fun H11 hO12 hC13 => ?_)
      have hf14 := hO.ch hC13
      have ho15 : zO (zEn x) H11 r 100000 q 6 [.int (iI rf), .ref (Q 1), .int (iI n), .int (iI s.2), .int (iI (zb s.1)), .int (iI (lo + 1)), .ref (Q 2), .ref (Q 3), .ref (Q 4), .ref (Q 5), .ref (Q 6), .ref (Q 7), .ref (Q 8), .int (iI fi), .int (iI ac), .ref (Q 9), .ref (Q 10)] := ⟨hO12, hO.2⟩
      exact z_iretv O dX6_doIt_25 rfl (by omega) (by omega) hpo (⟨(hf14.up (fun s h => by first | exact h.elim | omega | (simp at h ⊢; omega))), by have e : (s.1 && !b) = true := (by simp_all); unfold tDo; rw [e]; exact ho15⟩)
