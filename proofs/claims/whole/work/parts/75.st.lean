/-! the class: states, what they answer (written by program: wip/whole/gen/class4.py) -/
theorem c_X5_isCell {E : zE} (hst : E.1.stackTraces = false) {H : Heap} {c : Int} (hz : zR c) : zC E yX5_isCell cX5_isCell 1 (some .boolean) 0 0 [.int (iI c)] H 0 0 (zRi (zb (sBt c 0 15)) (zSm H)) zN := by
  refine zC.of (by decide) (Nat.le_of_ble_eq_true rfl) hst ?_
  intro x O hE hpo hpx
  subst hE
  change zG x H 0 0 0 [(0, .int (iI c))] []
  refine z_iload_n 0 O dX5_isCell_0 rfl ?_
  refine z_if_lt 14 O dX5_isCell_1 (by decide) ⟨by omega, by omega⟩ (fun c_1 => ?_) (fun c_1 => ?_)
  · skip
    refine z_iconst 0 O dX5_isCell_14 (by decide +kernel) ?_
    exact z_iretb O dX5_isCell_15 rfl (by omega) (by omega) hpo (by first | exact zb_t (sBt_t.mpr ⟨by omega, by omega⟩) | exact zb_f (sBt_f.mpr (by omega))) (rfl)
  · skip
    refine z_iload_n 0 O dX5_isCell_4 rfl ?_
    refine z_bipush 16 O dX5_isCell_5 (by decide +kernel) ?_
    refine z_icmp_ge 14 O dX5_isCell_7 (by decide) ⟨by omega, by omega⟩ ⟨by omega, by omega⟩ (fun c_7 => ?_) (fun c_7 => ?_)
    · skip
      refine z_iconst 0 O dX5_isCell_14 (by decide +kernel) ?_
      exact z_iretb O dX5_isCell_15 rfl (by omega) (by omega) hpo (by first | exact zb_t (sBt_t.mpr ⟨by omega, by omega⟩) | exact zb_f (sBt_f.mpr (by omega))) (rfl)
    · skip
      refine z_iconst 1 O dX5_isCell_10 (by decide +kernel) ?_
      refine z_goto 15 O dX5_isCell_11 (by decide) ?_
      exact z_iretb O dX5_isCell_15 rfl (by omega) (by omega) hpo (by first | exact zb_t (sBt_t.mpr ⟨by omega, by omega⟩) | exact zb_f (sBt_f.mpr (by omega))) (rfl)

theorem c_X5_isValue {E : zE} (hst : E.1.stackTraces = false) {H : Heap} {c : Int} (hz : zR c) : zC E yX5_isValue cX5_isValue 1 (some .boolean) 0 0 [.int (iI c)] H 0 0 (zRi (zb (sBt c 0 99)) (zSm H)) zN := by
  refine zC.of (by decide) (Nat.le_of_ble_eq_true rfl) hst ?_
  intro x O hE hpo hpx
  subst hE
  change zG x H 0 0 0 [(0, .int (iI c))] []
  refine z_iload_n 0 O dX5_isValue_0 rfl ?_
  refine z_if_lt 14 O dX5_isValue_1 (by decide) ⟨by omega, by omega⟩ (fun c_1 => ?_) (fun c_1 => ?_)
  · skip
    refine z_iconst 0 O dX5_isValue_14 (by decide +kernel) ?_
    exact z_iretb O dX5_isValue_15 rfl (by omega) (by omega) hpo (by first | exact zb_t (sBt_t.mpr ⟨by omega, by omega⟩) | exact zb_f (sBt_f.mpr (by omega))) (rfl)
  · skip
    refine z_iload_n 0 O dX5_isValue_4 rfl ?_
    refine z_bipush 100 O dX5_isValue_5 (by decide +kernel) ?_
    refine z_icmp_ge 14 O dX5_isValue_7 (by decide) ⟨by omega, by omega⟩ ⟨by omega, by omega⟩ (fun c_7 => ?_) (fun c_7 => ?_)
    · skip
      refine z_iconst 0 O dX5_isValue_14 (by decide +kernel) ?_
      exact z_iretb O dX5_isValue_15 rfl (by omega) (by omega) hpo (by first | exact zb_t (sBt_t.mpr ⟨by omega, by omega⟩) | exact zb_f (sBt_f.mpr (by omega))) (rfl)
    · skip
      refine z_iconst 1 O dX5_isValue_10 (by decide +kernel) ?_
      refine z_goto 15 O dX5_isValue_11 (by decide) ?_
      exact z_iretb O dX5_isValue_15 rfl (by omega) (by omega) hpo (by first | exact zb_t (sBt_t.mpr ⟨by omega, by omega⟩) | exact zb_f (sBt_f.mpr (by omega))) (rfl)

theorem c_X5_isRegretNumber {E : zE} (hst : E.1.stackTraces = false) {H : Heap} {c : Int} (hz : zR c) : zC E yX5_isRegretNumber cX5_isRegretNumber 1 (some .boolean) 0 0 [.int (iI c)] H 0 0 (zRi (zb (sBt c 1 99)) (zSm H)) zN := by
  refine zC.of (by decide) (Nat.le_of_ble_eq_true rfl) hst ?_
  intro x O hE hpo hpx
  subst hE
  change zG x H 0 0 0 [(0, .int (iI c))] []
  refine z_iload_n 0 O dX5_isRegretNumber_0 rfl ?_
  refine z_iconst 1 O dX5_isRegretNumber_1 (by decide +kernel) ?_
  refine z_icmp_lt 15 O dX5_isRegretNumber_2 (by decide) ⟨by omega, by omega⟩ ⟨by omega, by omega⟩ (fun c_2 => ?_) (fun c_2 => ?_)
  · skip
    refine z_iconst 0 O dX5_isRegretNumber_15 (by decide +kernel) ?_
    exact z_iretb O dX5_isRegretNumber_16 rfl (by omega) (by omega) hpo (by first | exact zb_t (sBt_t.mpr ⟨by omega, by omega⟩) | exact zb_f (sBt_f.mpr (by omega))) (rfl)
  · skip
    refine z_iload_n 0 O dX5_isRegretNumber_5 rfl ?_
    refine z_bipush 100 O dX5_isRegretNumber_6 (by decide +kernel) ?_
    refine z_icmp_ge 15 O dX5_isRegretNumber_8 (by decide) ⟨by omega, by omega⟩ ⟨by omega, by omega⟩ (fun c_8 => ?_) (fun c_8 => ?_)
    · skip
      refine z_iconst 0 O dX5_isRegretNumber_15 (by decide +kernel) ?_
      exact z_iretb O dX5_isRegretNumber_16 rfl (by omega) (by omega) hpo (by first | exact zb_t (sBt_t.mpr ⟨by omega, by omega⟩) | exact zb_f (sBt_f.mpr (by omega))) (rfl)
    · skip
      refine z_iconst 1 O dX5_isRegretNumber_11 (by decide +kernel) ?_
      refine z_goto 16 O dX5_isRegretNumber_12 (by decide) ?_
      exact z_iretb O dX5_isRegretNumber_16 rfl (by omega) (by omega) hpo (by first | exact zb_t (sBt_t.mpr ⟨by omega, by omega⟩) | exact zb_f (sBt_f.mpr (by omega))) (rfl)

theorem c_X2_workerAt {E : zE} (hst : E.1.stackTraces = false) {H : Heap} {r : zH} {a : Nat → Nat} {t : Nat} {G : Int → Int} {N : Int} {i : Int} (h : zSt E H r a t G) (hG : sW G N) (hi : zR i) : zC E yX2_workerAt cX2_workerAt 2 (some (.object "ForgivenWork$Worker")) 0 0 [.ref (a t), .int (iI i)] H 0 0 (zRr (if 0 ≤ i ∧ i < 3 then some (a (t + 6 + 16 * i.toNat)) else none) (zSm H)) zN := by
  refine zC.of (by decide) (Nat.le_of_ble_eq_true rfl) hst ?_
  intro x O hE hpo hpx
  subst hE
  change zG x H 0 0 0 [(0, .ref (a t)), (1, .int (iI i))] []
  obtain ⟨sO, sQ, sV, sL, sWs⟩ := id h
  refine z_iload_n 1 O dX2_workerAt_0 rfl ?_
  refine z_if_lt 22 O dX2_workerAt_1 (by decide) ⟨by omega, by omega⟩ (fun c_1 => ?_) (fun c_1 => ?_)
  · skip
    refine z_null O dX2_workerAt_22 ?_
    exact z_iretrN O dX2_workerAt_23 rfl (by first | exact Or.inl ⟨_, rfl⟩ | exact Or.inr ⟨_, rfl⟩) (by omega) (by omega) hpo (by rw [if_neg (by omega)]) (rfl)
  · skip
    refine z_iload_n 1 O dX2_workerAt_4 rfl ?_
    refine z_aload_n 0 O dX2_workerAt_5 rfl ?_
    refine z_getf kF_X2_25 O dX2_workerAt_6 sO.1 rfl ?_
    refine z_alenR (by decide) O dX2_workerAt_9 sQ.1 ?_
    refine z_icmp_ge 22 O dX2_workerAt_10 (by decide) ⟨by omega, by omega⟩ ⟨by omega, by omega⟩ (fun c_10 => ?_) (fun c_10 => ?_)
    · skip
      refine z_null O dX2_workerAt_22 ?_
      exact z_iretrN O dX2_workerAt_23 rfl (by first | exact Or.inl ⟨_, rfl⟩ | exact Or.inr ⟨_, rfl⟩) (by omega) (by omega) hpo (by rw [if_neg (by omega)]) (rfl)
    · skip
      refine z_aload_n 0 O dX2_workerAt_13 rfl ?_
      refine z_getf kF_X2_25 O dX2_workerAt_14 sO.1 rfl ?_
      refine z_iload_n 1 O dX2_workerAt_17 rfl ?_
      refine z_aald (T := 0) (by decide) O dX2_workerAt_18 sQ.1 ⟨by omega, by omega⟩ (by omega) (by omega) ?_
      change zG x _ _ _ _ _ (.ref (a (t + 6 + 16 * i.toNat)) :: _)
      refine z_goto 23 O dX2_workerAt_19 (by decide) ?_
      exact z_iretr O dX2_workerAt_23 rfl (by first | exact Or.inl ⟨_, rfl⟩ | exact Or.inr ⟨_, rfl⟩) (by omega) (by omega) hpo (by rw [if_pos (by omega)]) (rfl)

theorem c_X2_sumOfValues {E : zE} (hst : E.1.stackTraces = false) {H : Heap} {r : zH} {a : Nat → Nat} {t : Nat} {G : Int → Int} {N : Int} (h : zSt E H r a t G) (hG : sW G N) : zC E yX2_sumOfValues cX2_sumOfValues 3 (some .int) 1 21 [.ref (a t)] H 0 0 (zRi (zSum 16 G) (zSm H)) zN := by
  refine zC.of (by decide) (Nat.le_of_ble_eq_true rfl) hst ?_
  intro x O hE hpo hpx
  subst hE
  change zG x H 0 0 0 [(0, .ref (a t))] []
  obtain ⟨sO, sQ, sV, sL, sWs⟩ := id h
  refine z_iconst 0 O dX2_sumOfValues_0 (by decide +kernel) ?_
  refine z_istore_n [(1, .int (iI 0)), (0, .ref (a t))] O dX2_sumOfValues_1 (by decide) rfl ?_
  refine z_iconst 0 O dX2_sumOfValues_2 (by decide +kernel) ?_
  refine z_istore_n [(2, .int (iI 0)), (1, .int (iI 0)), (0, .ref (a t))] O dX2_sumOfValues_3 (by decide) rfl ?_
  have loop : ∀ (d : Nat) (k : Nat), (k + d = 16) → zG x H 0 0 4 [(2, .int (iI (k : Int))), (1, .int (iI (zSum k (G)))), (0, .ref (a t))] [] := by
    intro d
    induction d with
    | zero =>
      intro k hd
      obtain rfl : k = 16 := by omega
      refine z_iload_n 0 O dX2_sumOfValues_4 rfl ?_
      refine z_bipush 16 O dX2_sumOfValues_5 (by decide +kernel) ?_
      refine z_icmp_ge 27 O dX2_sumOfValues_7 (by decide) ⟨by omega, by omega⟩ ⟨by omega, by omega⟩ (fun c_7 => ?_) (fun c_7 => ?_)
      · skip
        refine z_iload_n 1 O dX2_sumOfValues_27 rfl ?_
        exact z_ireti O dX2_sumOfValues_28 rfl (by omega) (by omega) hpo (by first | rfl | omega) (rfl)
      · exfalso; omega
    | succ d ih =>
      intro k hd
      refine z_iload_n 0 O dX2_sumOfValues_4 rfl ?_
      refine z_bipush 16 O dX2_sumOfValues_5 (by decide +kernel) ?_
      refine z_icmp_ge 27 O dX2_sumOfValues_7 (by decide) ⟨by omega, by omega⟩ ⟨by omega, by omega⟩ (fun c_7 => ?_) (fun c_7 => ?_)
      · exfalso; omega
      · skip
        refine z_iload_n 1 O dX2_sumOfValues_10 rfl ?_
        refine z_aload_n 2 O dX2_sumOfValues_11 rfl ?_
        refine z_getf kF_X2_14 O dX2_sumOfValues_12 sO.1 rfl ?_
        refine z_iload_n 0 O dX2_sumOfValues_15 rfl ?_
        obtain ⟨it1, hRo2⟩ := sV.o
        refine z_Vi [.int (iI (k : Int))] [.int (iI (zSum k (G)))] kM_X2_65 O dX2_sumOfValues_16 (c_X1_get hst sV ⟨by omega, by omega⟩) rfl rfl hRo2.1 (by decide) (Nat.le_of_ble_eq_true rfl) (by omega) (by omega) (Nat.le_of_ble_eq_true rfl) zNx ?_
        rw [show zRg 16 G (k : Int) = G (k : Int) from (by unfold zRg; exact if_pos ⟨by omega, by omega⟩)]
        refine z_iadd O dX2_sumOfValues_19 ?_
        refine z_istore_n [(1, .int (iI ((zSum k (G)) + (G (k : Int))))), (2, .int (iI (k : Int))), (0, .ref (a t))] O dX2_sumOfValues_20 (by decide) rfl ?_
        refine z_iinc 1 [(2, .int (iI ((k : Int) + 1))), (1, .int (iI ((zSum k (G)) + (G (k : Int))))), (0, .ref (a t))] O dX2_sumOfValues_21 (by decide) rfl rfl ?_
        refine z_goto 4 O dX2_sumOfValues_24 (by decide) ?_
        have hz := ih (k + 1) (by omega)
        rw [← zSum_1 (f := G) (v := G k) (by rfl)] at hz
        exact hz
  exact loop 16 0 rfl

theorem c_X2_countLockedBy {E : zE} (hst : E.1.stackTraces = false) {H : Heap} {r : zH} {a : Nat → Nat} {t : Nat} {G : Int → Int} {N : Int} {w : Int} (h : zSt E H r a t G) (hG : sW G N) (hw : 0 ≤ w ∧ w ≤ 2) : zC E yX2_countLockedBy cX2_countLockedBy 4 (some .int) 1 21 [.ref (a t), .int (iI w)] H 0 0 (zRi (zSum 16 (sLc G w)) (zSm H)) zN := by
  refine zC.of (by decide) (Nat.le_of_ble_eq_true rfl) hst ?_
  intro x O hE hpo hpx
  subst hE
  change zG x H 0 0 0 [(0, .ref (a t)), (1, .int (iI w))] []
  obtain ⟨sO, sQ, sV, sL, sWs⟩ := id h
  refine z_iconst 0 O dX2_countLockedBy_0 (by decide +kernel) ?_
  refine z_istore_n [(2, .int (iI 0)), (0, .ref (a t)), (1, .int (iI w))] O dX2_countLockedBy_1 (by decide) rfl ?_
  refine z_iconst 0 O dX2_countLockedBy_2 (by decide +kernel) ?_
  refine z_istore_n [(3, .int (iI 0)), (2, .int (iI 0)), (0, .ref (a t)), (1, .int (iI w))] O dX2_countLockedBy_3 (by decide) rfl ?_
  have loop : ∀ (d : Nat) (k : Nat), (k + d = 16) → zG x H 0 0 4 [(3, .int (iI (k : Int))), (2, .int (iI (zSum k (sLc G w)))), (0, .ref (a t)), (1, .int (iI w))] [] := by
    intro d
    induction d with
    | zero =>
      intro k hd
      obtain rfl : k = 16 := by omega
      refine z_iload_n 0 O dX2_countLockedBy_4 rfl ?_
      refine z_bipush 16 O dX2_countLockedBy_5 (by decide +kernel) ?_
      refine z_icmp_ge 31 O dX2_countLockedBy_7 (by decide) ⟨by omega, by omega⟩ ⟨by omega, by omega⟩ (fun c_7 => ?_) (fun c_7 => ?_)
      · skip
        refine z_iload_n 1 O dX2_countLockedBy_31 rfl ?_
        exact z_ireti O dX2_countLockedBy_32 rfl (by omega) (by omega) hpo (by first | rfl | omega) (rfl)
      · exfalso; omega
    | succ d ih =>
      intro k hd
      refine z_iload_n 0 O dX2_countLockedBy_4 rfl ?_
      refine z_bipush 16 O dX2_countLockedBy_5 (by decide +kernel) ?_
      refine z_icmp_ge 31 O dX2_countLockedBy_7 (by decide) ⟨by omega, by omega⟩ ⟨by omega, by omega⟩ (fun c_7 => ?_) (fun c_7 => ?_)
      · exfalso; omega
      · skip
        refine z_aload_n 2 O dX2_countLockedBy_10 rfl ?_
        refine z_getf kF_X2_20 O dX2_countLockedBy_11 sO.1 rfl ?_
        refine z_iload_n 0 O dX2_countLockedBy_14 rfl ?_
        obtain ⟨it1, hRo2⟩ := sL.o
        refine z_Vi [.int (iI (k : Int))] [] kM_X2_65 O dX2_countLockedBy_15 (c_X1_get hst sL ⟨by omega, by omega⟩) rfl rfl hRo2.1 (by decide) (Nat.le_of_ble_eq_true rfl) (by omega) (by omega) (Nat.le_of_ble_eq_true rfl) zNx ?_
        rw [show zRg 16 (fun c => G (16 + c) - 1) (k : Int) = G (16 + (k : Int)) - 1 from (by unfold zRg; exact if_pos ⟨by omega, by omega⟩)]
        refine z_iload_n 3 O dX2_countLockedBy_18 rfl ?_
        have hkk := hG.2.2.1 k (by omega) (by omega)
        refine z_icmp_ne 25 O dX2_countLockedBy_19 (by decide) ⟨by omega, by omega⟩ ⟨by omega, by omega⟩ (fun c_19 => ?_) (fun c_19 => ?_)
        · skip
          refine z_iinc 0 [(3, .int (iI ((k : Int) + 1))), (2, .int (iI (zSum k (sLc G w)))), (0, .ref (a t)), (1, .int (iI w))] O dX2_countLockedBy_25 (by decide) rfl rfl ?_
          refine z_goto 4 O dX2_countLockedBy_28 (by decide) ?_
          have hz := ih (k + 1) (by omega)
          rw [← zSum_1 (f := sLc G w) (v := 0) (by unfold sLc; first | rw [if_pos (by omega)] | rw [if_neg (by omega)])] at hz
          rw [Int.add_zero] at hz
          exact hz
        · skip
          refine z_iinc 1 [(2, .int (iI (zSum k (sLc G w) + 1))), (3, .int (iI (k : Int))), (0, .ref (a t)), (1, .int (iI w))] O dX2_countLockedBy_22 (by decide) rfl rfl ?_
          refine z_iinc 1 [(3, .int (iI ((k : Int) + 1))), (2, .int (iI (zSum k (sLc G w) + 1))), (0, .ref (a t)), (1, .int (iI w))] O dX2_countLockedBy_25 (by decide) rfl rfl ?_
          refine z_goto 4 O dX2_countLockedBy_28 (by decide) ?_
          have hz := ih (k + 1) (by omega)
          rw [← zSum_1 (f := sLc G w) (v := 1) (by unfold sLc; first | rw [if_pos (by omega)] | rw [if_neg (by omega)])] at hz
          exact hz
  exact loop 16 0 rfl

theorem c_X2_numberOfWorker {E : zE} (hst : E.1.stackTraces = false) {H : Heap} {r : zH} {a : Nat → Nat} {t : Nat} {G : Int → Int} {N : Int} {w : Int} {j : Int} (h : zSt E H r a t G) (hG : sW G N) (hw : 0 ≤ w ∧ w ≤ 2) (hj : 0 ≤ j ∧ j ≤ 5) : zC E yX2_numberOfWorker cX2_numberOfWorker 3 (some .int) 2 44 [.ref (a t), .ref (a (t + 6 + 16 * w.toNat)), .int (iI j)] H 0 0 (zRi (vWo G w j) (zSm H)) zN := by
  refine zC.of (by decide) (Nat.le_of_ble_eq_true rfl) hst ?_
  intro x O hE hpo hpx
  subst hE
  change zG x H 0 0 0 [(0, .ref (a t)), (1, .ref (a (t + 6 + 16 * w.toNat))), (2, .int (iI j))] []
  obtain ⟨sO, sQ, sV, sL, sWs⟩ := id h
  obtain ⟨hWk, hOt⟩ := zSt_w sWs hw
  obtain ⟨np, f1, f2, V, hO, hQ, hLg, hRg, hPL, hPR, hWs, hRl⟩ := id hWk
  have hm := hG.m hw
  have hl := hG.l hw
  refine z_iload_n 2 O dX2_numberOfWorker_0 rfl ?_
  rcases (show j = 0 ∨ j = 1 ∨ j = 2 ∨ j = 3 ∨ j = 4 ∨ j = 5 ∨ (j < 0 ∨ 5 < j) by omega) with c_1 | c_1 | c_1 | c_1 | c_1 | c_1 | c_1
  · skip
    refine z_tsw 0 40 O dX2_numberOfWorker_1 ⟨by omega, by omega⟩ (by omega) (by decide) rfl (by decide) ?_
    refine z_aload_n 1 O dX2_numberOfWorker_40 rfl ?_
    refine z_getf kF_X2_69 O dX2_numberOfWorker_41 hO.1 rfl ?_
    exact z_ireti O dX2_numberOfWorker_44 rfl (by omega) (by omega) hpo (by unfold vWo; (repeat first | rw [if_pos (by omega)] | rw [if_neg (by omega)]); (try (first | exact zb_t c_76 | exact zb_f c_76))) (rfl)
  · skip
    refine z_tsw 1 45 O dX2_numberOfWorker_1 ⟨by omega, by omega⟩ (by omega) (by decide) rfl (by decide) ?_
    refine z_aload_n 1 O dX2_numberOfWorker_45 rfl ?_
    refine z_getf kF_X2_72 O dX2_numberOfWorker_46 hO.1 rfl ?_
    obtain ⟨it1, hRo2⟩ := hLg.o
    refine z_getf kF_X2_75 O dX2_numberOfWorker_49 hRo2.1 rfl ?_
    exact z_ireti O dX2_numberOfWorker_52 rfl (by omega) (by omega) hpo (by unfold vWo; (repeat first | rw [if_pos (by omega)] | rw [if_neg (by omega)]); (try (first | exact zb_t c_76 | exact zb_f c_76))) (rfl)
  · skip
    refine z_tsw 2 53 O dX2_numberOfWorker_1 ⟨by omega, by omega⟩ (by omega) (by decide) rfl (by decide) ?_
    refine z_aload_n 0 O dX2_numberOfWorker_53 rfl ?_
    refine z_aload_n 1 O dX2_numberOfWorker_54 rfl ?_
    refine z_getf kF_X2_78 O dX2_numberOfWorker_55 hO.1 rfl ?_
    refine z_Vi [.int (iI w)] [] kM_X2_81 O dX2_numberOfWorker_58 (c_X2_countLockedBy hst h hG hw) rfl rfl sO.1 (by decide) (Nat.le_of_ble_eq_true rfl) (by omega) (by omega) (Nat.le_of_ble_eq_true rfl) zNx ?_
    exact z_ireti O dX2_numberOfWorker_61 rfl (by omega) (by omega) hpo (by unfold vWo; (repeat first | rw [if_pos (by omega)] | rw [if_neg (by omega)]); (try (first | exact zb_t c_76 | exact zb_f c_76))) (rfl)
  · skip
    refine z_tsw 3 62 O dX2_numberOfWorker_1 ⟨by omega, by omega⟩ (by omega) (by decide) rfl (by decide) ?_
    refine z_aload_n 1 O dX2_numberOfWorker_62 rfl ?_
    refine z_getf kF_X2_84 O dX2_numberOfWorker_63 hO.1 rfl ?_
    exact z_ireti O dX2_numberOfWorker_66 rfl (by omega) (by omega) hpo (by unfold vWo; (repeat first | rw [if_pos (by omega)] | rw [if_neg (by omega)]); (try (first | exact zb_t c_76 | exact zb_f c_76))) (rfl)
  · skip
    refine z_tsw 4 67 O dX2_numberOfWorker_1 ⟨by omega, by omega⟩ (by omega) (by decide) rfl (by decide) ?_
    refine z_aload_n 1 O dX2_numberOfWorker_67 rfl ?_
    refine z_getf kF_X2_87 O dX2_numberOfWorker_68 hO.1 rfl ?_
    exact z_ireti O dX2_numberOfWorker_71 rfl (by omega) (by omega) hpo (by unfold vWo; (repeat first | rw [if_pos (by omega)] | rw [if_neg (by omega)]); (try (first | exact zb_t c_76 | exact zb_f c_76))) (rfl)
  · skip
    refine z_tsw 5 72 O dX2_numberOfWorker_1 ⟨by omega, by omega⟩ (by omega) (by decide) rfl (by decide) ?_
    refine z_aload_n 1 O dX2_numberOfWorker_72 rfl ?_
    refine z_Vi [] [] kM_X2_90 O dX2_numberOfWorker_73 (c_X4_isSpoiled hst hWk hG hw) rfl rfl hO.1 (by decide) (Nat.le_of_ble_eq_true rfl) (by omega) (by omega) (Nat.le_of_ble_eq_true rfl) zNx ?_
    refine z_ifb_eq 83 O dX2_numberOfWorker_76 (by decide) (fun c_76 => ?_) (fun c_76 => ?_)
    · skip
      refine z_iconst 0 O dX2_numberOfWorker_83 (by decide +kernel) ?_
      exact z_ireti O dX2_numberOfWorker_84 rfl (by omega) (by omega) hpo (by unfold vWo; (repeat first | rw [if_pos (by omega)] | rw [if_neg (by omega)] | rw [if_neg (by rw [c_76]; decide)]); (try (first | exact zb_t c_76 | exact zb_f c_76))) (rfl)
    · skip
      refine z_iconst 1 O dX2_numberOfWorker_79 (by decide +kernel) ?_
      refine z_goto 84 O dX2_numberOfWorker_80 (by decide) ?_
      exact z_ireti O dX2_numberOfWorker_84 rfl (by omega) (by omega) hpo (by unfold vWo; (repeat first | rw [if_pos (by omega)] | rw [if_neg (by omega)] | rw [if_pos c_76]); (try (first | exact zb_t c_76 | exact zb_f c_76))) (rfl)
  · exfalso; omega

theorem c_X2_sumOfWorkers {E : zE} (hst : E.1.stackTraces = false) {H : Heap} {r : zH} {a : Nat → Nat} {t : Nat} {G : Int → Int} {N : Int} {j : Int} (h : zSt E H r a t G) (hG : sW G N) (hj : 0 ≤ j ∧ j ≤ 5) : zC E yX2_sumOfWorkers cX2_sumOfWorkers 5 (some .int) 3 66 [.ref (a t), .int (iI j)] H 0 0 (zRi (zSum 3 (fun w => vWo G w j)) (zSm H)) zN := by
  refine zC.of (by decide) (Nat.le_of_ble_eq_true rfl) hst ?_
  intro x O hE hpo hpx
  subst hE
  change zG x H 0 0 0 [(0, .ref (a t)), (1, .int (iI j))] []
  obtain ⟨sO, sQ, sV, sL, sWs⟩ := id h
  refine z_iconst 0 O dX2_sumOfWorkers_0 (by decide +kernel) ?_
  refine z_istore_n [(2, .int (iI 0)), (0, .ref (a t)), (1, .int (iI j))] O dX2_sumOfWorkers_1 (by decide) rfl ?_
  refine z_iconst 0 O dX2_sumOfWorkers_2 (by decide +kernel) ?_
  refine z_istore_n [(3, .int (iI 0)), (2, .int (iI 0)), (0, .ref (a t)), (1, .int (iI j))] O dX2_sumOfWorkers_3 (by decide) rfl ?_
  have loop : ∀ (d : Nat) (k : Nat), (k + d = 3) → zG x H 0 0 4 [(3, .int (iI (k : Int))), (2, .int (iI (zSum k (fun w => vWo G w j)))), (0, .ref (a t)), (1, .int (iI j))] [] := by
    intro d
    induction d with
    | zero =>
      intro k hd
      obtain rfl : k = 3 := by omega
      refine z_iload_n 0 O dX2_sumOfWorkers_4 rfl ?_
      refine z_iconst 3 O dX2_sumOfWorkers_5 (by decide +kernel) ?_
      refine z_icmp_ge 37 O dX2_sumOfWorkers_6 (by decide) ⟨by omega, by omega⟩ ⟨by omega, by omega⟩ (fun c_6 => ?_) (fun c_6 => ?_)
      · skip
        refine z_iload_n 1 O dX2_sumOfWorkers_37 rfl ?_
        exact z_ireti O dX2_sumOfWorkers_38 rfl (by omega) (by omega) hpo (by first | rfl | omega) (rfl)
      · exfalso; omega
    | succ d ih =>
      intro k hd
      refine z_iload_n 0 O dX2_sumOfWorkers_4 rfl ?_
      refine z_iconst 3 O dX2_sumOfWorkers_5 (by decide +kernel) ?_
      refine z_icmp_ge 37 O dX2_sumOfWorkers_6 (by decide) ⟨by omega, by omega⟩ ⟨by omega, by omega⟩ (fun c_6 => ?_) (fun c_6 => ?_)
      · exfalso; omega
      · skip
        refine z_aload_n 2 O dX2_sumOfWorkers_9 rfl ?_
        refine z_iload_n 0 O dX2_sumOfWorkers_10 rfl ?_
        refine z_Vr [.int (iI (k : Int))] [] kM_X2_42 O dX2_sumOfWorkers_11 (by have c := c_X2_workerAt hst h hG (i := (k : Int)) ⟨by omega, by omega⟩; rw [if_pos (by omega)] at c; exact c) rfl rfl sO.1 (by decide) (Nat.le_of_ble_eq_true rfl) (by omega) (by omega) (Nat.le_of_ble_eq_true rfl) zNx ?_
        refine z_astore [(4, .ref (a (t + 6 + 16 * (k : Int).toNat))), (3, .int (iI (k : Int))), (2, .int (iI (zSum k (fun w => vWo G w j)))), (0, .ref (a t)), (1, .int (iI j))] O dX2_sumOfWorkers_14 (by decide) rfl ?_
        refine z_aload 0 O dX2_sumOfWorkers_16 rfl ?_
        refine z_ifnull O dX2_sumOfWorkers_18 ?_
        refine z_iload_n 2 O dX2_sumOfWorkers_21 rfl ?_
        refine z_aload_n 3 O dX2_sumOfWorkers_22 rfl ?_
        refine z_aload 0 O dX2_sumOfWorkers_23 rfl ?_
        refine z_iload_n 4 O dX2_sumOfWorkers_25 rfl ?_
        refine z_Vi [.ref (a (t + 6 + 16 * (k : Int).toNat)), .int (iI j)] [.int (iI (zSum k (fun w => vWo G w j)))] kM_X2_94 O dX2_sumOfWorkers_26 (c_X2_numberOfWorker hst h hG (w := (k : Int)) ⟨by omega, by omega⟩ hj) rfl rfl sO.1 (by decide) (Nat.le_of_ble_eq_true rfl) (by omega) (by omega) (Nat.le_of_ble_eq_true rfl) zNx ?_
        refine z_iadd O dX2_sumOfWorkers_29 ?_
        refine z_istore_n [(2, .int (iI ((zSum k (fun w => vWo G w j)) + (vWo G k j)))), (4, .ref (a (t + 6 + 16 * (k : Int).toNat))), (3, .int (iI (k : Int))), (0, .ref (a t)), (1, .int (iI j))] O dX2_sumOfWorkers_30 (by decide) rfl ?_
        refine z_iinc 2 [(3, .int (iI ((k : Int) + 1))), (2, .int (iI ((zSum k (fun w => vWo G w j)) + (vWo G k j)))), (4, .ref (a (t + 6 + 16 * (k : Int).toNat))), (0, .ref (a t)), (1, .int (iI j))] O dX2_sumOfWorkers_31 (by decide) rfl rfl ?_
        refine z_goto 4 O dX2_sumOfWorkers_34 (by decide) ?_
        refine z_locs [0, 1, 3, 4] rfl ?_
        have hz := ih (k + 1) (by omega)
        rw [← zSum_1 (f := fun w => vWo G w j) (v := vWo G k j) (by rfl)] at hz
        exact hz
  exact loop 3 0 rfl

theorem c_X2_countDifferent {E : zE} (hst : E.1.stackTraces = false) {H : Heap} {r : zH} {a : Nat → Nat} {t t2 : Nat} {G T : Int → Int} (h : zSt E H r a t G) (h2 : zSt E H r a t2 T) (hv : vOK G) (hu : vOK T) : zC E yX2_countDifferent cX2_countDifferent 4 (some .int) 1 21 [.ref (a t), .ref (a t2)] H 0 0 (zRi (zSum 16 (sDf T G)) (zSm H)) zN := by
  refine zC.of (by decide) (Nat.le_of_ble_eq_true rfl) hst ?_
  intro x O hE hpo hpx
  subst hE
  change zG x H 0 0 0 [(0, .ref (a t)), (1, .ref (a t2))] []
  obtain ⟨sO, sQ, sV, sL, sWs⟩ := id h
  obtain ⟨zO, zQ, zV, zL, zWs⟩ := id h2
  refine z_iconst 0 O dX2_countDifferent_0 (by decide +kernel) ?_
  refine z_istore_n [(2, .int (iI 0)), (0, .ref (a t)), (1, .ref (a t2))] O dX2_countDifferent_1 (by decide) rfl ?_
  refine z_iconst 0 O dX2_countDifferent_2 (by decide +kernel) ?_
  refine z_istore_n [(3, .int (iI 0)), (2, .int (iI 0)), (0, .ref (a t)), (1, .ref (a t2))] O dX2_countDifferent_3 (by decide) rfl ?_
  have loop : ∀ (d : Nat) (k : Nat), (k + d = 16) → zG x H 0 0 4 [(3, .int (iI (k : Int))), (2, .int (iI (zSum k (sDf T G)))), (0, .ref (a t)), (1, .ref (a t2))] [] := by
    intro d
    induction d with
    | zero =>
      intro k hd
      obtain rfl : k = 16 := by omega
      refine z_iload_n 0 O dX2_countDifferent_4 rfl ?_
      refine z_bipush 16 O dX2_countDifferent_5 (by decide +kernel) ?_
      refine z_icmp_ge 38 O dX2_countDifferent_7 (by decide) ⟨by omega, by omega⟩ ⟨by omega, by omega⟩ (fun c_7 => ?_) (fun c_7 => ?_)
      · skip
        refine z_iload_n 1 O dX2_countDifferent_38 rfl ?_
        exact z_ireti O dX2_countDifferent_39 rfl (by omega) (by omega) hpo (by first | rfl | omega) (rfl)
      · exfalso; omega
    | succ d ih =>
      intro k hd
      refine z_iload_n 0 O dX2_countDifferent_4 rfl ?_
      refine z_bipush 16 O dX2_countDifferent_5 (by decide +kernel) ?_
      refine z_icmp_ge 38 O dX2_countDifferent_7 (by decide) ⟨by omega, by omega⟩ ⟨by omega, by omega⟩ (fun c_7 => ?_) (fun c_7 => ?_)
      · exfalso; omega
      · skip
        refine z_aload_n 2 O dX2_countDifferent_10 rfl ?_
        refine z_getf kF_X2_14 O dX2_countDifferent_11 sO.1 rfl ?_
        refine z_iload_n 0 O dX2_countDifferent_14 rfl ?_
        obtain ⟨it1, hRo2⟩ := sV.o
        refine z_Vi [.int (iI (k : Int))] [] kM_X2_65 O dX2_countDifferent_15 (c_X1_get hst sV ⟨by omega, by omega⟩) rfl rfl hRo2.1 (by decide) (Nat.le_of_ble_eq_true rfl) (by omega) (by omega) (Nat.le_of_ble_eq_true rfl) zNx ?_
        rw [show zRg 16 G (k : Int) = G (k : Int) from (by unfold zRg; exact if_pos ⟨by omega, by omega⟩)]
        refine z_aload_n 3 O dX2_countDifferent_18 rfl ?_
        refine z_getf kF_X2_14 O dX2_countDifferent_19 zO.1 rfl ?_
        refine z_iload_n 0 O dX2_countDifferent_22 rfl ?_
        obtain ⟨it3, hRo4⟩ := zV.o
        refine z_Vi [.int (iI (k : Int))] [.int (iI (G (k : Int)))] kM_X2_65 O dX2_countDifferent_23 (c_X1_get hst zV ⟨by omega, by omega⟩) rfl rfl hRo4.1 (by decide) (Nat.le_of_ble_eq_true rfl) (by omega) (by omega) (Nat.le_of_ble_eq_true rfl) zNx ?_
        rw [show zRg 16 T (k : Int) = T (k : Int) from (by unfold zRg; exact if_pos ⟨by omega, by omega⟩)]
        have hvk := hv k (by omega) (by omega)
        have huk := hu k (by omega) (by omega)
        refine z_icmp_eq 32 O dX2_countDifferent_26 (by decide) ⟨by omega, by omega⟩ ⟨by omega, by omega⟩ (fun c_26 => ?_) (fun c_26 => ?_)
        · skip
          refine z_iinc 0 [(3, .int (iI ((k : Int) + 1))), (2, .int (iI (zSum k (sDf T G)))), (0, .ref (a t)), (1, .ref (a t2))] O dX2_countDifferent_32 (by decide) rfl rfl ?_
          refine z_goto 4 O dX2_countDifferent_35 (by decide) ?_
          have hz := ih (k + 1) (by omega)
          rw [← zSum_1 (f := sDf T G) (v := 0) (by unfold sDf; first | rw [if_pos (by omega)] | rw [if_neg (by omega)])] at hz
          rw [Int.add_zero] at hz
          exact hz
        · skip
          refine z_iinc 1 [(2, .int (iI (zSum k (sDf T G) + 1))), (3, .int (iI (k : Int))), (0, .ref (a t)), (1, .ref (a t2))] O dX2_countDifferent_29 (by decide) rfl rfl ?_
          refine z_iinc 1 [(3, .int (iI ((k : Int) + 1))), (2, .int (iI (zSum k (sDf T G) + 1))), (0, .ref (a t)), (1, .ref (a t2))] O dX2_countDifferent_32 (by decide) rfl rfl ?_
          refine z_goto 4 O dX2_countDifferent_35 (by decide) ?_
          have hz := ih (k + 1) (by omega)
          rw [← zSum_1 (f := sDf T G) (v := 1) (by unfold sDf; first | rw [if_pos (by omega)] | rw [if_neg (by omega)])] at hz
          exact hz
  exact loop 16 0 rfl

theorem c_X2_obstacle {E : zE} (hst : E.1.stackTraces = false) {H : Heap} {r : zH} {a : Nat → Nat} {t : Nat} {G : Int → Int} {N : Int} {w : Int} {c : Int} (h : zSt E H r a t G) (hG : sW G N) (hw : 0 ≤ w ∧ w ≤ 2) (hc : 0 ≤ c ∧ c ≤ 15) : zC E yX2_obstacle cX2_obstacle 4 (some .int) 2 41 [.ref (a t), .ref (a (t + 6 + 16 * w.toNat)), .int (iI c)] H 0 0 (zRi (sRe G w c) (zSm H)) zN := by
  refine zC.of (by decide) (Nat.le_of_ble_eq_true rfl) hst ?_
  intro x O hE hpo hpx
  subst hE
  change zG x H 0 0 0 [(0, .ref (a t)), (1, .ref (a (t + 6 + 16 * w.toNat))), (2, .int (iI c))] []
  obtain ⟨sO, sQ, sV, sL, sWs⟩ := id h
  obtain ⟨hWk, hOt⟩ := zSt_w sWs hw
  obtain ⟨np, f1, f2, V, hO, hQ, hLg, hRg, hPL, hPR, hWs, hRl⟩ := id hWk
  have hm := hG.m hw
  have hl := hG.l hw
  have hlk := hG.2.2.1 c (by omega) (by omega)
  refine z_aload_n 1 O dX2_obstacle_0 rfl ?_
  refine z_getf kF_X2_69 O dX2_obstacle_1 hO.1 rfl ?_
  refine z_if_ne 9 O dX2_obstacle_4 (by decide) ⟨by omega, by omega⟩ (fun c_4 => ?_) (fun c_4 => ?_)
  · skip
    refine z_aload_n 1 O dX2_obstacle_9 rfl ?_
    refine z_Vi [] [] kM_X2_90 O dX2_obstacle_10 (c_X4_isSpoiled hst hWk hG hw) rfl rfl hO.1 (by decide) (Nat.le_of_ble_eq_true rfl) (by omega) (by omega) (Nat.le_of_ble_eq_true rfl) zNx ?_
    refine z_ifb_eq 18 O dX2_obstacle_13 (by decide) (fun c_13 => ?_) (fun c_13 => ?_)
    · skip
      refine z_aload_n 0 O dX2_obstacle_18 rfl ?_
      refine z_getf kF_X2_20 O dX2_obstacle_19 sO.1 rfl ?_
      refine z_iload_n 2 O dX2_obstacle_22 rfl ?_
      obtain ⟨it1, hRo2⟩ := sL.o
      refine z_Vi [.int (iI c)] [] kM_X2_65 O dX2_obstacle_23 (c_X1_get hst sL ⟨by omega, by omega⟩) rfl rfl hRo2.1 (by decide) (Nat.le_of_ble_eq_true rfl) (by omega) (by omega) (Nat.le_of_ble_eq_true rfl) zNx ?_
      rw [show zRg 16 (fun c => G (16 + c) - 1) c = G (16 + c) - 1 from (by unfold zRg; exact if_pos ⟨by omega, by omega⟩)]
      refine z_istore_n [(3, .int (iI (G (16 + c) - 1))), (0, .ref (a t)), (1, .ref (a (t + 6 + 16 * w.toNat))), (2, .int (iI c))] O dX2_obstacle_26 (by decide) rfl ?_
      refine z_iload_n 0 O dX2_obstacle_27 rfl ?_
      refine z_iconst (-1) O dX2_obstacle_28 (by decide +kernel) ?_
      refine z_icmp_eq 42 O dX2_obstacle_29 (by decide) ⟨by omega, by omega⟩ ⟨by omega, by omega⟩ (fun c_29 => ?_) (fun c_29 => ?_)
      · skip
        refine z_aload_n 2 O dX2_obstacle_42 rfl ?_
        refine z_getf kF_X2_72 O dX2_obstacle_43 hO.1 rfl ?_
        obtain ⟨it3, hRo4⟩ := hLg.o
        refine z_getf kF_X2_75 O dX2_obstacle_46 hRo4.1 rfl ?_
        refine z_bipush 40 O dX2_obstacle_49 (by decide +kernel) ?_
        refine z_icmp_lt 58 O dX2_obstacle_51 (by decide) ⟨by omega, by omega⟩ ⟨by omega, by omega⟩ (fun c_51 => ?_) (fun c_51 => ?_)
        · skip
          refine z_iconst 0 O dX2_obstacle_58 (by decide +kernel) ?_
          exact z_ireti O dX2_obstacle_59 rfl (by omega) (by omega) hpo (by unfold sRe; (repeat first | rw [if_pos (by omega)] | rw [if_neg (by omega)] | rw [if_neg (by rw [c_13]; decide)])) (rfl)
        · skip
          refine z_iconst 4 O dX2_obstacle_54 (by decide +kernel) ?_
          refine z_goto 59 O dX2_obstacle_55 (by decide) ?_
          exact z_ireti O dX2_obstacle_59 rfl (by omega) (by omega) hpo (by unfold sRe; (repeat first | rw [if_pos (by omega)] | rw [if_neg (by omega)] | rw [if_neg (by rw [c_13]; decide)])) (rfl)
      · skip
        refine z_iload_n 0 O dX2_obstacle_32 rfl ?_
        refine z_aload_n 2 O dX2_obstacle_33 rfl ?_
        refine z_getf kF_X2_78 O dX2_obstacle_34 hO.1 rfl ?_
        refine z_icmp_eq 42 O dX2_obstacle_37 (by decide) ⟨by omega, by omega⟩ ⟨by omega, by omega⟩ (fun c_37 => ?_) (fun c_37 => ?_)
        · skip
          refine z_aload_n 2 O dX2_obstacle_42 rfl ?_
          refine z_getf kF_X2_72 O dX2_obstacle_43 hO.1 rfl ?_
          obtain ⟨it5, hRo6⟩ := hLg.o
          refine z_getf kF_X2_75 O dX2_obstacle_46 hRo6.1 rfl ?_
          refine z_bipush 40 O dX2_obstacle_49 (by decide +kernel) ?_
          refine z_icmp_lt 58 O dX2_obstacle_51 (by decide) ⟨by omega, by omega⟩ ⟨by omega, by omega⟩ (fun c_51 => ?_) (fun c_51 => ?_)
          · skip
            refine z_iconst 0 O dX2_obstacle_58 (by decide +kernel) ?_
            exact z_ireti O dX2_obstacle_59 rfl (by omega) (by omega) hpo (by unfold sRe; (repeat first | rw [if_pos (by omega)] | rw [if_neg (by omega)] | rw [if_neg (by rw [c_13]; decide)])) (rfl)
          · skip
            refine z_iconst 4 O dX2_obstacle_54 (by decide +kernel) ?_
            refine z_goto 59 O dX2_obstacle_55 (by decide) ?_
            exact z_ireti O dX2_obstacle_59 rfl (by omega) (by omega) hpo (by unfold sRe; (repeat first | rw [if_pos (by omega)] | rw [if_neg (by omega)] | rw [if_neg (by rw [c_13]; decide)])) (rfl)
        · skip
          refine z_iconst 3 O dX2_obstacle_40 (by decide +kernel) ?_
          exact z_ireti O dX2_obstacle_41 rfl (by omega) (by omega) hpo (by unfold sRe; (repeat first | rw [if_pos (by omega)] | rw [if_neg (by omega)] | rw [if_neg (by rw [c_13]; decide)])) (rfl)
    · skip
      refine z_iconst 2 O dX2_obstacle_16 (by decide +kernel) ?_
      exact z_ireti O dX2_obstacle_17 rfl (by omega) (by omega) hpo (by unfold sRe; (repeat first | rw [if_pos (by omega)] | rw [if_neg (by omega)] | rw [if_pos c_13])) (rfl)
  · skip
    refine z_iconst 1 O dX2_obstacle_7 (by decide +kernel) ?_
    exact z_ireti O dX2_obstacle_8 rfl (by omega) (by omega) hpo (by unfold sRe; (repeat first | rw [if_pos (by omega)] | rw [if_neg (by omega)])) (rfl)

theorem c_X2_canRegret {E : zE} (hst : E.1.stackTraces = false) {H : Heap} {r : zH} {a : Nat → Nat} {t : Nat} {G : Int → Int} {N : Int} {w : Int} {c : Int} (h : zSt E H r a t G) (hG : sW G N) (hw : 0 ≤ w ∧ w ≤ 2) (hc : 0 ≤ c ∧ c ≤ 15) : zC E yX2_canRegret cX2_canRegret 4 (some .boolean) 3 64 [.ref (a t), .ref (a (t + 6 + 16 * w.toNat)), .int (iI c)] H 0 0 (zRi (zb (sCr G w c)) (zSm H)) zN := by
  refine zC.of (by decide) (Nat.le_of_ble_eq_true rfl) hst ?_
  intro x O hE hpo hpx
  subst hE
  change zG x H 0 0 0 [(0, .ref (a t)), (1, .ref (a (t + 6 + 16 * w.toNat))), (2, .int (iI c))] []
  obtain ⟨sO, sQ, sV, sL, sWs⟩ := id h
  obtain ⟨hWk, hOt⟩ := zSt_w sWs hw
  obtain ⟨np, f1, f2, V, hO, hQ, hLg, hRg, hPL, hPR, hWs, hRl⟩ := id hWk
  have hm := hG.m hw
  have hl := hG.l hw
  have hre := sRe_R hG hw (c := c)
  have hmm := sRe_m (G := G) (w := w) (c := c)
  have hrg := fun q => sRg_R hG hw q
  refine z_aload_n 0 O dX2_canRegret_0 rfl ?_
  refine z_aload_n 1 O dX2_canRegret_1 rfl ?_
  refine z_iload_n 2 O dX2_canRegret_2 rfl ?_
  refine z_Vi [.ref (a (t + 6 + 16 * w.toNat)), .int (iI c)] [] kM_X2_121 O dX2_canRegret_3 (c_X2_obstacle hst h hG hw ⟨by omega, by omega⟩) rfl rfl sO.1 (by decide) (Nat.le_of_ble_eq_true rfl) (by omega) (by omega) (Nat.le_of_ble_eq_true rfl) zNx ?_
  refine z_istore_n [(3, .int (iI (sRe G w c))), (0, .ref (a t)), (1, .ref (a (t + 6 + 16 * w.toNat))), (2, .int (iI c))] O dX2_canRegret_6 (by decide) rfl ?_
  refine z_iload_n 0 O dX2_canRegret_7 rfl ?_
  refine z_if_eq 16 O dX2_canRegret_8 (by decide) ⟨by omega, by omega⟩ (fun c_8 => ?_) (fun c_8 => ?_)
  · skip
    refine z_aload_n 2 O dX2_canRegret_16 rfl ?_
    refine z_aload_n 2 O dX2_canRegret_17 rfl ?_
    refine z_getf kF_X2_69 O dX2_canRegret_18 hO.1 rfl ?_
    refine z_iconst 1 O dX2_canRegret_21 (by decide +kernel) ?_
    refine z_isub O dX2_canRegret_22 ?_
    by_cases hd1 : 0 ≤ (G (at_ w 0)) - 1 ∧ (G (at_ w 0)) - 1 < G (at_ w 0)
    · skip
      refine z_Vi [.int (iI ((G (at_ w 0)) - 1))] [] kM_X2_124 O dX2_canRegret_23 (by have c := c_X4_countRegrets hst hWk hG hw (i := (G (at_ w 0)) - 1) (by omega); rw [if_pos hd1] at c; exact c) rfl rfl hO.1 (by decide) (Nat.le_of_ble_eq_true rfl) (by omega) (by omega) (Nat.le_of_ble_eq_true rfl) zNx ?_
      refine z_bipush 6 O dX2_canRegret_26 (by decide +kernel) ?_
      refine z_icmp_ge 35 O dX2_canRegret_28 (by decide) ⟨by omega, by omega⟩ ⟨by omega, by omega⟩ (fun c_28 => ?_) (fun c_28 => ?_)
      · skip
        refine z_iconst 0 O dX2_canRegret_35 (by decide +kernel) ?_
        exact z_iretb O dX2_canRegret_36 rfl (by omega) (by omega) hpo (by first | exact zb_t (sCr_t.mpr ⟨by omega, by omega⟩) | exact zb_f (sCr_f.mpr (by omega))) (rfl)
      · skip
        refine z_iconst 1 O dX2_canRegret_31 (by decide +kernel) ?_
        refine z_goto 36 O dX2_canRegret_32 (by decide) ?_
        exact z_iretb O dX2_canRegret_36 rfl (by omega) (by omega) hpo (by first | exact zb_t (sCr_t.mpr ⟨by omega, by omega⟩) | exact zb_f (sCr_f.mpr (by omega))) (rfl)
    · skip
      refine z_Vi [.int (iI ((G (at_ w 0)) - 1))] [] kM_X2_124 O dX2_canRegret_23 (by have c := c_X4_countRegrets hst hWk hG hw (i := (G (at_ w 0)) - 1) (by omega); rw [if_neg hd1] at c; exact c) rfl rfl hO.1 (by decide) (Nat.le_of_ble_eq_true rfl) (by omega) (by omega) (Nat.le_of_ble_eq_true rfl) zNx ?_
      refine z_bipush 6 O dX2_canRegret_26 (by decide +kernel) ?_
      refine z_icmp_ge 35 O dX2_canRegret_28 (by decide) ⟨by omega, by omega⟩ ⟨by omega, by omega⟩ (fun c_28 => ?_) (fun c_28 => ?_)
      · exfalso; omega
      · skip
        refine z_iconst 1 O dX2_canRegret_31 (by decide +kernel) ?_
        refine z_goto 36 O dX2_canRegret_32 (by decide) ?_
        exact z_iretb O dX2_canRegret_36 rfl (by omega) (by omega) hpo (by first | exact zb_t (sCr_t.mpr ⟨by omega, by omega⟩) | exact zb_f (sCr_f.mpr (by omega))) (rfl)
  · skip
    refine z_iload_n 0 O dX2_canRegret_11 rfl ?_
    refine z_iconst 4 O dX2_canRegret_12 (by decide +kernel) ?_
    refine z_icmp_ne 35 O dX2_canRegret_13 (by decide) ⟨by omega, by omega⟩ ⟨by omega, by omega⟩ (fun c_13 => ?_) (fun c_13 => ?_)
    · skip
      refine z_iconst 0 O dX2_canRegret_35 (by decide +kernel) ?_
      exact z_iretb O dX2_canRegret_36 rfl (by omega) (by omega) hpo (by first | exact zb_t (sCr_t.mpr ⟨by omega, by omega⟩) | exact zb_f (sCr_f.mpr (by omega))) (rfl)
    · skip
      refine z_aload_n 2 O dX2_canRegret_16 rfl ?_
      refine z_aload_n 2 O dX2_canRegret_17 rfl ?_
      refine z_getf kF_X2_69 O dX2_canRegret_18 hO.1 rfl ?_
      refine z_iconst 1 O dX2_canRegret_21 (by decide +kernel) ?_
      refine z_isub O dX2_canRegret_22 ?_
      by_cases hd2 : 0 ≤ (G (at_ w 0)) - 1 ∧ (G (at_ w 0)) - 1 < G (at_ w 0)
      · skip
        refine z_Vi [.int (iI ((G (at_ w 0)) - 1))] [] kM_X2_124 O dX2_canRegret_23 (by have c := c_X4_countRegrets hst hWk hG hw (i := (G (at_ w 0)) - 1) (by omega); rw [if_pos hd2] at c; exact c) rfl rfl hO.1 (by decide) (Nat.le_of_ble_eq_true rfl) (by omega) (by omega) (Nat.le_of_ble_eq_true rfl) zNx ?_
        refine z_bipush 6 O dX2_canRegret_26 (by decide +kernel) ?_
        refine z_icmp_ge 35 O dX2_canRegret_28 (by decide) ⟨by omega, by omega⟩ ⟨by omega, by omega⟩ (fun c_28 => ?_) (fun c_28 => ?_)
        · skip
          refine z_iconst 0 O dX2_canRegret_35 (by decide +kernel) ?_
          exact z_iretb O dX2_canRegret_36 rfl (by omega) (by omega) hpo (by first | exact zb_t (sCr_t.mpr ⟨by omega, by omega⟩) | exact zb_f (sCr_f.mpr (by omega))) (rfl)
        · skip
          refine z_iconst 1 O dX2_canRegret_31 (by decide +kernel) ?_
          refine z_goto 36 O dX2_canRegret_32 (by decide) ?_
          exact z_iretb O dX2_canRegret_36 rfl (by omega) (by omega) hpo (by first | exact zb_t (sCr_t.mpr ⟨by omega, by omega⟩) | exact zb_f (sCr_f.mpr (by omega))) (rfl)
      · skip
        refine z_Vi [.int (iI ((G (at_ w 0)) - 1))] [] kM_X2_124 O dX2_canRegret_23 (by have c := c_X4_countRegrets hst hWk hG hw (i := (G (at_ w 0)) - 1) (by omega); rw [if_neg hd2] at c; exact c) rfl rfl hO.1 (by decide) (Nat.le_of_ble_eq_true rfl) (by omega) (by omega) (Nat.le_of_ble_eq_true rfl) zNx ?_
        refine z_bipush 6 O dX2_canRegret_26 (by decide +kernel) ?_
        refine z_icmp_ge 35 O dX2_canRegret_28 (by decide) ⟨by omega, by omega⟩ ⟨by omega, by omega⟩ (fun c_28 => ?_) (fun c_28 => ?_)
        · exfalso; omega
        · skip
          refine z_iconst 1 O dX2_canRegret_31 (by decide +kernel) ?_
          refine z_goto 36 O dX2_canRegret_32 (by decide) ?_
          exact z_iretb O dX2_canRegret_36 rfl (by omega) (by omega) hpo (by first | exact zb_t (sCr_t.mpr ⟨by omega, by omega⟩) | exact zb_f (sCr_f.mpr (by omega))) (rfl)

/-- may the deed be done? -/
def alD (G : Int → Int) (k w x y : Int) : Bool :=
  if k = 0 then sCb G w else if k = 1 then sOp G w else if k = 2 then decide (0 < G (at_ w 0)) else if k = 3 then sCp G w else if k = 4 then gT G w x else if k = 5 then sBt x 0 15 && (sBt y 1 99 && sCr G w x) else if k = 6 then sBt x 0 15 && (sBt y 0 99 && decide (sRe G w x = 0)) else false
/-- what it leaves, what it answers -/
def opD (G : Int → Int) (k w x y : Int) : Int → Int :=
  if k = 0 then sBegin G w else if k = 1 then sDone G w else if k = 2 then sFail G w else if k = 3 then sPoint G w else if k = 4 then sBack G w x else if k = 5 then sRegret G w x y else sWrite G w x y
def vlD (G : Int → Int) (k w x y : Int) : Int :=
  if k = 0 then G (at_ w 0) + 1 else if k = 1 then G (at_ w 0) - 1 else if k = 2 then sFailR G w else if k = 3 then G (sIn G w 2) else if k = 4 then G (at_ w 1) - G (sIn G w (5 + x)) else if k = 5 then sRg (sRegret G w x y) w (G (at_ w 0) - 1) else G x
theorem gT_e {G : Int → Int} {w i : Int} : (sOp G w && sHp G w i) = gT G w i := by
  unfold gT
  cases hs : sSp G w with
  | true =>
    have := sSp_t.mp hs
    rw [sOp_f.mpr (by omega)]
    simp
  | false =>
    have h0 := sSp_f.mp hs
    by_cases q : 0 < G (at_ w 0)
    · rw [sOp_t.mpr ⟨q, by omega⟩]
      simp
    · rw [sOp_f.mpr (by omega), sHp_f.mpr (by omega)]
      simp
theorem c_X2_allows {E : zE} (hst : E.1.stackTraces = false) {H : Heap} {r : zH} {a : Nat → Nat} {t : Nat} {G : Int → Int} {N : Int} {w : Int} {k u v : Int} (h : zSt E H r a t G) (hG : sW G N) (hw : 0 ≤ w ∧ w ≤ 2) (hk : 0 ≤ k ∧ k ≤ 6) (hu : zR u) (hv : zR v) : zC E yX2_allows cX2_allows 5 (some .boolean) 4 87 [.ref (a t), .int (iI k), .ref (a (t + 6 + 16 * w.toNat)), .int (iI u), .int (iI v)] H 0 0 (zRi (zb (alD G k w u v)) (zSm H)) zN := by
  refine zC.of (by decide) (Nat.le_of_ble_eq_true rfl) hst ?_
  intro x O hE hpo hpx
  subst hE
  change zG x H 0 0 0 [(0, .ref (a t)), (1, .int (iI k)), (2, .ref (a (t + 6 + 16 * w.toNat))), (3, .int (iI u)), (4, .int (iI v))] []
  obtain ⟨sO, sQ, sV, sL, sWs⟩ := id h
  obtain ⟨hWk, hOt⟩ := zSt_w sWs hw
  obtain ⟨np, f1, f2, V, hO, hQ, hLg, hRg, hPL, hPR, hWs, hRl⟩ := id hWk
  have hm := hG.m hw
  have hl := hG.l hw
  have hsi : G (sIn G w 2) = G (wA w (G (at_ w 0) - 1) 2) := rfl
  have hin := fun q : 0 < G (at_ w 0) => (hG.in hw q).2.2.1
  refine z_iload_n 1 O dX2_allows_0 rfl ?_
  rcases (show k = 0 ∨ k = 1 ∨ k = 2 ∨ k = 3 ∨ k = 4 ∨ k = 5 ∨ k = 6 ∨ (k < 0 ∨ 6 < k) by omega) with c_1 | c_1 | c_1 | c_1 | c_1 | c_1 | c_1 | c_1
  · skip
    refine z_tsw 0 44 O dX2_allows_1 ⟨by omega, by omega⟩ (by omega) (by decide) rfl (by decide) ?_
    refine z_aload_n 2 O dX2_allows_44 rfl ?_
    refine z_getf kF_X2_69 O dX2_allows_45 hO.1 rfl ?_
    refine z_iconst 5 O dX2_allows_48 (by decide +kernel) ?_
    refine z_icmp_ge 63 O dX2_allows_49 (by decide) ⟨by omega, by omega⟩ ⟨by omega, by omega⟩ (fun c_49 => ?_) (fun c_49 => ?_)
    · skip
      refine z_iconst 0 O dX2_allows_63 (by decide +kernel) ?_
      exact z_iretb O dX2_allows_64 rfl (by omega) (by omega) hpo (by unfold alD; (repeat first | rw [if_pos (by omega)] | rw [if_neg (by omega)]); first | exact zb_t (sCb_t.mpr ⟨by omega, sSp_f.mp c_56⟩) | exact zb_f (sCb_f.mpr (by omega)) | exact zb_f (sCb_f.mpr (fun q => q.2 (sSp_t.mp c_56)))) (rfl)
    · skip
      refine z_aload_n 2 O dX2_allows_52 rfl ?_
      refine z_Vi [] [] kM_X2_90 O dX2_allows_53 (c_X4_isSpoiled hst hWk hG hw) rfl rfl hO.1 (by decide) (Nat.le_of_ble_eq_true rfl) (by omega) (by omega) (Nat.le_of_ble_eq_true rfl) zNx ?_
      refine z_ifb_ne 63 O dX2_allows_56 (by decide) (fun c_56 => ?_) (fun c_56 => ?_)
      · skip
        refine z_iconst 0 O dX2_allows_63 (by decide +kernel) ?_
        exact z_iretb O dX2_allows_64 rfl (by omega) (by omega) hpo (by unfold alD; (repeat first | rw [if_pos (by omega)] | rw [if_neg (by omega)] | rw [if_pos c_56]); first | exact zb_t (sCb_t.mpr ⟨by omega, sSp_f.mp c_56⟩) | exact zb_f (sCb_f.mpr (by omega)) | exact zb_f (sCb_f.mpr (fun q => q.2 (sSp_t.mp c_56)))) (rfl)
      · skip
        refine z_iconst 1 O dX2_allows_59 (by decide +kernel) ?_
        refine z_goto 64 O dX2_allows_60 (by decide) ?_
        exact z_iretb O dX2_allows_64 rfl (by omega) (by omega) hpo (by unfold alD; (repeat first | rw [if_pos (by omega)] | rw [if_neg (by omega)] | rw [if_neg (by rw [c_56]; decide)]); first | exact zb_t (sCb_t.mpr ⟨by omega, sSp_f.mp c_56⟩) | exact zb_f (sCb_f.mpr (by omega)) | exact zb_f (sCb_f.mpr (fun q => q.2 (sSp_t.mp c_56)))) (rfl)
  · skip
    refine z_tsw 1 65 O dX2_allows_1 ⟨by omega, by omega⟩ (by omega) (by decide) rfl (by decide) ?_
    refine z_aload_n 2 O dX2_allows_65 rfl ?_
    refine z_Vi [] [] kM_X2_98 O dX2_allows_66 (c_X4_isReady hst hWk hG hw) rfl rfl hO.1 (by decide) (Nat.le_of_ble_eq_true rfl) (by omega) (by omega) (Nat.le_of_ble_eq_true rfl) zNx ?_
    exact z_iretb O dX2_allows_69 rfl (by omega) (by omega) hpo (by unfold alD; (repeat first | rw [if_pos (by omega)] | rw [if_neg (by omega)]); (try rfl)) (rfl)
  · skip
    refine z_tsw 2 70 O dX2_allows_1 ⟨by omega, by omega⟩ (by omega) (by decide) rfl (by decide) ?_
    refine z_aload_n 2 O dX2_allows_70 rfl ?_
    refine z_getf kF_X2_69 O dX2_allows_71 hO.1 rfl ?_
    refine z_if_le 81 O dX2_allows_74 (by decide) ⟨by omega, by omega⟩ (fun c_74 => ?_) (fun c_74 => ?_)
    · skip
      refine z_iconst 0 O dX2_allows_81 (by decide +kernel) ?_
      exact z_iretb O dX2_allows_82 rfl (by omega) (by omega) hpo (by unfold alD; (repeat first | rw [if_pos (by omega)] | rw [if_neg (by omega)]); first | exact zb_t (decide_eq_true (by omega)) | exact zb_f (decide_eq_false (by omega))) (rfl)
    · skip
      refine z_iconst 1 O dX2_allows_77 (by decide +kernel) ?_
      refine z_goto 82 O dX2_allows_78 (by decide) ?_
      exact z_iretb O dX2_allows_82 rfl (by omega) (by omega) hpo (by unfold alD; (repeat first | rw [if_pos (by omega)] | rw [if_neg (by omega)]); first | exact zb_t (decide_eq_true (by omega)) | exact zb_f (decide_eq_false (by omega))) (rfl)
  · skip
    refine z_tsw 3 83 O dX2_allows_1 ⟨by omega, by omega⟩ (by omega) (by decide) rfl (by decide) ?_
    refine z_aload_n 2 O dX2_allows_83 rfl ?_
    refine z_Vi [] [] kM_X2_98 O dX2_allows_84 (c_X4_isReady hst hWk hG hw) rfl rfl hO.1 (by decide) (Nat.le_of_ble_eq_true rfl) (by omega) (by omega) (Nat.le_of_ble_eq_true rfl) zNx ?_
    refine z_ifb_eq 108 O dX2_allows_87 (by decide) (fun c_87 => ?_) (fun c_87 => ?_)
    · skip
      refine z_iconst 0 O dX2_allows_108 (by decide +kernel) ?_
      exact z_iretb O dX2_allows_109 rfl (by omega) (by omega) hpo (by unfold alD; (repeat first | rw [if_pos (by omega)] | rw [if_neg (by omega)] | rw [if_neg (by rw [c_87]; decide)]); first | exact zb_t (sCp_t.mpr ⟨(sOp_t.mp c_87).1, (sOp_t.mp c_87).2, by omega⟩) | exact zb_f (sCp_f.mpr (fun q => absurd (sOp_t.mpr ⟨q.1, q.2.1⟩) (by rw [c_87]; decide))) | exact zb_f (sCp_f.mpr (by omega)) | (exfalso; omega)) (rfl)
    · skip
      refine z_aload_n 2 O dX2_allows_90 rfl ?_
      refine z_aload_n 2 O dX2_allows_91 rfl ?_
      have hrd := sOp_t.mp c_87
      refine z_getf kF_X2_69 O dX2_allows_92 hO.1 rfl ?_
      refine z_iconst 1 O dX2_allows_95 (by decide +kernel) ?_
      refine z_isub O dX2_allows_96 ?_
      by_cases hd1 : 0 ≤ (G (at_ w 0)) - 1 ∧ (G (at_ w 0)) - 1 < G (at_ w 0)
      · skip
        refine z_Vi [.int (iI ((G (at_ w 0)) - 1))] [] kM_X2_101 O dX2_allows_97 (by have c := c_X4_countPoints hst hWk hG hw (i := (G (at_ w 0)) - 1) (by omega); rw [if_pos hd1] at c; exact c) rfl rfl hO.1 (by decide) (Nat.le_of_ble_eq_true rfl) (by omega) (by omega) (Nat.le_of_ble_eq_true rfl) zNx ?_
        have hina := hin (by omega)
        refine z_iconst 4 O dX2_allows_100 (by decide +kernel) ?_
        refine z_icmp_ge 108 O dX2_allows_101 (by decide) ⟨by omega, by omega⟩ ⟨by omega, by omega⟩ (fun c_101 => ?_) (fun c_101 => ?_)
        · skip
          refine z_iconst 0 O dX2_allows_108 (by decide +kernel) ?_
          exact z_iretb O dX2_allows_109 rfl (by omega) (by omega) hpo (by unfold alD; (repeat first | rw [if_pos (by omega)] | rw [if_neg (by omega)] | rw [if_pos c_87]); first | exact zb_t (sCp_t.mpr ⟨(sOp_t.mp c_87).1, (sOp_t.mp c_87).2, by omega⟩) | exact zb_f (sCp_f.mpr (fun q => absurd (sOp_t.mpr ⟨q.1, q.2.1⟩) (by rw [c_87]; decide))) | exact zb_f (sCp_f.mpr (by omega)) | (exfalso; omega)) (rfl)
        · skip
          refine z_iconst 1 O dX2_allows_104 (by decide +kernel) ?_
          refine z_goto 109 O dX2_allows_105 (by decide) ?_
          exact z_iretb O dX2_allows_109 rfl (by omega) (by omega) hpo (by unfold alD; (repeat first | rw [if_pos (by omega)] | rw [if_neg (by omega)] | rw [if_pos c_87]); first | exact zb_t (sCp_t.mpr ⟨(sOp_t.mp c_87).1, (sOp_t.mp c_87).2, by omega⟩) | exact zb_f (sCp_f.mpr (fun q => absurd (sOp_t.mpr ⟨q.1, q.2.1⟩) (by rw [c_87]; decide))) | exact zb_f (sCp_f.mpr (by omega)) | (exfalso; omega)) (rfl)
      · skip
        refine z_Vi [.int (iI ((G (at_ w 0)) - 1))] [] kM_X2_101 O dX2_allows_97 (by have c := c_X4_countPoints hst hWk hG hw (i := (G (at_ w 0)) - 1) (by omega); rw [if_neg hd1] at c; exact c) rfl rfl hO.1 (by decide) (Nat.le_of_ble_eq_true rfl) (by omega) (by omega) (Nat.le_of_ble_eq_true rfl) zNx ?_
        have hina := hin (by omega)
        refine z_iconst 4 O dX2_allows_100 (by decide +kernel) ?_
        refine z_icmp_ge 108 O dX2_allows_101 (by decide) ⟨by omega, by omega⟩ ⟨by omega, by omega⟩ (fun c_101 => ?_) (fun c_101 => ?_)
        · exfalso; omega
        · skip
          refine z_iconst 1 O dX2_allows_104 (by decide +kernel) ?_
          refine z_goto 109 O dX2_allows_105 (by decide) ?_
          exact z_iretb O dX2_allows_109 rfl (by omega) (by omega) hpo (by unfold alD; (repeat first | rw [if_pos (by omega)] | rw [if_neg (by omega)] | rw [if_pos c_87]); first | exact zb_t (sCp_t.mpr ⟨(sOp_t.mp c_87).1, (sOp_t.mp c_87).2, by omega⟩) | exact zb_f (sCp_f.mpr (fun q => absurd (sOp_t.mpr ⟨q.1, q.2.1⟩) (by rw [c_87]; decide))) | exact zb_f (sCp_f.mpr (by omega)) | (exfalso; omega)) (rfl)
  · skip
    refine z_tsw 4 110 O dX2_allows_1 ⟨by omega, by omega⟩ (by omega) (by decide) rfl (by decide) ?_
    refine z_aload_n 2 O dX2_allows_110 rfl ?_
    refine z_Vi [] [] kM_X2_98 O dX2_allows_111 (c_X4_isReady hst hWk hG hw) rfl rfl hO.1 (by decide) (Nat.le_of_ble_eq_true rfl) (by omega) (by omega) (Nat.le_of_ble_eq_true rfl) zNx ?_
    refine z_ifb_eq 129 O dX2_allows_114 (by decide) (fun c_114 => ?_) (fun c_114 => ?_)
    · skip
      refine z_iconst 0 O dX2_allows_129 (by decide +kernel) ?_
      exact z_iretb O dX2_allows_130 rfl (by omega) (by omega) hpo (by unfold alD; (repeat first | rw [if_pos (by omega)] | rw [if_neg (by omega)] | rw [if_neg (by rw [c_114]; decide)]); rw [← gT_e, c_114]; first | rfl | (rw [c_122]; rfl)) (rfl)
    · skip
      refine z_aload_n 2 O dX2_allows_117 rfl ?_
      refine z_iload_n 3 O dX2_allows_118 rfl ?_
      refine z_Vi [.int (iI u)] [] kM_X2_104 O dX2_allows_119 (c_X4_hasPoint hst hWk hG hw ⟨by omega, by omega⟩) rfl rfl hO.1 (by decide) (Nat.le_of_ble_eq_true rfl) (by omega) (by omega) (Nat.le_of_ble_eq_true rfl) zNx ?_
      refine z_ifb_eq 129 O dX2_allows_122 (by decide) (fun c_122 => ?_) (fun c_122 => ?_)
      · skip
        refine z_iconst 0 O dX2_allows_129 (by decide +kernel) ?_
        exact z_iretb O dX2_allows_130 rfl (by omega) (by omega) hpo (by unfold alD; (repeat first | rw [if_pos (by omega)] | rw [if_neg (by omega)] | rw [if_pos c_114] | rw [if_neg (by rw [c_122]; decide)]); rw [← gT_e, c_114]; first | rfl | (rw [c_122]; rfl)) (rfl)
      · skip
        refine z_iconst 1 O dX2_allows_125 (by decide +kernel) ?_
        refine z_goto 130 O dX2_allows_126 (by decide) ?_
        exact z_iretb O dX2_allows_130 rfl (by omega) (by omega) hpo (by unfold alD; (repeat first | rw [if_pos (by omega)] | rw [if_neg (by omega)] | rw [if_pos c_114] | rw [if_pos c_122]); rw [← gT_e, c_114]; first | rfl | (rw [c_122]; rfl)) (rfl)
  · skip
    refine z_tsw 5 131 O dX2_allows_1 ⟨by omega, by omega⟩ (by omega) (by decide) rfl (by decide) ?_
    refine z_iload_n 3 O dX2_allows_131 rfl ?_
    refine z_Si [.int (iI u)] [] kM_X2_108 O dX2_allows_132 (c_X5_isCell hst ⟨by omega, by omega⟩) rfl rfl (by decide) (Nat.le_of_ble_eq_true rfl) (by omega) (by omega) (Nat.le_of_ble_eq_true rfl) zNx ?_
    refine z_ifb_eq 159 O dX2_allows_135 (by decide) (fun c_135 => ?_) (fun c_135 => ?_)
    · skip
      refine z_iconst 0 O dX2_allows_159 (by decide +kernel) ?_
      exact z_iretb O dX2_allows_160 rfl (by omega) (by omega) hpo (by unfold alD; (repeat first | rw [if_pos (by omega)] | rw [if_neg (by omega)] | rw [if_neg (by rw [c_135]; decide)]); rw [c_135]; first | rfl | (rw [c_143]; first | rfl | (rw [c_152]; rfl))) (rfl)
    · skip
      refine z_iload 4 O dX2_allows_138 rfl ?_
      refine z_Si [.int (iI v)] [] kM_X2_111 O dX2_allows_140 (c_X5_isRegretNumber hst ⟨by omega, by omega⟩) rfl rfl (by decide) (Nat.le_of_ble_eq_true rfl) (by omega) (by omega) (Nat.le_of_ble_eq_true rfl) zNx ?_
      refine z_ifb_eq 159 O dX2_allows_143 (by decide) (fun c_143 => ?_) (fun c_143 => ?_)
      · skip
        refine z_iconst 0 O dX2_allows_159 (by decide +kernel) ?_
        exact z_iretb O dX2_allows_160 rfl (by omega) (by omega) hpo (by unfold alD; (repeat first | rw [if_pos (by omega)] | rw [if_neg (by omega)] | rw [if_pos c_135] | rw [if_neg (by rw [c_143]; decide)]); rw [c_135]; first | rfl | (rw [c_143]; first | rfl | (rw [c_152]; rfl))) (rfl)
      · skip
        have hxb := sBt_t.mp c_135
        refine z_aload_n 0 O dX2_allows_146 rfl ?_
        refine z_aload_n 2 O dX2_allows_147 rfl ?_
        refine z_iload_n 3 O dX2_allows_148 rfl ?_
        refine z_Vi [.ref (a (t + 6 + 16 * w.toNat)), .int (iI u)] [] kM_X2_114 O dX2_allows_149 (c_X2_canRegret hst h hG hw ⟨by omega, by omega⟩) rfl rfl sO.1 (by decide) (Nat.le_of_ble_eq_true rfl) (by omega) (by omega) (Nat.le_of_ble_eq_true rfl) zNx ?_
        refine z_ifb_eq 159 O dX2_allows_152 (by decide) (fun c_152 => ?_) (fun c_152 => ?_)
        · skip
          refine z_iconst 0 O dX2_allows_159 (by decide +kernel) ?_
          exact z_iretb O dX2_allows_160 rfl (by omega) (by omega) hpo (by unfold alD; (repeat first | rw [if_pos (by omega)] | rw [if_neg (by omega)] | rw [if_pos c_135] | rw [if_pos c_143] | rw [if_neg (by rw [c_152]; decide)]); rw [c_135]; first | rfl | (rw [c_143]; first | rfl | (rw [c_152]; rfl))) (rfl)
        · skip
          refine z_iconst 1 O dX2_allows_155 (by decide +kernel) ?_
          refine z_goto 160 O dX2_allows_156 (by decide) ?_
          exact z_iretb O dX2_allows_160 rfl (by omega) (by omega) hpo (by unfold alD; (repeat first | rw [if_pos (by omega)] | rw [if_neg (by omega)] | rw [if_pos c_135] | rw [if_pos c_143] | rw [if_pos c_152]); rw [c_135]; first | rfl | (rw [c_143]; first | rfl | (rw [c_152]; rfl))) (rfl)
  · skip
    refine z_tsw 6 161 O dX2_allows_1 ⟨by omega, by omega⟩ (by omega) (by decide) rfl (by decide) ?_
    refine z_iload_n 3 O dX2_allows_161 rfl ?_
    refine z_Si [.int (iI u)] [] kM_X2_108 O dX2_allows_162 (c_X5_isCell hst ⟨by omega, by omega⟩) rfl rfl (by decide) (Nat.le_of_ble_eq_true rfl) (by omega) (by omega) (Nat.le_of_ble_eq_true rfl) zNx ?_
    refine z_ifb_eq 189 O dX2_allows_165 (by decide) (fun c_165 => ?_) (fun c_165 => ?_)
    · skip
      refine z_iconst 0 O dX2_allows_189 (by decide +kernel) ?_
      exact z_iretb O dX2_allows_190 rfl (by omega) (by omega) hpo (by unfold alD; (repeat first | rw [if_pos (by omega)] | rw [if_neg (by omega)] | rw [if_neg (by rw [c_165]; decide)]); rw [c_165]; first | rfl | (rw [c_173]; first | rfl | (first | exact zb_t (by rw [decide_eq_true (by omega)]; rfl) | exact zb_f (by rw [decide_eq_false (by omega)]; rfl)))) (rfl)
    · skip
      refine z_iload 4 O dX2_allows_168 rfl ?_
      refine z_Si [.int (iI v)] [] kM_X2_118 O dX2_allows_170 (c_X5_isValue hst ⟨by omega, by omega⟩) rfl rfl (by decide) (Nat.le_of_ble_eq_true rfl) (by omega) (by omega) (Nat.le_of_ble_eq_true rfl) zNx ?_
      refine z_ifb_eq 189 O dX2_allows_173 (by decide) (fun c_173 => ?_) (fun c_173 => ?_)
      · skip
        refine z_iconst 0 O dX2_allows_189 (by decide +kernel) ?_
        exact z_iretb O dX2_allows_190 rfl (by omega) (by omega) hpo (by unfold alD; (repeat first | rw [if_pos (by omega)] | rw [if_neg (by omega)] | rw [if_pos c_165] | rw [if_neg (by rw [c_173]; decide)]); rw [c_165]; first | rfl | (rw [c_173]; first | rfl | (first | exact zb_t (by rw [decide_eq_true (by omega)]; rfl) | exact zb_f (by rw [decide_eq_false (by omega)]; rfl)))) (rfl)
      · skip
        have hxb := sBt_t.mp c_165
        have hre := sRe_R hG hw (c := u)
        refine z_aload_n 0 O dX2_allows_176 rfl ?_
        refine z_aload_n 2 O dX2_allows_177 rfl ?_
        refine z_iload_n 3 O dX2_allows_178 rfl ?_
        refine z_Vi [.ref (a (t + 6 + 16 * w.toNat)), .int (iI u)] [] kM_X2_121 O dX2_allows_179 (c_X2_obstacle hst h hG hw ⟨by omega, by omega⟩) rfl rfl sO.1 (by decide) (Nat.le_of_ble_eq_true rfl) (by omega) (by omega) (Nat.le_of_ble_eq_true rfl) zNx ?_
        refine z_if_ne 189 O dX2_allows_182 (by decide) ⟨by omega, by omega⟩ (fun c_182 => ?_) (fun c_182 => ?_)
        · skip
          refine z_iconst 0 O dX2_allows_189 (by decide +kernel) ?_
          exact z_iretb O dX2_allows_190 rfl (by omega) (by omega) hpo (by unfold alD; (repeat first | rw [if_pos (by omega)] | rw [if_neg (by omega)] | rw [if_pos c_165] | rw [if_pos c_173]); rw [c_165]; first | rfl | (rw [c_173]; first | rfl | (first | exact zb_t (by rw [decide_eq_true (by omega)]; rfl) | exact zb_f (by rw [decide_eq_false (by omega)]; rfl)))) (rfl)
        · skip
          refine z_iconst 1 O dX2_allows_185 (by decide +kernel) ?_
          refine z_goto 190 O dX2_allows_186 (by decide) ?_
          exact z_iretb O dX2_allows_190 rfl (by omega) (by omega) hpo (by unfold alD; (repeat first | rw [if_pos (by omega)] | rw [if_neg (by omega)] | rw [if_pos c_165] | rw [if_pos c_173]); rw [c_165]; first | rfl | (rw [c_173]; first | rfl | (first | exact zb_t (by rw [decide_eq_true (by omega)]; rfl) | exact zb_f (by rw [decide_eq_false (by omega)]; rfl)))) (rfl)
  · exfalso; omega

