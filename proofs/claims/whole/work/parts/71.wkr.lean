/-! the class: workers, what they answer (written by program: wip/whole/gen/class1.py) -/
theorem zRow.o {E : zE} {H : Heap} {r : zH} {t q most : Nat} {n : Int} {g : Int → Int} (h : zRow E H r t q most n g) : ∃ it : Nat, zO E H r t q 1 [.int (iI (most : Int)), .ref it, .int (iI n)] := by
  obtain ⟨it, f, h1, -⟩ := h
  exact ⟨it, h1⟩
theorem c_X4_workAt {E : zE} (hst : E.1.stackTraces = false) {H : Heap} {r : zH} {a : Nat → Nat} {t : Nat} {w : Int} {G : Int → Int} {N : Int} {i : Int} (h : zWkr E H r a t w G) (hG : sW G N) (hw : 0 ≤ w ∧ w ≤ 2) (hi : zR i) : zC E yX4_workAt cX4_workAt 2 (some (.object "ForgivenWork$Work")) 0 0 [.ref (a t), .int (iI i)] H 0 0 (zRr (if 0 ≤ i ∧ i < G (at_ w 0) then some (a (t + 10 + i.toNat)) else none) (zSm H)) zN := by
  refine zC.of (by decide) (Nat.le_of_ble_eq_true rfl) hst ?_
  intro x O hE hpo hpx
  subst hE
  change zG x H 0 0 0 [(0, .ref (a t)), (1, .int (iI i))] []
  obtain ⟨np, f1, f2, V, hO, hQ, hLg, hRg, hPL, hPR, hWs, hRl⟩ := id h
  have hm := hG.m hw
  have hl := hG.l hw
  refine z_iload_n 1 O dX4_workAt_0 rfl ?_
  refine z_if_lt 30 O dX4_workAt_1 (by decide) ⟨by omega, by omega⟩ (fun c_1 => ?_) (fun c_1 => ?_)
  · skip
    refine z_null O dX4_workAt_30 ?_
    exact z_iretrN O dX4_workAt_31 rfl (by first | exact Or.inl ⟨_, rfl⟩ | exact Or.inr ⟨_, rfl⟩) (by omega) (by omega) hpo (by rw [if_neg (by omega)]) (rfl)
  · skip
    refine z_iload_n 1 O dX4_workAt_4 rfl ?_
    refine z_aload_n 0 O dX4_workAt_5 rfl ?_
    refine z_getf kF_X4_40 O dX4_workAt_6 hO.1 rfl ?_
    refine z_icmp_ge 30 O dX4_workAt_9 (by decide) ⟨by omega, by omega⟩ ⟨by omega, by omega⟩ (fun c_9 => ?_) (fun c_9 => ?_)
    · skip
      refine z_null O dX4_workAt_30 ?_
      exact z_iretrN O dX4_workAt_31 rfl (by first | exact Or.inl ⟨_, rfl⟩ | exact Or.inr ⟨_, rfl⟩) (by omega) (by omega) hpo (by rw [if_neg (by omega)]) (rfl)
    · skip
      refine z_iload_n 1 O dX4_workAt_12 rfl ?_
      refine z_aload_n 0 O dX4_workAt_13 rfl ?_
      refine z_getf kF_X4_11 O dX4_workAt_14 hO.1 rfl ?_
      refine z_alenR (by decide) O dX4_workAt_17 hQ.1 ?_
      refine z_icmp_ge 30 O dX4_workAt_18 (by decide) ⟨by omega, by omega⟩ ⟨by omega, by omega⟩ (fun c_18 => ?_) (fun c_18 => ?_)
      · exfalso; omega
      · skip
        refine z_aload_n 0 O dX4_workAt_21 rfl ?_
        refine z_getf kF_X4_11 O dX4_workAt_22 hO.1 rfl ?_
        refine z_iload_n 1 O dX4_workAt_25 rfl ?_
        refine z_aald (T := 0) (by decide) O dX4_workAt_26 hQ.1 ⟨by omega, by omega⟩ (by omega) (by omega) ?_
        change zG x _ _ _ _ _ (.ref (a (t + 10 + i.toNat)) :: _)
        refine z_goto 31 O dX4_workAt_27 (by decide) ?_
        exact z_iretr O dX4_workAt_31 rfl (by first | exact Or.inl ⟨_, rfl⟩ | exact Or.inr ⟨_, rfl⟩) (by omega) (by omega) hpo (by rw [if_pos (by omega)]) (rfl)

theorem c_X4_innermost {E : zE} (hst : E.1.stackTraces = false) {H : Heap} {r : zH} {a : Nat → Nat} {t : Nat} {w : Int} {G : Int → Int} (h : zWkr E H r a t w G) : zC E yX4_innermost cX4_innermost 1 (some (.object "ForgivenWork$Work")) 0 0 [.ref (a t)] H 0 0 (zRr (if 0 < G (at_ w 0) then some (a (t + 10 + (G (at_ w 0) - 1).toNat)) else none) (zSm H)) zN := by
  refine zC.of (by decide) (Nat.le_of_ble_eq_true rfl) hst ?_
  intro x O hE hpo hpx
  subst hE
  change zG x H 0 0 0 [(0, .ref (a t))] []
  obtain ⟨np, f1, f2, V, hO, hQ, hLg, hRg, hPL, hPR, hWs, hRl⟩ := id h
  have hm := hRl.1
  refine z_aload_n 0 O dX4_innermost_0 rfl ?_
  refine z_getf kF_X4_40 O dX4_innermost_1 hO.1 rfl ?_
  refine z_if_le 33 O dX4_innermost_4 (by decide) ⟨by omega, by omega⟩ (fun c_4 => ?_) (fun c_4 => ?_)
  · skip
    refine z_null O dX4_innermost_33 ?_
    exact z_iretrN O dX4_innermost_34 rfl (by first | exact Or.inl ⟨_, rfl⟩ | exact Or.inr ⟨_, rfl⟩) (by omega) (by omega) hpo (by rw [if_neg (by omega)]) (rfl)
  · skip
    refine z_aload_n 0 O dX4_innermost_7 rfl ?_
    refine z_getf kF_X4_40 O dX4_innermost_8 hO.1 rfl ?_
    refine z_aload_n 0 O dX4_innermost_11 rfl ?_
    refine z_getf kF_X4_11 O dX4_innermost_12 hO.1 rfl ?_
    refine z_alenR (by decide) O dX4_innermost_15 hQ.1 ?_
    refine z_icmp_gt 33 O dX4_innermost_16 (by decide) ⟨by omega, by omega⟩ ⟨by omega, by omega⟩ (fun c_16 => ?_) (fun c_16 => ?_)
    · exfalso; omega
    · skip
      refine z_aload_n 0 O dX4_innermost_19 rfl ?_
      refine z_getf kF_X4_11 O dX4_innermost_20 hO.1 rfl ?_
      refine z_aload_n 0 O dX4_innermost_23 rfl ?_
      refine z_getf kF_X4_40 O dX4_innermost_24 hO.1 rfl ?_
      refine z_iconst 1 O dX4_innermost_27 (by decide +kernel) ?_
      refine z_isub O dX4_innermost_28 ?_
      refine z_aald (T := 0) (by decide) O dX4_innermost_29 hQ.1 ⟨by omega, by omega⟩ (by omega) (by omega) ?_
      change zG x _ _ _ _ _ (.ref (a (t + 10 + ((G (at_ w 0)) - 1).toNat)) :: _)
      refine z_goto 34 O dX4_innermost_30 (by decide) ?_
      exact z_iretr O dX4_innermost_34 rfl (by first | exact Or.inl ⟨_, rfl⟩ | exact Or.inr ⟨_, rfl⟩) (by omega) (by omega) hpo (by rw [if_pos (by omega)]) (rfl)

theorem c_X4_isSpoiled {E : zE} (hst : E.1.stackTraces = false) {H : Heap} {r : zH} {a : Nat → Nat} {t : Nat} {w : Int} {G : Int → Int} {N : Int} (h : zWkr E H r a t w G) (hG : sW G N) (hw : 0 ≤ w ∧ w ≤ 2) : zC E yX4_isSpoiled cX4_isSpoiled 2 (some .boolean) 1 20 [.ref (a t)] H 0 0 (zRi (zb (sSp G w)) (zSm H)) zN := by
  refine zC.of (by decide) (Nat.le_of_ble_eq_true rfl) hst ?_
  intro x O hE hpo hpx
  subst hE
  change zG x H 0 0 0 [(0, .ref (a t))] []
  obtain ⟨np, f1, f2, V, hO, hQ, hLg, hRg, hPL, hPR, hWs, hRl⟩ := id h
  have hm := hG.m hw
  have hl := hG.l hw
  have h4 : 0 < G (at_ w 0) → V (G (at_ w 0) - 1) 4 = G (sIn G w 4) := fun q => (hRl.2.2.1 (G (at_ w 0) - 1) (by omega) (by omega)).2.2.2.1
  have hin := fun q : 0 < G (at_ w 0) => (hG.in hw q).2.2.2.2.1
  refine z_aload_n 0 O dX4_isSpoiled_0 rfl ?_
  by_cases hd1 : 0 < G (at_ w 0)
  · skip
    refine z_Vr [] [] kM_X4_67 O dX4_isSpoiled_1 (by have c := c_X4_innermost hst h; rw [if_pos hd1] at c; exact c) rfl rfl hO.1 (by decide) (Nat.le_of_ble_eq_true rfl) (by omega) (by omega) (Nat.le_of_ble_eq_true rfl) zNx ?_
    refine z_astore_n [(1, .ref (a (t + 10 + (G (at_ w 0) - 1).toNat))), (0, .ref (a t))] O dX4_isSpoiled_4 (by decide) rfl ?_
    refine z_aload_n 0 O dX4_isSpoiled_5 rfl ?_
    refine z_ifnull O dX4_isSpoiled_6 ?_
    refine z_aload_n 0 O dX4_isSpoiled_9 rfl ?_
    have h4a := h4 (by omega)
    have hina := hin (by omega)
    have hWo2 := hWs.at (e := (G (at_ w 0) - 1)) (by omega) (by omega)
    refine z_getf kF_X4_71 O dX4_isSpoiled_10 hWo2.1 rfl ?_
    refine z_if_eq 20 O dX4_isSpoiled_13 (by decide) ⟨by omega, by omega⟩ (fun c_13 => ?_) (fun c_13 => ?_)
    · skip
      refine z_iconst 0 O dX4_isSpoiled_20 (by decide +kernel) ?_
      exact z_iretb O dX4_isSpoiled_21 rfl (by omega) (by omega) hpo (by exact zb_f (sSp_f.mpr (by omega))) (rfl)
    · skip
      refine z_iconst 1 O dX4_isSpoiled_16 (by decide +kernel) ?_
      refine z_goto 21 O dX4_isSpoiled_17 (by decide) ?_
      exact z_iretb O dX4_isSpoiled_21 rfl (by omega) (by omega) hpo (by exact zb_t (sSp_t.mpr ⟨by omega, by omega⟩)) (rfl)
  · skip
    refine z_Vr [] [] kM_X4_67 O dX4_isSpoiled_1 (by have c := c_X4_innermost hst h; rw [if_neg hd1] at c; exact c) rfl rfl hO.1 (by decide) (Nat.le_of_ble_eq_true rfl) (by omega) (by omega) (Nat.le_of_ble_eq_true rfl) zNx ?_
    refine z_astore_nN [(1, .null), (0, .ref (a t))] O dX4_isSpoiled_4 (by decide) rfl ?_
    refine z_aload_nN 0 O dX4_isSpoiled_5 rfl ?_
    refine z_ifnullN 20 O dX4_isSpoiled_6 (by decide) ?_
    refine z_iconst 0 O dX4_isSpoiled_20 (by decide +kernel) ?_
    exact z_iretb O dX4_isSpoiled_21 rfl (by omega) (by omega) hpo (by exact zb_f (sSp_f.mpr (by omega))) (rfl)

theorem c_X4_isReady {E : zE} (hst : E.1.stackTraces = false) {H : Heap} {r : zH} {a : Nat → Nat} {t : Nat} {w : Int} {G : Int → Int} {N : Int} (h : zWkr E H r a t w G) (hG : sW G N) (hw : 0 ≤ w ∧ w ≤ 2) : zC E yX4_isReady cX4_isReady 1 (some .boolean) 2 41 [.ref (a t)] H 0 0 (zRi (zb (sOp G w)) (zSm H)) zN := by
  refine zC.of (by decide) (Nat.le_of_ble_eq_true rfl) hst ?_
  intro x O hE hpo hpx
  subst hE
  change zG x H 0 0 0 [(0, .ref (a t))] []
  obtain ⟨np, f1, f2, V, hO, hQ, hLg, hRg, hPL, hPR, hWs, hRl⟩ := id h
  have hm := hG.m hw
  have hl := hG.l hw
  refine z_aload_n 0 O dX4_isReady_0 rfl ?_
  refine z_getf kF_X4_40 O dX4_isReady_1 hO.1 rfl ?_
  refine z_if_le 18 O dX4_isReady_4 (by decide) ⟨by omega, by omega⟩ (fun c_4 => ?_) (fun c_4 => ?_)
  · skip
    refine z_iconst 0 O dX4_isReady_18 (by decide +kernel) ?_
    exact z_iretb O dX4_isReady_19 rfl (by omega) (by omega) hpo (by first | exact zb_t (sOp_t.mpr (by have := sSp_f.mp c_11; omega)) | exact zb_f (sOp_f.mpr (by omega)) | exact zb_f (sOp_f.mpr (by have := sSp_t.mp c_11; omega))) (rfl)
  · skip
    refine z_aload_n 0 O dX4_isReady_7 rfl ?_
    refine z_Vi [] [] kM_X4_75 O dX4_isReady_8 (c_X4_isSpoiled hst h hG hw) rfl rfl hO.1 (by decide) (Nat.le_of_ble_eq_true rfl) (by omega) (by omega) (Nat.le_of_ble_eq_true rfl) zNx ?_
    refine z_ifb_ne 18 O dX4_isReady_11 (by decide) (fun c_11 => ?_) (fun c_11 => ?_)
    · skip
      refine z_iconst 0 O dX4_isReady_18 (by decide +kernel) ?_
      exact z_iretb O dX4_isReady_19 rfl (by omega) (by omega) hpo (by first | exact zb_t (sOp_t.mpr (by have := sSp_f.mp c_11; omega)) | exact zb_f (sOp_f.mpr (by omega)) | exact zb_f (sOp_f.mpr (by have := sSp_t.mp c_11; omega))) (rfl)
    · skip
      refine z_iconst 1 O dX4_isReady_14 (by decide +kernel) ?_
      refine z_goto 19 O dX4_isReady_15 (by decide) ?_
      exact z_iretb O dX4_isReady_19 rfl (by omega) (by omega) hpo (by first | exact zb_t (sOp_t.mpr (by have := sSp_f.mp c_11; omega)) | exact zb_f (sOp_f.mpr (by omega)) | exact zb_f (sOp_f.mpr (by have := sSp_t.mp c_11; omega))) (rfl)

theorem c_X4_countPoints {E : zE} (hst : E.1.stackTraces = false) {H : Heap} {r : zH} {a : Nat → Nat} {t : Nat} {w : Int} {G : Int → Int} {N : Int} {i : Int} (h : zWkr E H r a t w G) (hG : sW G N) (hw : 0 ≤ w ∧ w ≤ 2) (hi : -1 ≤ i ∧ i ≤ 5) : zC E yX4_countPoints cX4_countPoints 5 (some .int) 1 21 [.ref (a t), .int (iI i)] H 0 0 (zRi (if 0 ≤ i ∧ i < G (at_ w 0) then G (wA w i 2) else 0) (zSm H)) zN := by
  refine zC.of (by decide) (Nat.le_of_ble_eq_true rfl) hst ?_
  intro x O hE hpo hpx
  subst hE
  change zG x H 0 0 0 [(0, .ref (a t)), (1, .int (iI i))] []
  obtain ⟨np, f1, f2, V, hO, hQ, hLg, hRg, hPL, hPR, hWs, hRl⟩ := id h
  have hm := hG.m hw
  have hl := hG.l hw
  refine z_aload_n 0 O dX4_countPoints_0 rfl ?_
  refine z_iload_n 1 O dX4_countPoints_1 rfl ?_
  by_cases hd1 : 0 ≤ i ∧ i < G (at_ w 0)
  · skip
    refine z_Vr [.int (iI i)] [] kM_X4_60 O dX4_countPoints_2 (by have c := c_X4_workAt hst h hG hw ⟨by omega, by omega⟩ (i := i); rw [if_pos hd1] at c; exact c) rfl rfl hO.1 (by decide) (Nat.le_of_ble_eq_true rfl) (by omega) (by omega) (Nat.le_of_ble_eq_true rfl) zNx ?_
    refine z_astore_n [(2, .ref (a (t + 10 + i.toNat))), (0, .ref (a t)), (1, .int (iI i))] O dX4_countPoints_5 (by decide) rfl ?_
    refine z_aload_n 1 O dX4_countPoints_6 rfl ?_
    refine z_iload_n 2 O dX4_countPoints_7 rfl ?_
    refine z_iconst 1 O dX4_countPoints_8 (by decide +kernel) ?_
    refine z_iadd O dX4_countPoints_9 ?_
    by_cases hd2 : 0 ≤ i + 1 ∧ i + 1 < G (at_ w 0)
    · skip
      refine z_Vr [.int (iI (i + 1))] [] kM_X4_60 O dX4_countPoints_10 (by have c := c_X4_workAt hst h hG hw ⟨by omega, by omega⟩ (i := i + 1); rw [if_pos hd2] at c; exact c) rfl rfl hO.1 (by decide) (Nat.le_of_ble_eq_true rfl) (by omega) (by omega) (Nat.le_of_ble_eq_true rfl) zNx ?_
      refine z_astore_n [(3, .ref (a (t + 10 + (i + 1).toNat))), (2, .ref (a (t + 10 + i.toNat))), (0, .ref (a t)), (1, .int (iI i))] O dX4_countPoints_13 (by decide) rfl ?_
      refine z_aload_n 0 O dX4_countPoints_14 rfl ?_
      refine z_ifnonnull 28 O dX4_countPoints_15 (by decide) ?_
      refine z_aload_n 0 O dX4_countPoints_28 rfl ?_
      have hWo3 := hWs.at (e := i + 1) (by omega) (by omega)
      refine z_getf kF_X4_82 O dX4_countPoints_29 hWo3.1 rfl ?_
      refine z_istore [(4, .int (iI (V (i + 1) 2))), (3, .ref (a (t + 10 + (i + 1).toNat))), (2, .ref (a (t + 10 + i.toNat))), (0, .ref (a t)), (1, .int (iI i))] O dX4_countPoints_32 (by decide) rfl ?_
      refine z_aload_n 2 O dX4_countPoints_34 rfl ?_
      refine z_ifnonnull 42 O dX4_countPoints_35 (by decide) ?_
      refine z_iload 0 O dX4_countPoints_42 rfl ?_
      refine z_aload_n 2 O dX4_countPoints_44 rfl ?_
      have hWo4 := hWs.at (e := i) (by omega) (by omega)
      refine z_getf kF_X4_82 O dX4_countPoints_45 hWo4.1 rfl ?_
      refine z_isub O dX4_countPoints_48 ?_
      exact z_ireti O dX4_countPoints_49 rfl (by omega) (by omega) hpo (by rw [if_pos (show 0 ≤ i ∧ i < G (at_ w 0) by omega)]; have k := (hRl.2.2.1 i (by omega) (by omega)).2.2.2.2.1; (first | rw [if_pos (by omega)] at k | rw [if_neg (by omega)] at k); omega) (rfl)
    · skip
      refine z_Vr [.int (iI (i + 1))] [] kM_X4_60 O dX4_countPoints_10 (by have c := c_X4_workAt hst h hG hw ⟨by omega, by omega⟩ (i := i + 1); rw [if_neg hd2] at c; exact c) rfl rfl hO.1 (by decide) (Nat.le_of_ble_eq_true rfl) (by omega) (by omega) (Nat.le_of_ble_eq_true rfl) zNx ?_
      refine z_astore_nN [(3, .null), (2, .ref (a (t + 10 + i.toNat))), (0, .ref (a t)), (1, .int (iI i))] O dX4_countPoints_13 (by decide) rfl ?_
      refine z_aload_nN 0 O dX4_countPoints_14 rfl ?_
      refine z_ifnonnullN O dX4_countPoints_15 ?_
      refine z_aload_n 2 O dX4_countPoints_18 rfl ?_
      refine z_getf kF_X4_29 O dX4_countPoints_19 hO.1 rfl ?_
      obtain ⟨it5, hRo6⟩ := hPL.o
      refine z_getf kF_X4_79 O dX4_countPoints_22 hRo6.1 rfl ?_
      refine z_goto 32 O dX4_countPoints_25 (by decide) ?_
      refine z_istore [(4, .int (iI np)), (3, .null), (2, .ref (a (t + 10 + i.toNat))), (0, .ref (a t)), (1, .int (iI i))] O dX4_countPoints_32 (by decide) rfl ?_
      refine z_aload_n 2 O dX4_countPoints_34 rfl ?_
      refine z_ifnonnull 42 O dX4_countPoints_35 (by decide) ?_
      refine z_iload 0 O dX4_countPoints_42 rfl ?_
      refine z_aload_n 2 O dX4_countPoints_44 rfl ?_
      have hWo7 := hWs.at (e := i) (by omega) (by omega)
      refine z_getf kF_X4_82 O dX4_countPoints_45 hWo7.1 rfl ?_
      refine z_isub O dX4_countPoints_48 ?_
      exact z_ireti O dX4_countPoints_49 rfl (by omega) (by omega) hpo (by rw [if_pos (show 0 ≤ i ∧ i < G (at_ w 0) by omega)]; have k := (hRl.2.2.1 i (by omega) (by omega)).2.2.2.2.1; (first | rw [if_pos (by omega)] at k | rw [if_neg (by omega)] at k); omega) (rfl)
  · skip
    refine z_Vr [.int (iI i)] [] kM_X4_60 O dX4_countPoints_2 (by have c := c_X4_workAt hst h hG hw ⟨by omega, by omega⟩ (i := i); rw [if_neg hd1] at c; exact c) rfl rfl hO.1 (by decide) (Nat.le_of_ble_eq_true rfl) (by omega) (by omega) (Nat.le_of_ble_eq_true rfl) zNx ?_
    refine z_astore_nN [(2, .null), (0, .ref (a t)), (1, .int (iI i))] O dX4_countPoints_5 (by decide) rfl ?_
    refine z_aload_n 1 O dX4_countPoints_6 rfl ?_
    refine z_iload_n 2 O dX4_countPoints_7 rfl ?_
    refine z_iconst 1 O dX4_countPoints_8 (by decide +kernel) ?_
    refine z_iadd O dX4_countPoints_9 ?_
    by_cases hd8 : 0 ≤ i + 1 ∧ i + 1 < G (at_ w 0)
    · skip
      refine z_Vr [.int (iI (i + 1))] [] kM_X4_60 O dX4_countPoints_10 (by have c := c_X4_workAt hst h hG hw ⟨by omega, by omega⟩ (i := i + 1); rw [if_pos hd8] at c; exact c) rfl rfl hO.1 (by decide) (Nat.le_of_ble_eq_true rfl) (by omega) (by omega) (Nat.le_of_ble_eq_true rfl) zNx ?_
      refine z_astore_n [(3, .ref (a (t + 10 + (i + 1).toNat))), (2, .null), (0, .ref (a t)), (1, .int (iI i))] O dX4_countPoints_13 (by decide) rfl ?_
      refine z_aload_n 0 O dX4_countPoints_14 rfl ?_
      refine z_ifnonnull 28 O dX4_countPoints_15 (by decide) ?_
      refine z_aload_n 0 O dX4_countPoints_28 rfl ?_
      have hWo9 := hWs.at (e := i + 1) (by omega) (by omega)
      refine z_getf kF_X4_82 O dX4_countPoints_29 hWo9.1 rfl ?_
      refine z_istore [(4, .int (iI (V (i + 1) 2))), (3, .ref (a (t + 10 + (i + 1).toNat))), (2, .null), (0, .ref (a t)), (1, .int (iI i))] O dX4_countPoints_32 (by decide) rfl ?_
      refine z_aload_nN 2 O dX4_countPoints_34 rfl ?_
      refine z_ifnonnullN O dX4_countPoints_35 ?_
      refine z_iconst 0 O dX4_countPoints_38 (by decide +kernel) ?_
      refine z_goto 49 O dX4_countPoints_39 (by decide) ?_
      exact z_ireti O dX4_countPoints_49 rfl (by omega) (by omega) hpo (by exact (if_neg (by omega)).symm) (rfl)
    · skip
      refine z_Vr [.int (iI (i + 1))] [] kM_X4_60 O dX4_countPoints_10 (by have c := c_X4_workAt hst h hG hw ⟨by omega, by omega⟩ (i := i + 1); rw [if_neg hd8] at c; exact c) rfl rfl hO.1 (by decide) (Nat.le_of_ble_eq_true rfl) (by omega) (by omega) (Nat.le_of_ble_eq_true rfl) zNx ?_
      refine z_astore_nN [(3, .null), (2, .null), (0, .ref (a t)), (1, .int (iI i))] O dX4_countPoints_13 (by decide) rfl ?_
      refine z_aload_nN 0 O dX4_countPoints_14 rfl ?_
      refine z_ifnonnullN O dX4_countPoints_15 ?_
      refine z_aload_n 2 O dX4_countPoints_18 rfl ?_
      refine z_getf kF_X4_29 O dX4_countPoints_19 hO.1 rfl ?_
      obtain ⟨it10, hRo11⟩ := hPL.o
      refine z_getf kF_X4_79 O dX4_countPoints_22 hRo11.1 rfl ?_
      refine z_goto 32 O dX4_countPoints_25 (by decide) ?_
      refine z_istore [(4, .int (iI np)), (3, .null), (2, .null), (0, .ref (a t)), (1, .int (iI i))] O dX4_countPoints_32 (by decide) rfl ?_
      refine z_aload_nN 2 O dX4_countPoints_34 rfl ?_
      refine z_ifnonnullN O dX4_countPoints_35 ?_
      refine z_iconst 0 O dX4_countPoints_38 (by decide +kernel) ?_
      refine z_goto 49 O dX4_countPoints_39 (by decide) ?_
      exact z_ireti O dX4_countPoints_49 rfl (by omega) (by omega) hpo (by exact (if_neg (by omega)).symm) (rfl)

theorem c_X4_countRegrets {E : zE} (hst : E.1.stackTraces = false) {H : Heap} {r : zH} {a : Nat → Nat} {t : Nat} {w : Int} {G : Int → Int} {N : Int} {i : Int} (h : zWkr E H r a t w G) (hG : sW G N) (hw : 0 ≤ w ∧ w ≤ 2) (hi : -1 ≤ i ∧ i ≤ 5) : zC E yX4_countRegrets cX4_countRegrets 5 (some .int) 1 21 [.ref (a t), .int (iI i)] H 0 0 (zRi (if 0 ≤ i ∧ i < G (at_ w 0) then sRg G w i else 0) (zSm H)) zN := by
  refine zC.of (by decide) (Nat.le_of_ble_eq_true rfl) hst ?_
  intro x O hE hpo hpx
  subst hE
  change zG x H 0 0 0 [(0, .ref (a t)), (1, .int (iI i))] []
  obtain ⟨np, f1, f2, V, hO, hQ, hLg, hRg, hPL, hPR, hWs, hRl⟩ := id h
  have hm := hG.m hw
  have hl := hG.l hw
  refine z_aload_n 0 O dX4_countRegrets_0 rfl ?_
  refine z_iload_n 1 O dX4_countRegrets_1 rfl ?_
  by_cases hd1 : 0 ≤ i ∧ i < G (at_ w 0)
  · skip
    refine z_Vr [.int (iI i)] [] kM_X4_60 O dX4_countRegrets_2 (by have c := c_X4_workAt hst h hG hw ⟨by omega, by omega⟩ (i := i); rw [if_pos hd1] at c; exact c) rfl rfl hO.1 (by decide) (Nat.le_of_ble_eq_true rfl) (by omega) (by omega) (Nat.le_of_ble_eq_true rfl) zNx ?_
    refine z_astore_n [(2, .ref (a (t + 10 + i.toNat))), (0, .ref (a t)), (1, .int (iI i))] O dX4_countRegrets_5 (by decide) rfl ?_
    refine z_aload_n 1 O dX4_countRegrets_6 rfl ?_
    refine z_iload_n 2 O dX4_countRegrets_7 rfl ?_
    refine z_iconst 1 O dX4_countRegrets_8 (by decide +kernel) ?_
    refine z_iadd O dX4_countRegrets_9 ?_
    by_cases hd2 : 0 ≤ i + 1 ∧ i + 1 < G (at_ w 0)
    · skip
      refine z_Vr [.int (iI (i + 1))] [] kM_X4_60 O dX4_countRegrets_10 (by have c := c_X4_workAt hst h hG hw ⟨by omega, by omega⟩ (i := i + 1); rw [if_pos hd2] at c; exact c) rfl rfl hO.1 (by decide) (Nat.le_of_ble_eq_true rfl) (by omega) (by omega) (Nat.le_of_ble_eq_true rfl) zNx ?_
      refine z_astore_n [(3, .ref (a (t + 10 + (i + 1).toNat))), (2, .ref (a (t + 10 + i.toNat))), (0, .ref (a t)), (1, .int (iI i))] O dX4_countRegrets_13 (by decide) rfl ?_
      refine z_aload_n 0 O dX4_countRegrets_14 rfl ?_
      refine z_ifnonnull 28 O dX4_countRegrets_15 (by decide) ?_
      refine z_aload_n 0 O dX4_countRegrets_28 rfl ?_
      have hWo3 := hWs.at (e := i + 1) (by omega) (by omega)
      refine z_getf kF_X4_85 O dX4_countRegrets_29 hWo3.1 rfl ?_
      refine z_istore [(4, .int (iI (V (i + 1) 1))), (3, .ref (a (t + 10 + (i + 1).toNat))), (2, .ref (a (t + 10 + i.toNat))), (0, .ref (a t)), (1, .int (iI i))] O dX4_countRegrets_32 (by decide) rfl ?_
      refine z_aload_n 2 O dX4_countRegrets_34 rfl ?_
      refine z_ifnonnull 42 O dX4_countRegrets_35 (by decide) ?_
      refine z_iload 0 O dX4_countRegrets_42 rfl ?_
      refine z_aload_n 2 O dX4_countRegrets_44 rfl ?_
      have hWo4 := hWs.at (e := i) (by omega) (by omega)
      refine z_getf kF_X4_85 O dX4_countRegrets_45 hWo4.1 rfl ?_
      refine z_isub O dX4_countRegrets_48 ?_
      exact z_ireti O dX4_countRegrets_49 rfl (by omega) (by omega) hpo (by rw [if_pos (show 0 ≤ i ∧ i < G (at_ w 0) by omega)]; have k := (hRl.2.2.1 i (by omega) (by omega)).2.1; unfold sRg; first | (rw [if_pos (by omega), k, (hRl.2.2.1 (i + 1) (by omega) (by omega)).2.1]) | (rw [if_neg (by omega), k])) (rfl)
    · skip
      refine z_Vr [.int (iI (i + 1))] [] kM_X4_60 O dX4_countRegrets_10 (by have c := c_X4_workAt hst h hG hw ⟨by omega, by omega⟩ (i := i + 1); rw [if_neg hd2] at c; exact c) rfl rfl hO.1 (by decide) (Nat.le_of_ble_eq_true rfl) (by omega) (by omega) (Nat.le_of_ble_eq_true rfl) zNx ?_
      refine z_astore_nN [(3, .null), (2, .ref (a (t + 10 + i.toNat))), (0, .ref (a t)), (1, .int (iI i))] O dX4_countRegrets_13 (by decide) rfl ?_
      refine z_aload_nN 0 O dX4_countRegrets_14 rfl ?_
      refine z_ifnonnullN O dX4_countRegrets_15 ?_
      refine z_aload_n 2 O dX4_countRegrets_18 rfl ?_
      refine z_getf kF_X4_26 O dX4_countRegrets_19 hO.1 rfl ?_
      obtain ⟨it5, hRo6⟩ := hRg.o
      refine z_getf kF_X4_79 O dX4_countRegrets_22 hRo6.1 rfl ?_
      refine z_goto 32 O dX4_countRegrets_25 (by decide) ?_
      refine z_istore [(4, .int (iI (G (at_ w 2)))), (3, .null), (2, .ref (a (t + 10 + i.toNat))), (0, .ref (a t)), (1, .int (iI i))] O dX4_countRegrets_32 (by decide) rfl ?_
      refine z_aload_n 2 O dX4_countRegrets_34 rfl ?_
      refine z_ifnonnull 42 O dX4_countRegrets_35 (by decide) ?_
      refine z_iload 0 O dX4_countRegrets_42 rfl ?_
      refine z_aload_n 2 O dX4_countRegrets_44 rfl ?_
      have hWo7 := hWs.at (e := i) (by omega) (by omega)
      refine z_getf kF_X4_85 O dX4_countRegrets_45 hWo7.1 rfl ?_
      refine z_isub O dX4_countRegrets_48 ?_
      exact z_ireti O dX4_countRegrets_49 rfl (by omega) (by omega) hpo (by rw [if_pos (show 0 ≤ i ∧ i < G (at_ w 0) by omega)]; have k := (hRl.2.2.1 i (by omega) (by omega)).2.1; unfold sRg; first | (rw [if_pos (by omega), k, (hRl.2.2.1 (i + 1) (by omega) (by omega)).2.1]) | (rw [if_neg (by omega), k])) (rfl)
  · skip
    refine z_Vr [.int (iI i)] [] kM_X4_60 O dX4_countRegrets_2 (by have c := c_X4_workAt hst h hG hw ⟨by omega, by omega⟩ (i := i); rw [if_neg hd1] at c; exact c) rfl rfl hO.1 (by decide) (Nat.le_of_ble_eq_true rfl) (by omega) (by omega) (Nat.le_of_ble_eq_true rfl) zNx ?_
    refine z_astore_nN [(2, .null), (0, .ref (a t)), (1, .int (iI i))] O dX4_countRegrets_5 (by decide) rfl ?_
    refine z_aload_n 1 O dX4_countRegrets_6 rfl ?_
    refine z_iload_n 2 O dX4_countRegrets_7 rfl ?_
    refine z_iconst 1 O dX4_countRegrets_8 (by decide +kernel) ?_
    refine z_iadd O dX4_countRegrets_9 ?_
    by_cases hd8 : 0 ≤ i + 1 ∧ i + 1 < G (at_ w 0)
    · skip
      refine z_Vr [.int (iI (i + 1))] [] kM_X4_60 O dX4_countRegrets_10 (by have c := c_X4_workAt hst h hG hw ⟨by omega, by omega⟩ (i := i + 1); rw [if_pos hd8] at c; exact c) rfl rfl hO.1 (by decide) (Nat.le_of_ble_eq_true rfl) (by omega) (by omega) (Nat.le_of_ble_eq_true rfl) zNx ?_
      refine z_astore_n [(3, .ref (a (t + 10 + (i + 1).toNat))), (2, .null), (0, .ref (a t)), (1, .int (iI i))] O dX4_countRegrets_13 (by decide) rfl ?_
      refine z_aload_n 0 O dX4_countRegrets_14 rfl ?_
      refine z_ifnonnull 28 O dX4_countRegrets_15 (by decide) ?_
      refine z_aload_n 0 O dX4_countRegrets_28 rfl ?_
      have hWo9 := hWs.at (e := i + 1) (by omega) (by omega)
      refine z_getf kF_X4_85 O dX4_countRegrets_29 hWo9.1 rfl ?_
      refine z_istore [(4, .int (iI (V (i + 1) 1))), (3, .ref (a (t + 10 + (i + 1).toNat))), (2, .null), (0, .ref (a t)), (1, .int (iI i))] O dX4_countRegrets_32 (by decide) rfl ?_
      refine z_aload_nN 2 O dX4_countRegrets_34 rfl ?_
      refine z_ifnonnullN O dX4_countRegrets_35 ?_
      refine z_iconst 0 O dX4_countRegrets_38 (by decide +kernel) ?_
      refine z_goto 49 O dX4_countRegrets_39 (by decide) ?_
      exact z_ireti O dX4_countRegrets_49 rfl (by omega) (by omega) hpo (by exact (if_neg (by omega)).symm) (rfl)
    · skip
      refine z_Vr [.int (iI (i + 1))] [] kM_X4_60 O dX4_countRegrets_10 (by have c := c_X4_workAt hst h hG hw ⟨by omega, by omega⟩ (i := i + 1); rw [if_neg hd8] at c; exact c) rfl rfl hO.1 (by decide) (Nat.le_of_ble_eq_true rfl) (by omega) (by omega) (Nat.le_of_ble_eq_true rfl) zNx ?_
      refine z_astore_nN [(3, .null), (2, .null), (0, .ref (a t)), (1, .int (iI i))] O dX4_countRegrets_13 (by decide) rfl ?_
      refine z_aload_nN 0 O dX4_countRegrets_14 rfl ?_
      refine z_ifnonnullN O dX4_countRegrets_15 ?_
      refine z_aload_n 2 O dX4_countRegrets_18 rfl ?_
      refine z_getf kF_X4_26 O dX4_countRegrets_19 hO.1 rfl ?_
      obtain ⟨it10, hRo11⟩ := hRg.o
      refine z_getf kF_X4_79 O dX4_countRegrets_22 hRo11.1 rfl ?_
      refine z_goto 32 O dX4_countRegrets_25 (by decide) ?_
      refine z_istore [(4, .int (iI (G (at_ w 2)))), (3, .null), (2, .null), (0, .ref (a t)), (1, .int (iI i))] O dX4_countRegrets_32 (by decide) rfl ?_
      refine z_aload_nN 2 O dX4_countRegrets_34 rfl ?_
      refine z_ifnonnullN O dX4_countRegrets_35 ?_
      refine z_iconst 0 O dX4_countRegrets_38 (by decide +kernel) ?_
      refine z_goto 49 O dX4_countRegrets_39 (by decide) ?_
      exact z_ireti O dX4_countRegrets_49 rfl (by omega) (by omega) hpo (by exact (if_neg (by omega)).symm) (rfl)

theorem c_X4_hasPoint {E : zE} (hst : E.1.stackTraces = false) {H : Heap} {r : zH} {a : Nat → Nat} {t : Nat} {w : Int} {G : Int → Int} {N : Int} {i : Int} (h : zWkr E H r a t w G) (hG : sW G N) (hw : 0 ≤ w ∧ w ≤ 2) (hi : zR i) : zC E yX4_hasPoint cX4_hasPoint 2 (some .boolean) 2 45 [.ref (a t), .int (iI i)] H 0 0 (zRi (zb (sHp G w i)) (zSm H)) zN := by
  refine zC.of (by decide) (Nat.le_of_ble_eq_true rfl) hst ?_
  intro x O hE hpo hpx
  subst hE
  change zG x H 0 0 0 [(0, .ref (a t)), (1, .int (iI i))] []
  obtain ⟨np, f1, f2, V, hO, hQ, hLg, hRg, hPL, hPR, hWs, hRl⟩ := id h
  have hm := hG.m hw
  have hl := hG.l hw
  have hsi : G (sIn G w 2) = G (wA w (G (at_ w 0) - 1) 2) := rfl
  have hin := fun q : 0 < G (at_ w 0) => (hG.in hw q).2.2.1
  refine z_iload_n 1 O dX4_hasPoint_0 rfl ?_
  refine z_if_lt 22 O dX4_hasPoint_1 (by decide) ⟨by omega, by omega⟩ (fun c_1 => ?_) (fun c_1 => ?_)
  · skip
    refine z_iconst 0 O dX4_hasPoint_22 (by decide +kernel) ?_
    exact z_iretb O dX4_hasPoint_23 rfl (by omega) (by omega) hpo (by first | exact zb_t (sHp_t.mpr ⟨by omega, by omega, by omega⟩) | exact zb_f (sHp_f.mpr (by omega))) (rfl)
  · skip
    refine z_iload_n 1 O dX4_hasPoint_4 rfl ?_
    refine z_aload_n 0 O dX4_hasPoint_5 rfl ?_
    refine z_aload_n 0 O dX4_hasPoint_6 rfl ?_
    refine z_getf kF_X4_40 O dX4_hasPoint_7 hO.1 rfl ?_
    refine z_iconst 1 O dX4_hasPoint_10 (by decide +kernel) ?_
    refine z_isub O dX4_hasPoint_11 ?_
    by_cases hd1 : 0 ≤ (G (at_ w 0)) - 1 ∧ (G (at_ w 0)) - 1 < G (at_ w 0)
    · skip
      refine z_Vi [.int (iI ((G (at_ w 0)) - 1))] [.int (iI i)] kM_X4_88 O dX4_hasPoint_12 (by have c := c_X4_countPoints hst h hG hw (i := (G (at_ w 0)) - 1) (by omega); rw [if_pos hd1] at c; exact c) rfl rfl hO.1 (by decide) (Nat.le_of_ble_eq_true rfl) (by omega) (by omega) (Nat.le_of_ble_eq_true rfl) zNx ?_
      have hina := hin (by omega)
      refine z_icmp_ge 22 O dX4_hasPoint_15 (by decide) ⟨by omega, by omega⟩ ⟨by omega, by omega⟩ (fun c_15 => ?_) (fun c_15 => ?_)
      · skip
        refine z_iconst 0 O dX4_hasPoint_22 (by decide +kernel) ?_
        exact z_iretb O dX4_hasPoint_23 rfl (by omega) (by omega) hpo (by first | exact zb_t (sHp_t.mpr ⟨by omega, by omega, by omega⟩) | exact zb_f (sHp_f.mpr (by omega))) (rfl)
      · skip
        refine z_iconst 1 O dX4_hasPoint_18 (by decide +kernel) ?_
        refine z_goto 23 O dX4_hasPoint_19 (by decide) ?_
        exact z_iretb O dX4_hasPoint_23 rfl (by omega) (by omega) hpo (by first | exact zb_t (sHp_t.mpr ⟨by omega, by omega, by omega⟩) | exact zb_f (sHp_f.mpr (by omega))) (rfl)
    · skip
      refine z_Vi [.int (iI ((G (at_ w 0)) - 1))] [.int (iI i)] kM_X4_88 O dX4_hasPoint_12 (by have c := c_X4_countPoints hst h hG hw (i := (G (at_ w 0)) - 1) (by omega); rw [if_neg hd1] at c; exact c) rfl rfl hO.1 (by decide) (Nat.le_of_ble_eq_true rfl) (by omega) (by omega) (Nat.le_of_ble_eq_true rfl) zNx ?_
      refine z_icmp_ge 22 O dX4_hasPoint_15 (by decide) ⟨by omega, by omega⟩ ⟨by omega, by omega⟩ (fun c_15 => ?_) (fun c_15 => ?_)
      · skip
        refine z_iconst 0 O dX4_hasPoint_22 (by decide +kernel) ?_
        exact z_iretb O dX4_hasPoint_23 rfl (by omega) (by omega) hpo (by first | exact zb_t (sHp_t.mpr ⟨by omega, by omega, by omega⟩) | exact zb_f (sHp_f.mpr (by omega))) (rfl)
      · exfalso; omega

theorem c_X4_cutPoints {E : zE} (hst : E.1.stackTraces = false) {H : Heap} {r : zH} {a : Nat → Nat} {t : Nat} {u0 u1 u2 u3 u6 u7 u8 : Value} {np : Int} {f1 f2 : Int → Int} {l : Int} (hO : zO E H r t (a t) 4 [u0, u1, u2, u3, .ref (a (t + 6)), .ref (a (t + 8)), u6, u7, u8]) (hPL : zRow E H r (t + 6) (a (t + 6)) 20 np f1) (hPR : zRow E H r (t + 8) (a (t + 8)) 20 np f2) (hz : zR l) : zC E yX4_cutPoints cX4_cutPoints 2 none 1 21 [.ref (a t), .int (iI l)] H 0 0 (zRv (fun H1 => zFr H r H1 r (fun s => s = t + 6 ∨ s = t + 8) ∧ zRow E H1 r (t + 6) (a (t + 6)) 20 (zRc np l) f1 ∧ zRow E H1 r (t + 8) (a (t + 8)) 20 (zRc np l) f2)) zN := by
  refine zC.of (by decide) (Nat.le_of_ble_eq_true rfl) hst ?_
  intro x O hE hpo hpx
  subst hE
  change zG x H 0 0 0 [(0, .ref (a t)), (1, .int (iI l))] []
  refine z_aload_n 0 O dX4_cutPoints_0 rfl ?_
  refine z_getf kF_X4_29 O dX4_cutPoints_1 hO.1 rfl ?_
  refine z_iload_n 1 O dX4_cutPoints_4 rfl ?_
  obtain ⟨it1, hRo2⟩ := hPL.o
  refine z_Vvm [.int (iI l)] [] kM_X4_43 O dX4_cutPoints_5 (c_X1_cutTo hst hPL ⟨by omega, by omega⟩) rfl rfl hRo2.1 (by decide) (Nat.le_of_ble_eq_true rfl) (by omega) (by omega) (Nat.le_of_ble_eq_true rfl) zNx (fun H3 hp4 hz5 => ?_)
  obtain ⟨hf6, hr7⟩ := hp4
  have hO8 := hO.fr hf6 (by first | exact (fun h => h) | exact zT1 (by omega) | (show ¬ (_ ∨ _); omega) | (show ¬ (_ ∧ _); omega))
  have hPR9 := hPR.fr hf6 (by first | exact (fun h => h) | exact zT1 (by omega) | (show ¬ (_ ∨ _); omega) | (show ¬ (_ ∧ _); omega)) (by first | exact (fun h => h) | exact zT1 (by omega) | (show ¬ (_ ∨ _); omega) | (show ¬ (_ ∧ _); omega))
  refine z_aload_n 0 O dX4_cutPoints_8 rfl ?_
  refine z_getf kF_X4_32 O dX4_cutPoints_9 hO8.1 rfl ?_
  refine z_iload_n 1 O dX4_cutPoints_12 rfl ?_
  obtain ⟨it10, hRo11⟩ := hPR9.o
  refine z_Vvm [.int (iI l)] [] kM_X4_43 O dX4_cutPoints_13 (c_X1_cutTo hst hPR9 ⟨by omega, by omega⟩) rfl rfl hRo11.1 (by decide) (Nat.le_of_ble_eq_true rfl) (by omega) (by omega) (Nat.le_of_ble_eq_true rfl) zNx (fun H12 hp13 hz14 => ?_)
  obtain ⟨hf15, hr16⟩ := hp13
  have hO17 := hO8.fr hf15 (by first | exact (fun h => h) | exact zT1 (by omega) | (show ¬ (_ ∨ _); omega) | (show ¬ (_ ∧ _); omega))
  have hr18 := hr7.fr hf15 (by first | exact (fun h => h) | exact zT1 (by omega) | (show ¬ (_ ∨ _); omega) | (show ¬ (_ ∧ _); omega)) (by first | exact (fun h => h) | exact zT1 (by omega) | (show ¬ (_ ∨ _); omega) | (show ¬ (_ ∧ _); omega))
  exact z_iretv O dX4_cutPoints_16 rfl (by omega) (by omega) hpo (⟨(((hf6.up (fun s h => by first | exact h.elim | omega | (simp at h ⊢; omega)))).tr (hf15.up (fun s h => by first | exact h.elim | omega | (simp at h ⊢; omega)))), hr18, hr16⟩)

theorem c_X4_startWork {E : zE} (hst : E.1.stackTraces = false) {H : Heap} {r : zH} {a : Nat → Nat} {t : Nat} {w : Int} {G : Int → Int} {N : Int} (h : zWkr E H r a t w G) (hG : sW G N) (hw : 0 ≤ w ∧ w ≤ 2) (hd : G (at_ w 0) < 5) : zC E yX4_startWork cX4_startWork 2 (some .int) 0 0 [.ref (a t)] H 0 0 (zRi (G (at_ w 0) + 1) (fun H1 => zFr H r H1 r (fun s => t ≤ s ∧ s < t + 16) ∧ zWkr E H1 r a t w (sBegin G w))) zN := by
  refine zC.of (by decide) (Nat.le_of_ble_eq_true rfl) hst ?_
  intro x O hE hpo hpx
  subst hE
  change zG x H 0 0 0 [(0, .ref (a t))] []
  obtain ⟨np, f1, f2, V, hO, hQ, hLg, hRg, hPL, hPR, hWs, hRl⟩ := id h
  have hm := hG.m hw
  have hl := hG.l hw
  obtain ⟨b0, b1, b2, b3, b4, bk, bi, c0, c1, ck⟩ := sBegin_at (G := G) hw.1 ⟨hm.1, hd⟩
  refine z_aload_n 0 O dX4_startWork_0 rfl ?_
  refine z_getf kF_X4_40 O dX4_startWork_1 hO.1 rfl ?_
  refine z_if_lt 86 O dX4_startWork_4 (by decide) ⟨by omega, by omega⟩ (fun c_4 => ?_) (fun c_4 => ?_)
  · exfalso; omega
  · skip
    refine z_aload_n 0 O dX4_startWork_7 rfl ?_
    refine z_getf kF_X4_40 O dX4_startWork_8 hO.1 rfl ?_
    refine z_aload_n 0 O dX4_startWork_11 rfl ?_
    refine z_getf kF_X4_11 O dX4_startWork_12 hO.1 rfl ?_
    refine z_alenR (by decide) O dX4_startWork_15 hQ.1 ?_
    refine z_icmp_ge 86 O dX4_startWork_16 (by decide) ⟨by omega, by omega⟩ ⟨by omega, by omega⟩ (fun c_16 => ?_) (fun c_16 => ?_)
    · exfalso; omega
    · skip
      refine z_aload_n 0 O dX4_startWork_19 rfl ?_
      refine z_getf kF_X4_11 O dX4_startWork_20 hO.1 rfl ?_
      refine z_aload_n 0 O dX4_startWork_23 rfl ?_
      refine z_getf kF_X4_40 O dX4_startWork_24 hO.1 rfl ?_
      refine z_aald (T := 0) (by decide) O dX4_startWork_27 hQ.1 ⟨by omega, by omega⟩ (by omega) (by omega) ?_
      change zG x _ _ _ _ _ (.ref (a (t + 10 + (G (at_ w 0)).toNat)) :: _)
      refine z_astore_n [(1, .ref (a (t + 10 + (G (at_ w 0)).toNat))), (0, .ref (a t))] O dX4_startWork_28 (by decide) rfl ?_
      refine z_aload_n 0 O dX4_startWork_29 rfl ?_
      refine z_ifnull O dX4_startWork_30 ?_
      have hWo1 := hWs.at (e := G (at_ w 0)) (by omega) (by omega)
      refine z_aload_n 0 O dX4_startWork_33 rfl ?_
      refine z_aload_n 1 O dX4_startWork_34 rfl ?_
      refine z_getf kF_X4_22 O dX4_startWork_35 hO.1 rfl ?_
      obtain ⟨it2, hRo3⟩ := hLg.o
      refine z_getf kF_X4_79 O dX4_startWork_38 hRo3.1 rfl ?_
      refine z_putf kP_X4_92 O (fun h => nomatch h) dX4_startWork_41 hWo1.1 rfl rfl (Nat.le_of_ble_eq_true rfl) (fun H4 hO5 hC6 => ?_)
      have hf7 := hWo1.ch hC6
      have ho8 : zO (zEn x) H4 r (t + 10 + (G (at_ w 0)).toNat) (a (t + 10 + (G (at_ w 0)).toNat)) 3 [.int (iI (G (at_ w 1))), .int (iI (V (G (at_ w 0)) 1)), .int (iI (V (G (at_ w 0)) 2)), .int (iI (V (G (at_ w 0)) 3)), .int (iI (V (G (at_ w 0)) 4))] := ⟨hO5, hWo1.2⟩
      have hO9 := hO.fr hf7 (by first | exact (fun h => h) | exact zT1 (by omega) | (show ¬ (_ ∨ _); omega) | (show ¬ (_ ∧ _); omega))
      have hQ10 := hQ.fr hf7 (by first | exact (fun h => h) | exact zT1 (by omega) | (show ¬ (_ ∨ _); omega) | (show ¬ (_ ∧ _); omega))
      have hLg11 := hLg.fr hf7 (by first | exact (fun h => h) | exact zT1 (by omega) | (show ¬ (_ ∨ _); omega) | (show ¬ (_ ∧ _); omega)) (by first | exact (fun h => h) | exact zT1 (by omega) | (show ¬ (_ ∨ _); omega) | (show ¬ (_ ∧ _); omega))
      have hRg12 := hRg.fr hf7 (by first | exact (fun h => h) | exact zT1 (by omega) | (show ¬ (_ ∨ _); omega) | (show ¬ (_ ∧ _); omega)) (by first | exact (fun h => h) | exact zT1 (by omega) | (show ¬ (_ ∨ _); omega) | (show ¬ (_ ∧ _); omega))
      have hPL13 := hPL.fr hf7 (by first | exact (fun h => h) | exact zT1 (by omega) | (show ¬ (_ ∨ _); omega) | (show ¬ (_ ∧ _); omega)) (by first | exact (fun h => h) | exact zT1 (by omega) | (show ¬ (_ ∨ _); omega) | (show ¬ (_ ∧ _); omega))
      have hPR14 := hPR.fr hf7 (by first | exact (fun h => h) | exact zT1 (by omega) | (show ¬ (_ ∨ _); omega) | (show ¬ (_ ∧ _); omega)) (by first | exact (fun h => h) | exact zT1 (by omega) | (show ¬ (_ ∨ _); omega) | (show ¬ (_ ∧ _); omega))
      refine z_aload_n 0 O dX4_startWork_44 rfl ?_
      refine z_aload_n 1 O dX4_startWork_45 rfl ?_
      refine z_getf kF_X4_26 O dX4_startWork_46 hO9.1 rfl ?_
      obtain ⟨it15, hRo16⟩ := hRg12.o
      refine z_getf kF_X4_79 O dX4_startWork_49 hRo16.1 rfl ?_
      refine z_putf kP_X4_85 O (fun h => nomatch h) dX4_startWork_52 ho8.1 rfl rfl (Nat.le_of_ble_eq_true rfl) (fun H17 hO18 hC19 => ?_)
      have hf20 := ho8.ch hC19
      have ho21 : zO (zEn x) H17 r (t + 10 + (G (at_ w 0)).toNat) (a (t + 10 + (G (at_ w 0)).toNat)) 3 [.int (iI (G (at_ w 1))), .int (iI (G (at_ w 2))), .int (iI (V (G (at_ w 0)) 2)), .int (iI (V (G (at_ w 0)) 3)), .int (iI (V (G (at_ w 0)) 4))] := ⟨hO18, ho8.2⟩
      have hO22 := hO9.fr hf20 (by first | exact (fun h => h) | exact zT1 (by omega) | (show ¬ (_ ∨ _); omega) | (show ¬ (_ ∧ _); omega))
      have hQ23 := hQ10.fr hf20 (by first | exact (fun h => h) | exact zT1 (by omega) | (show ¬ (_ ∨ _); omega) | (show ¬ (_ ∧ _); omega))
      have hLg24 := hLg11.fr hf20 (by first | exact (fun h => h) | exact zT1 (by omega) | (show ¬ (_ ∨ _); omega) | (show ¬ (_ ∧ _); omega)) (by first | exact (fun h => h) | exact zT1 (by omega) | (show ¬ (_ ∨ _); omega) | (show ¬ (_ ∧ _); omega))
      have hRg25 := hRg12.fr hf20 (by first | exact (fun h => h) | exact zT1 (by omega) | (show ¬ (_ ∨ _); omega) | (show ¬ (_ ∧ _); omega)) (by first | exact (fun h => h) | exact zT1 (by omega) | (show ¬ (_ ∨ _); omega) | (show ¬ (_ ∧ _); omega))
      have hPL26 := hPL13.fr hf20 (by first | exact (fun h => h) | exact zT1 (by omega) | (show ¬ (_ ∨ _); omega) | (show ¬ (_ ∧ _); omega)) (by first | exact (fun h => h) | exact zT1 (by omega) | (show ¬ (_ ∨ _); omega) | (show ¬ (_ ∧ _); omega))
      have hPR27 := hPR14.fr hf20 (by first | exact (fun h => h) | exact zT1 (by omega) | (show ¬ (_ ∨ _); omega) | (show ¬ (_ ∧ _); omega)) (by first | exact (fun h => h) | exact zT1 (by omega) | (show ¬ (_ ∨ _); omega) | (show ¬ (_ ∧ _); omega))
      refine z_aload_n 0 O dX4_startWork_55 rfl ?_
      refine z_aload_n 1 O dX4_startWork_56 rfl ?_
      refine z_getf kF_X4_29 O dX4_startWork_57 hO22.1 rfl ?_
      obtain ⟨it28, hRo29⟩ := hPL26.o
      refine z_getf kF_X4_79 O dX4_startWork_60 hRo29.1 rfl ?_
      refine z_putf kP_X4_82 O (fun h => nomatch h) dX4_startWork_63 ho21.1 rfl rfl (Nat.le_of_ble_eq_true rfl) (fun H30 hO31 hC32 => ?_)
      have hf33 := ho21.ch hC32
      have ho34 : zO (zEn x) H30 r (t + 10 + (G (at_ w 0)).toNat) (a (t + 10 + (G (at_ w 0)).toNat)) 3 [.int (iI (G (at_ w 1))), .int (iI (G (at_ w 2))), .int (iI np), .int (iI (V (G (at_ w 0)) 3)), .int (iI (V (G (at_ w 0)) 4))] := ⟨hO31, ho21.2⟩
      have hO35 := hO22.fr hf33 (by first | exact (fun h => h) | exact zT1 (by omega) | (show ¬ (_ ∨ _); omega) | (show ¬ (_ ∧ _); omega))
      have hQ36 := hQ23.fr hf33 (by first | exact (fun h => h) | exact zT1 (by omega) | (show ¬ (_ ∨ _); omega) | (show ¬ (_ ∧ _); omega))
      have hLg37 := hLg24.fr hf33 (by first | exact (fun h => h) | exact zT1 (by omega) | (show ¬ (_ ∨ _); omega) | (show ¬ (_ ∧ _); omega)) (by first | exact (fun h => h) | exact zT1 (by omega) | (show ¬ (_ ∨ _); omega) | (show ¬ (_ ∧ _); omega))
      have hRg38 := hRg25.fr hf33 (by first | exact (fun h => h) | exact zT1 (by omega) | (show ¬ (_ ∨ _); omega) | (show ¬ (_ ∧ _); omega)) (by first | exact (fun h => h) | exact zT1 (by omega) | (show ¬ (_ ∨ _); omega) | (show ¬ (_ ∧ _); omega))
      have hPL39 := hPL26.fr hf33 (by first | exact (fun h => h) | exact zT1 (by omega) | (show ¬ (_ ∨ _); omega) | (show ¬ (_ ∧ _); omega)) (by first | exact (fun h => h) | exact zT1 (by omega) | (show ¬ (_ ∨ _); omega) | (show ¬ (_ ∧ _); omega))
      have hPR40 := hPR27.fr hf33 (by first | exact (fun h => h) | exact zT1 (by omega) | (show ¬ (_ ∨ _); omega) | (show ¬ (_ ∧ _); omega)) (by first | exact (fun h => h) | exact zT1 (by omega) | (show ¬ (_ ∨ _); omega) | (show ¬ (_ ∧ _); omega))
      refine z_aload_n 0 O dX4_startWork_66 rfl ?_
      refine z_iconst 0 O dX4_startWork_67 (by decide +kernel) ?_
      refine z_putf kP_X4_95 O (fun h => nomatch h) dX4_startWork_68 ho34.1 rfl rfl (Nat.le_of_ble_eq_true rfl) (fun H41 hO42 hC43 => ?_)
      have hf44 := ho34.ch hC43
      have ho45 : zO (zEn x) H41 r (t + 10 + (G (at_ w 0)).toNat) (a (t + 10 + (G (at_ w 0)).toNat)) 3 [.int (iI (G (at_ w 1))), .int (iI (G (at_ w 2))), .int (iI np), .int (iI 0), .int (iI (V (G (at_ w 0)) 4))] := ⟨hO42, ho34.2⟩
      have hO46 := hO35.fr hf44 (by first | exact (fun h => h) | exact zT1 (by omega) | (show ¬ (_ ∨ _); omega) | (show ¬ (_ ∧ _); omega))
      have hQ47 := hQ36.fr hf44 (by first | exact (fun h => h) | exact zT1 (by omega) | (show ¬ (_ ∨ _); omega) | (show ¬ (_ ∧ _); omega))
      have hLg48 := hLg37.fr hf44 (by first | exact (fun h => h) | exact zT1 (by omega) | (show ¬ (_ ∨ _); omega) | (show ¬ (_ ∧ _); omega)) (by first | exact (fun h => h) | exact zT1 (by omega) | (show ¬ (_ ∨ _); omega) | (show ¬ (_ ∧ _); omega))
      have hRg49 := hRg38.fr hf44 (by first | exact (fun h => h) | exact zT1 (by omega) | (show ¬ (_ ∨ _); omega) | (show ¬ (_ ∧ _); omega)) (by first | exact (fun h => h) | exact zT1 (by omega) | (show ¬ (_ ∨ _); omega) | (show ¬ (_ ∧ _); omega))
      have hPL50 := hPL39.fr hf44 (by first | exact (fun h => h) | exact zT1 (by omega) | (show ¬ (_ ∨ _); omega) | (show ¬ (_ ∧ _); omega)) (by first | exact (fun h => h) | exact zT1 (by omega) | (show ¬ (_ ∨ _); omega) | (show ¬ (_ ∧ _); omega))
      have hPR51 := hPR40.fr hf44 (by first | exact (fun h => h) | exact zT1 (by omega) | (show ¬ (_ ∨ _); omega) | (show ¬ (_ ∧ _); omega)) (by first | exact (fun h => h) | exact zT1 (by omega) | (show ¬ (_ ∨ _); omega) | (show ¬ (_ ∧ _); omega))
      refine z_aload_n 0 O dX4_startWork_71 rfl ?_
      refine z_iconst 0 O dX4_startWork_72 (by decide +kernel) ?_
      refine z_putf kP_X4_71 O (fun h => nomatch h) dX4_startWork_73 ho45.1 (by decide +kernel) rfl (Nat.le_of_ble_eq_true rfl) (fun H52 hO53 hC54 => ?_)
      have hf55 := ho45.ch hC54
      have ho56 : zO (zEn x) H52 r (t + 10 + (G (at_ w 0)).toNat) (a (t + 10 + (G (at_ w 0)).toNat)) 3 [.int (iI (G (at_ w 1))), .int (iI (G (at_ w 2))), .int (iI np), .int (iI 0), .int (iI 0)] := ⟨hO53, ho45.2⟩
      have hO57 := hO46.fr hf55 (by first | exact (fun h => h) | exact zT1 (by omega) | (show ¬ (_ ∨ _); omega) | (show ¬ (_ ∧ _); omega))
      have hQ58 := hQ47.fr hf55 (by first | exact (fun h => h) | exact zT1 (by omega) | (show ¬ (_ ∨ _); omega) | (show ¬ (_ ∧ _); omega))
      have hLg59 := hLg48.fr hf55 (by first | exact (fun h => h) | exact zT1 (by omega) | (show ¬ (_ ∨ _); omega) | (show ¬ (_ ∧ _); omega)) (by first | exact (fun h => h) | exact zT1 (by omega) | (show ¬ (_ ∨ _); omega) | (show ¬ (_ ∧ _); omega))
      have hRg60 := hRg49.fr hf55 (by first | exact (fun h => h) | exact zT1 (by omega) | (show ¬ (_ ∨ _); omega) | (show ¬ (_ ∧ _); omega)) (by first | exact (fun h => h) | exact zT1 (by omega) | (show ¬ (_ ∨ _); omega) | (show ¬ (_ ∧ _); omega))
      have hPL61 := hPL50.fr hf55 (by first | exact (fun h => h) | exact zT1 (by omega) | (show ¬ (_ ∨ _); omega) | (show ¬ (_ ∧ _); omega)) (by first | exact (fun h => h) | exact zT1 (by omega) | (show ¬ (_ ∨ _); omega) | (show ¬ (_ ∧ _); omega))
      have hPR62 := hPR51.fr hf55 (by first | exact (fun h => h) | exact zT1 (by omega) | (show ¬ (_ ∨ _); omega) | (show ¬ (_ ∧ _); omega)) (by first | exact (fun h => h) | exact zT1 (by omega) | (show ¬ (_ ∨ _); omega) | (show ¬ (_ ∧ _); omega))
      refine z_aload_n 1 O dX4_startWork_76 rfl ?_
      refine z_dup O dX4_startWork_77 rfl ?_
      refine z_getf kF_X4_40 O dX4_startWork_78 hO57.1 rfl ?_
      refine z_iconst 1 O dX4_startWork_81 (by decide +kernel) ?_
      refine z_iadd O dX4_startWork_82 ?_
      refine z_putf kP_X4_40 O (fun h => nomatch h) dX4_startWork_83 hO57.1 rfl rfl (Nat.le_of_ble_eq_true rfl) (fun H63 hO64 hC65 => ?_)
      have hf66 := hO57.ch hC65
      have ho67 : zO (zEn x) H63 r t (a t) 4 [.int (iI w), .ref (a (t + 1)), .ref (a (t + 2)), .ref (a (t + 4)), .ref (a (t + 6)), .ref (a (t + 8)), .int (iI ((G (at_ w 0)) + 1)), .int (iI (G (at_ w 3))), .int (iI (G (at_ w 4)))] := ⟨hO64, hO57.2⟩
      have hQ68 := hQ58.fr hf66 (by first | exact (fun h => h) | exact zT1 (by omega) | (show ¬ (_ ∨ _); omega) | (show ¬ (_ ∧ _); omega))
      have hLg69 := hLg59.fr hf66 (by first | exact (fun h => h) | exact zT1 (by omega) | (show ¬ (_ ∨ _); omega) | (show ¬ (_ ∧ _); omega)) (by first | exact (fun h => h) | exact zT1 (by omega) | (show ¬ (_ ∨ _); omega) | (show ¬ (_ ∧ _); omega))
      have hRg70 := hRg60.fr hf66 (by first | exact (fun h => h) | exact zT1 (by omega) | (show ¬ (_ ∨ _); omega) | (show ¬ (_ ∧ _); omega)) (by first | exact (fun h => h) | exact zT1 (by omega) | (show ¬ (_ ∨ _); omega) | (show ¬ (_ ∧ _); omega))
      have hPL71 := hPL61.fr hf66 (by first | exact (fun h => h) | exact zT1 (by omega) | (show ¬ (_ ∨ _); omega) | (show ¬ (_ ∧ _); omega)) (by first | exact (fun h => h) | exact zT1 (by omega) | (show ¬ (_ ∨ _); omega) | (show ¬ (_ ∧ _); omega))
      have hPR72 := hPR62.fr hf66 (by first | exact (fun h => h) | exact zT1 (by omega) | (show ¬ (_ ∨ _); omega) | (show ¬ (_ ∧ _); omega)) (by first | exact (fun h => h) | exact zT1 (by omega) | (show ¬ (_ ∨ _); omega) | (show ¬ (_ ∧ _); omega))
      have ho73 := ho56.fr hf66 (by first | exact (fun h => h) | exact zT1 (by omega) | (show ¬ (_ ∨ _); omega) | (show ¬ (_ ∧ _); omega))
      refine z_aload_n 1 O dX4_startWork_86 rfl ?_
      refine z_getf kF_X4_40 O dX4_startWork_87 ho67.1 rfl ?_
      exact z_ireti O dX4_startWork_90 rfl (by omega) (by omega) hpo (by rfl) (⟨(((((((((((hf7.up (fun s h => by first | exact h.elim | omega | (simp at h ⊢; omega)))).tr (hf20.up (fun s h => by first | exact h.elim | omega | (simp at h ⊢; omega))))).tr (hf33.up (fun s h => by first | exact h.elim | omega | (simp at h ⊢; omega))))).tr (hf44.up (fun s h => by first | exact h.elim | omega | (simp at h ⊢; omega))))).tr (hf55.up (fun s h => by first | exact h.elim | omega | (simp at h ⊢; omega))))).tr (hf66.up (fun s h => by first | exact h.elim | omega | (simp at h ⊢; omega)))), zWkr.mk ho67 hQ68 hLg69 hRg70 hPL71 hPR72 (hWs.set (T := (fun s => s = t + 10 + (G (at_ w 0)).toNat ∨ s < t + 10 ∨ t + 15 ≤ s)) ((((((hf7.up (fun s h => by first | exact h.elim | omega | (simp at h ⊢; omega))).tr (hf20.up (fun s h => by first | exact h.elim | omega | (simp at h ⊢; omega)))).tr (hf33.up (fun s h => by first | exact h.elim | omega | (simp at h ⊢; omega)))).tr (hf44.up (fun s h => by first | exact h.elim | omega | (simp at h ⊢; omega)))).tr (hf55.up (fun s h => by first | exact h.elim | omega | (simp at h ⊢; omega)))).tr (hf66.up (fun s h => by first | exact h.elim | omega | (simp at h ⊢; omega)))) (by omega) (by omega) (fun s h1 h2 h3 => by (show ¬ (_ ∨ _); omega)) ho73) b0 b3 b4 b1 b2 (fun k k0 k1 => (bk (70 + k) (by omega)).symm) (fun k k0 k1 => (bk (710 + k) (by omega)).symm) (hRl.begin hw.1 hd (fun i a b => (hG.k hw a b).2.2.1.2))⟩)

