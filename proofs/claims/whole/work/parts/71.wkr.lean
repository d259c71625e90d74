/-! the class: workers, what they answer (written by program: wip/whole/gen/class1.py) -/
theorem zRow.o {E : zE} {H : Heap} {r : zH} {t q most : Nat} {n : Int} {g : Int → Int} (h : zRow E H r t q most n g) : ∃ it : Nat, zO E H r t q 1 [.int (iI (most : Int)), .ref it, .int (iI n)] := by
  obtain ⟨it, f, h1, -⟩ := h
  exact ⟨it, h1⟩
theorem c_X4_workAt {E : zE} (hst : E.1.stackTraces = false) {H : Heap} {r : zH} {a : Nat → Nat} {t : Nat} {w : Int} {G : Int → Int} {N : Int} {i : Int} (h : zWkr E H r a t w G) (hG : sW G N) (hw : 0 ≤ w ∧ w ≤ 2) (hi : zR i) : zC E yX4_workAt cX4_workAt 2 (some (.object "ForgivenWork$Work")) 0 0 [.ref (a t), .int (iI i)] H 0 0 (zRr (if 0 ≤ i ∧ i < G (at_ w 0) then some (a (t + 10 + i.toNat)) else none) (zSm H)) zN := by
  refine zC.of (by decide) (Nat.le_of_ble_eq_true rfl) hst ?_
  intro x O hE hpo hpx
  subst hE
  change zG x H 0 0 0 [(0, .ref (a t)), (1, .int (iI i))] []
  obtain ⟨np, f1, f2, V, hO, hQ, hLg, hRg, hPL, hPR, hWs, hRl⟩ := id h
  have hm := hG.m hw
  have hl := hG.l hw
  refine z_iload_n 1 O dX4_workAt_0 rfl ?_
  refine z_if_lt 30 O dX4_workAt_1 (by decide) ⟨by omega, by omega⟩ (fun c_1 => ?_) (fun c_1 => ?_)
  · skip
    refine z_null O dX4_workAt_30 ?_
    exact z_iretrN O dX4_workAt_31 rfl (by first | exact Or.inl ⟨_, rfl⟩ | exact Or.inr ⟨_, rfl⟩) (by omega) (by omega) hpo (by rw [if_neg (by omega)]) (rfl)
  · skip
    refine z_iload_n 1 O dX4_workAt_4 rfl ?_
    refine z_aload_n 0 O dX4_workAt_5 rfl ?_
    refine z_getf kF_X4_40 O dX4_workAt_6 hO.1 rfl ?_
    refine z_icmp_ge 30 O dX4_workAt_9 (by decide) ⟨by omega, by omega⟩ ⟨by omega, by omega⟩ (fun c_9 => ?_) (fun c_9 => ?_)
    · skip
      refine z_null O dX4_workAt_30 ?_
      exact z_iretrN O dX4_workAt_31 rfl (by first | exact Or.inl ⟨_, rfl⟩ | exact Or.inr ⟨_, rfl⟩) (by omega) (by omega) hpo (by rw [if_neg (by omega)]) (rfl)
    · skip
      refine z_iload_n 1 O dX4_workAt_12 rfl ?_
      refine z_aload_n 0 O dX4_workAt_13 rfl ?_
      refine z_getf kF_X4_11 O dX4_workAt_14 hO.1 rfl ?_
      refine z_alenR (by decide) O dX4_workAt_17 hQ.1 ?_
      refine z_icmp_ge 30 O dX4_workAt_18 (by decide) ⟨by omega, by omega⟩ ⟨by omega, by omega⟩ (fun c_18 => ?_) (fun c_18 => ?_)
      · exfalso; omega
      · skip
        refine z_aload_n 0 O dX4_workAt_21 rfl ?_
        refine z_getf kF_X4_11 O dX4_workAt_22 hO.1 rfl ?_
        refine z_iload_n 1 O dX4_workAt_25 rfl ?_
        refine z_aald (T := 0) (by decide) O dX4_workAt_26 hQ.1 ⟨by omega, by omega⟩ (by omega) (by omega) ?_
        change zG x _ _ _ _ _ (.ref (a (t + 10 + i.toNat)) :: _)
        refine z_goto 31 O dX4_workAt_27 (by decide) ?_
        exact z_iretr O dX4_workAt_31 rfl (by first | exact Or.inl ⟨_, rfl⟩ | exact Or.inr ⟨_, rfl⟩) (by omega) (by omega) hpo (by rw [if_pos (by omega)]) (rfl)

theorem c_X4_innermost {E : zE} (hst : E.1.stackTraces = false) {H : Heap} {r : zH} {a : Nat → Nat} {t : Nat} {w : Int} {G : Int → Int} {N : Int} (h : zWkr E H r a t w G) (hG : sW G N) (hw : 0 ≤ w ∧ w ≤ 2) : zC E yX4_innermost cX4_innermost 1 (some (.object "ForgivenWork$Work")) 0 0 [.ref (a t)] H 0 0 (zRr (if 0 < G (at_ w 0) then some (a (t + 10 + (G (at_ w 0) - 1).toNat)) else none) (zSm H)) zN := by
  refine zC.of (by decide) (Nat.le_of_ble_eq_true rfl) hst ?_
  intro x O hE hpo hpx
  subst hE
  change zG x H 0 0 0 [(0, .ref (a t))] []
  obtain ⟨np, f1, f2, V, hO, hQ, hLg, hRg, hPL, hPR, hWs, hRl⟩ := id h
  have hm := hG.m hw
  have hl := hG.l hw
  refine z_aload_n 0 O dX4_innermost_0 rfl ?_
  refine z_getf kF_X4_40 O dX4_innermost_1 hO.1 rfl ?_
  refine z_if_le 33 O dX4_innermost_4 (by decide) ⟨by omega, by omega⟩ (fun c_4 => ?_) (fun c_4 => ?_)
  · skip
    refine z_null O dX4_innermost_33 ?_
    exact z_iretrN O dX4_innermost_34 rfl (by first | exact Or.inl ⟨_, rfl⟩ | exact Or.inr ⟨_, rfl⟩) (by omega) (by omega) hpo (by rw [if_neg (by omega)]) (rfl)
  · skip
    refine z_aload_n 0 O dX4_innermost_7 rfl ?_
    refine z_getf kF_X4_40 O dX4_innermost_8 hO.1 rfl ?_
    refine z_aload_n 0 O dX4_innermost_11 rfl ?_
    refine z_getf kF_X4_11 O dX4_innermost_12 hO.1 rfl ?_
    refine z_alenR (by decide) O dX4_innermost_15 hQ.1 ?_
    refine z_icmp_gt 33 O dX4_innermost_16 (by decide) ⟨by omega, by omega⟩ ⟨by omega, by omega⟩ (fun c_16 => ?_) (fun c_16 => ?_)
    · exfalso; omega
    · skip
      refine z_aload_n 0 O dX4_innermost_19 rfl ?_
      refine z_getf kF_X4_11 O dX4_innermost_20 hO.1 rfl ?_
      refine z_aload_n 0 O dX4_innermost_23 rfl ?_
      refine z_getf kF_X4_40 O dX4_innermost_24 hO.1 rfl ?_
      refine z_iconst 1 O dX4_innermost_27 (by decide +kernel) ?_
      refine z_isub O dX4_innermost_28 ?_
      refine z_aald (T := 0) (by decide) O dX4_innermost_29 hQ.1 ⟨by omega, by omega⟩ (by omega) (by omega) ?_
      change zG x _ _ _ _ _ (.ref (a (t + 10 + ((G (at_ w 0)) - 1).toNat)) :: _)
      refine z_goto 34 O dX4_innermost_30 (by decide) ?_
      exact z_iretr O dX4_innermost_34 rfl (by first | exact Or.inl ⟨_, rfl⟩ | exact Or.inr ⟨_, rfl⟩) (by omega) (by omega) hpo (by rw [if_pos (by omega)]) (rfl)

theorem c_X4_isSpoiled {E : zE} (hst : E.1.stackTraces = false) {H : Heap} {r : zH} {a : Nat → Nat} {t : Nat} {w : Int} {G : Int → Int} {N : Int} (h : zWkr E H r a t w G) (hG : sW G N) (hw : 0 ≤ w ∧ w ≤ 2) : zC E yX4_isSpoiled cX4_isSpoiled 2 (some .boolean) 1 20 [.ref (a t)] H 0 0 (zRi (zb (sSp G w)) (zSm H)) zN := by
  refine zC.of (by decide) (Nat.le_of_ble_eq_true rfl) hst ?_
  intro x O hE hpo hpx
  subst hE
  change zG x H 0 0 0 [(0, .ref (a t))] []
  obtain ⟨np, f1, f2, V, hO, hQ, hLg, hRg, hPL, hPR, hWs, hRl⟩ := id h
  have hm := hG.m hw
  have hl := hG.l hw
  have h4 : 0 < G (at_ w 0) → V (G (at_ w 0) - 1) 4 = G (sIn G w 4) := fun q => (hRl.2.2.1 (G (at_ w 0) - 1) (by omega) (by omega)).2.2.2.1
  have hin := fun q : 0 < G (at_ w 0) => (hG.in hw q).2.2.2.2.1
  refine z_aload_n 0 O dX4_isSpoiled_0 rfl ?_
  by_cases hd1 : 0 < G (at_ w 0)
  · skip
    refine z_Vr [] [] kM_X4_67 O dX4_isSpoiled_1 (by have c := c_X4_innermost hst h hG hw; rw [if_pos hd1] at c; exact c) rfl rfl hO.1 (by decide) (Nat.le_of_ble_eq_true rfl) (by omega) (by omega) (Nat.le_of_ble_eq_true rfl) zNx ?_
    refine z_astore_n [(1, .ref (a (t + 10 + (G (at_ w 0) - 1).toNat))), (0, .ref (a t))] O dX4_isSpoiled_4 (by decide) rfl ?_
    refine z_aload_n 0 O dX4_isSpoiled_5 rfl ?_
    refine z_ifnull O dX4_isSpoiled_6 ?_
    refine z_aload_n 0 O dX4_isSpoiled_9 rfl ?_
    have h4a := h4 (by omega)
    have hina := hin (by omega)
    have hWo2 := hWs.at (e := (G (at_ w 0) - 1)) (by omega) (by omega)
    refine z_getf kF_X4_71 O dX4_isSpoiled_10 hWo2.1 rfl ?_
    refine z_if_eq 20 O dX4_isSpoiled_13 (by decide) ⟨by omega, by omega⟩ (fun c_13 => ?_) (fun c_13 => ?_)
    · skip
      refine z_iconst 0 O dX4_isSpoiled_20 (by decide +kernel) ?_
      exact z_iretb O dX4_isSpoiled_21 rfl (by omega) (by omega) hpo (by exact zb_f (sSp_f.mpr (by omega))) (rfl)
    · skip
      refine z_iconst 1 O dX4_isSpoiled_16 (by decide +kernel) ?_
      refine z_goto 21 O dX4_isSpoiled_17 (by decide) ?_
      exact z_iretb O dX4_isSpoiled_21 rfl (by omega) (by omega) hpo (by exact zb_t (sSp_t.mpr ⟨by omega, by omega⟩)) (rfl)
  · skip
    refine z_Vr [] [] kM_X4_67 O dX4_isSpoiled_1 (by have c := c_X4_innermost hst h hG hw; rw [if_neg hd1] at c; exact c) rfl rfl hO.1 (by decide) (Nat.le_of_ble_eq_true rfl) (by omega) (by omega) (Nat.le_of_ble_eq_true rfl) zNx ?_
    refine z_astore_nN [(1, .null), (0, .ref (a t))] O dX4_isSpoiled_4 (by decide) rfl ?_
    refine z_aload_nN 0 O dX4_isSpoiled_5 rfl ?_
    refine z_ifnullN 20 O dX4_isSpoiled_6 (by decide) ?_
    refine z_iconst 0 O dX4_isSpoiled_20 (by decide +kernel) ?_
    exact z_iretb O dX4_isSpoiled_21 rfl (by omega) (by omega) hpo (by exact zb_f (sSp_f.mpr (by omega))) (rfl)

theorem c_X4_isReady {E : zE} (hst : E.1.stackTraces = false) {H : Heap} {r : zH} {a : Nat → Nat} {t : Nat} {w : Int} {G : Int → Int} {N : Int} (h : zWkr E H r a t w G) (hG : sW G N) (hw : 0 ≤ w ∧ w ≤ 2) : zC E yX4_isReady cX4_isReady 1 (some .boolean) 2 41 [.ref (a t)] H 0 0 (zRi (zb (sOp G w)) (zSm H)) zN := by
  refine zC.of (by decide) (Nat.le_of_ble_eq_true rfl) hst ?_
  intro x O hE hpo hpx
  subst hE
  change zG x H 0 0 0 [(0, .ref (a t))] []
  obtain ⟨np, f1, f2, V, hO, hQ, hLg, hRg, hPL, hPR, hWs, hRl⟩ := id h
  have hm := hG.m hw
  have hl := hG.l hw
  refine z_aload_n 0 O dX4_isReady_0 rfl ?_
  refine z_getf kF_X4_40 O dX4_isReady_1 hO.1 rfl ?_
  refine z_if_le 18 O dX4_isReady_4 (by decide) ⟨by omega, by omega⟩ (fun c_4 => ?_) (fun c_4 => ?_)
  · skip
    refine z_iconst 0 O dX4_isReady_18 (by decide +kernel) ?_
    exact z_iretb O dX4_isReady_19 rfl (by omega) (by omega) hpo (by first | exact zb_t (sOp_t.mpr (by have := sSp_f.mp c_11; omega)) | exact zb_f (sOp_f.mpr (by omega)) | exact zb_f (sOp_f.mpr (by have := sSp_t.mp c_11; omega))) (rfl)
  · skip
    refine z_aload_n 0 O dX4_isReady_7 rfl ?_
    refine z_Vi [] [] kM_X4_75 O dX4_isReady_8 (c_X4_isSpoiled hst h hG hw) rfl rfl hO.1 (by decide) (Nat.le_of_ble_eq_true rfl) (by omega) (by omega) (Nat.le_of_ble_eq_true rfl) zNx ?_
    refine z_ifb_ne 18 O dX4_isReady_11 (by decide) (fun c_11 => ?_) (fun c_11 => ?_)
    · skip
      refine z_iconst 0 O dX4_isReady_18 (by decide +kernel) ?_
      exact z_iretb O dX4_isReady_19 rfl (by omega) (by omega) hpo (by first | exact zb_t (sOp_t.mpr (by have := sSp_f.mp c_11; omega)) | exact zb_f (sOp_f.mpr (by omega)) | exact zb_f (sOp_f.mpr (by have := sSp_t.mp c_11; omega))) (rfl)
    · skip
      refine z_iconst 1 O dX4_isReady_14 (by decide +kernel) ?_
      refine z_goto 19 O dX4_isReady_15 (by decide) ?_
      exact z_iretb O dX4_isReady_19 rfl (by omega) (by omega) hpo (by first | exact zb_t (sOp_t.mpr (by have := sSp_f.mp c_11; omega)) | exact zb_f (sOp_f.mpr (by omega)) | exact zb_f (sOp_f.mpr (by have := sSp_t.mp c_11; omega))) (rfl)

