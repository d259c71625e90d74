/-! the reference: reading a command (written by program: wip/whole/gen/model4.py) -/
theorem c_X6_readWrite {E : zE} (hst : E.1.stackTraces = false) {H : Heap} {r : zH} {q : Nat} {Q : Nat → Nat} {rf n : Int} {s : zP} {lo fi ac : Int} {tx : Int → Int} {R : Int → Int} {N w : Int} (hO : zMo E H r q Q rf n s.2 s.1 lo fi ac) (hT : zA E H r 100001 (Q 1) 120 tx) (hR : zA E H r 100002 (Q 2) 4086 R) (hx : ∀ j : Int, 0 ≤ j → j < n → 0 ≤ tx j ∧ tx j ≤ 255) (hn : 0 ≤ n ∧ n ≤ 120) (hs : 0 ≤ s.2 ∧ s.2 ≤ n) (hG : sW R N) (hN : N ≤ 639) (hw : 0 ≤ w ∧ w ≤ 2) : zC E yX6_readWrite cX6_readWrite 5 none 5 108 [.ref q, .int (iI w)] H 0 0 (zRv (fun H1 => zFr H r H1 r (fun s => s = 100000 ∨ s = 100002) ∧ zMo E H1 r q Q rf n (tWr n tx w s lo R).1.2 (tWr n tx w s lo R).1.1 (tWr n tx w s lo R).2.1 fi ac ∧ zA E H1 r 100002 (Q 2) 4086 (tWr n tx w s lo R).2.2)) zN := by
  refine zC.of (by decide) (Nat.le_of_ble_eq_true rfl) hst ?_
  intro x O hE hpo hpx
  subst hE
  change zG x H 0 0 0 [(0, .ref q), (1, .int (iI w))] []
  have hm := hG.m hw
  have hl := hG.l hw
  refine z_aload_n 0 O dX6_readWrite_0 rfl ?_
  refine z_Vim [] [] kM_X6_141 O dX6_readWrite_1 (c_X6_cellRead hst hO hT hx hn hs) rfl rfl hO.1 (by decide) (Nat.le_of_ble_eq_true rfl) (by omega) (by omega) (Nat.le_of_ble_eq_true rfl) zNx (fun H1 hp2 hz3 => ?_)
  obtain ⟨hf4, ho5⟩ := hp2
  have hT6 := hT.fr hf4 (zT1 (by omega))
  have hR7 := hR.fr hf4 (zT1 (by omega))
  have hr1 : _ ∧ 0 ≤ (tCl n tx s).2.2 ∧ (tCl n tx s).2.2 ≤ n := tCl_R hs
  obtain ⟨v1, ev1⟩ : ∃ z, z = (tCl n tx s).1 := ⟨_, rfl⟩
  obtain ⟨s1, es1⟩ : ∃ z, z = (tCl n tx s).2 := ⟨_, rfl⟩
  rw [← ev1]
  rw [← ev1, ← es1] at hr1
  obtain ⟨hv1, hs1⟩ := hr1
  rw [← es1] at ho5
  refine z_istore_n [(2, .int (iI v1)), (0, .ref q), (1, .int (iI w))] O dX6_readWrite_4 (by decide) rfl ?_
  refine z_aload_n 1 O dX6_readWrite_5 rfl ?_
  refine z_iconst 0 O dX6_readWrite_6 (by decide +kernel) ?_
  refine z_Vim [.int (iI 0)] [] kM_X6_145 O dX6_readWrite_7 (c_X6_twoRead hst ho5 hT6 hx hn hs1 (by omega)) rfl rfl ho5.1 (by decide) (Nat.le_of_ble_eq_true rfl) (by omega) (by omega) (Nat.le_of_ble_eq_true rfl) zNx (fun H8 hp9 hz10 => ?_)
  obtain ⟨hf11, ho12⟩ := hp9
  have hT13 := hT6.fr hf11 (zT1 (by omega))
  have hR14 := hR7.fr hf11 (zT1 (by omega))
  have hr2 : _ ∧ 0 ≤ (tTw n 0 tx s1).2.2 ∧ (tTw n 0 tx s1).2.2 ≤ n := tTw_R hs1 (by omega)
  obtain ⟨v2, ev2⟩ : ∃ z, z = (tTw n 0 tx s1).1 := ⟨_, rfl⟩
  obtain ⟨s2, es2⟩ : ∃ z, z = (tTw n 0 tx s1).2 := ⟨_, rfl⟩
  rw [← ev2]
  rw [← ev2, ← es2] at hr2
  obtain ⟨hv2, hs2⟩ := hr2
  rw [← es2] at ho12
  refine z_istore_n [(3, .int (iI v2)), (2, .int (iI v1)), (0, .ref q), (1, .int (iI w))] O dX6_readWrite_10 (by decide) rfl ?_
  refine z_aload_n 2 O dX6_readWrite_11 rfl ?_
  refine z_getf kF_X6_13 O dX6_readWrite_12 ho12.1 rfl ?_
  refine z_iload_n 3 O dX6_readWrite_15 rfl ?_
  refine z_iload_n 1 O dX6_readWrite_16 rfl ?_
  refine z_Si [.ref (Q 2), .int (iI w), .int (iI v1)] [] kM_X6_99 O dX6_readWrite_17 (c_X6_reason hst hR14 hG hw ⟨by omega, by omega⟩) rfl rfl (by decide) (Nat.le_of_ble_eq_true rfl) (by omega) (by omega) (Nat.le_of_ble_eq_true rfl) zNx ?_
  have hre := sRe_R hG hw (c := v1)
  refine z_if_ne 27 O dX6_readWrite_20 (by decide) ⟨by omega, by omega⟩ (fun c_20 => ?_) (fun c_20 => ?_)
  · skip
    refine z_iconst 0 O dX6_readWrite_27 (by decide +kernel) ?_
    refine z_istore [(4, .int (iI 0)), (3, .int (iI v2)), (2, .int (iI v1)), (0, .ref q), (1, .int (iI w))] O dX6_readWrite_28 (by decide) rfl ?_
    refine z_aload_n 3 O dX6_readWrite_30 rfl ?_
    refine z_iload 0 O dX6_readWrite_31 rfl ?_
    have eb : decide (sRe R w v1 = 0) = false := decide_eq_false (by omega)
    refine z_Vvm [.int (iI 0)] [] kM_X6_149 O dX6_readWrite_33 (c_X6_doIt hst (b := false) ho12) rfl rfl ho12.1 (by decide) (Nat.le_of_ble_eq_true rfl) (by omega) (by omega) (Nat.le_of_ble_eq_true rfl) zNx (fun H15 hp16 hz17 => ?_)
    obtain ⟨hf18, ho19⟩ := hp16
    have hT20 := hT13.fr hf18 (zT1 (by omega))
    have hR21 := hR14.fr hf18 (zT1 (by omega))
    refine z_aload_n 3 O dX6_readWrite_36 rfl ?_
    refine z_getf kF_X6_125 O dX6_readWrite_37 ho19.1 rfl ?_
    refine z_ifb_eq 59 O dX6_readWrite_40 (by decide) (fun c_40 => ?_) (fun c_40 => ?_)
    · skip
      exact z_iretv O dX6_readWrite_59 rfl (by omega) (by omega) hpo (⟨(((((hf4.up (fun s h => by first | exact h.elim | omega | (simp at h ⊢; omega)))).tr (hf11.up (fun s h => by first | exact h.elim | omega | (simp at h ⊢; omega))))).tr (hf18.up (fun s h => by first | exact h.elim | omega | (simp at h ⊢; omega)))), (by unfold tWr tEx; rw [← ev1, ← es1, ← ev2, ← es2, eb]; exact ho19), (by unfold tWr tEx; rw [← ev1, ← es1, ← ev2, ← es2, eb]; show zA (zEn x) _ r _ _ _ (if _ then _ else _); rw [if_neg (by rw [c_40, Bool.false_and]; decide)]; exact hR21)⟩)
    · skip
      refine z_iload 0 O dX6_readWrite_43 rfl ?_
      refine z_if_eq 59 O dX6_readWrite_45 (by decide) ⟨by omega, by omega⟩ (fun c_45 => ?_) (fun c_45 => ?_)
      · skip
        exact z_iretv O dX6_readWrite_59 rfl (by omega) (by omega) hpo (⟨(((((hf4.up (fun s h => by first | exact h.elim | omega | (simp at h ⊢; omega)))).tr (hf11.up (fun s h => by first | exact h.elim | omega | (simp at h ⊢; omega))))).tr (hf18.up (fun s h => by first | exact h.elim | omega | (simp at h ⊢; omega)))), (by unfold tWr tEx; rw [← ev1, ← es1, ← ev2, ← es2, eb]; exact ho19), (by unfold tWr tEx; rw [← ev1, ← es1, ← ev2, ← es2, eb]; show zA (zEn x) _ r _ _ _ (if _ then _ else _); rw [if_neg (by rw [c_40]; decide)]; exact hR21)⟩)
      · exfalso; omega
  · skip
    refine z_iconst 1 O dX6_readWrite_23 (by decide +kernel) ?_
    refine z_goto 28 O dX6_readWrite_24 (by decide) ?_
    refine z_istore [(4, .int (iI 1)), (3, .int (iI v2)), (2, .int (iI v1)), (0, .ref q), (1, .int (iI w))] O dX6_readWrite_28 (by decide) rfl ?_
    refine z_aload_n 3 O dX6_readWrite_30 rfl ?_
    refine z_iload 0 O dX6_readWrite_31 rfl ?_
    have eb : decide (sRe R w v1 = 0) = true := decide_eq_true (by omega)
    refine z_Vvm [.int (iI 1)] [] kM_X6_149 O dX6_readWrite_33 (c_X6_doIt hst (b := true) ho12) rfl rfl ho12.1 (by decide) (Nat.le_of_ble_eq_true rfl) (by omega) (by omega) (Nat.le_of_ble_eq_true rfl) zNx (fun H22 hp23 hz24 => ?_)
    obtain ⟨hf25, ho26⟩ := hp23
    have hT27 := hT13.fr hf25 (zT1 (by omega))
    have hR28 := hR14.fr hf25 (zT1 (by omega))
    refine z_aload_n 3 O dX6_readWrite_36 rfl ?_
    refine z_getf kF_X6_125 O dX6_readWrite_37 ho26.1 rfl ?_
    refine z_ifb_eq 59 O dX6_readWrite_40 (by decide) (fun c_40 => ?_) (fun c_40 => ?_)
    · skip
      exact z_iretv O dX6_readWrite_59 rfl (by omega) (by omega) hpo (⟨(((((hf4.up (fun s h => by first | exact h.elim | omega | (simp at h ⊢; omega)))).tr (hf11.up (fun s h => by first | exact h.elim | omega | (simp at h ⊢; omega))))).tr (hf25.up (fun s h => by first | exact h.elim | omega | (simp at h ⊢; omega)))), (by unfold tWr tEx; rw [← ev1, ← es1, ← ev2, ← es2, eb]; exact ho26), (by unfold tWr tEx; rw [← ev1, ← es1, ← ev2, ← es2, eb]; show zA (zEn x) _ r _ _ _ (if _ then _ else _); rw [if_neg (by rw [c_40, Bool.false_and]; decide)]; exact hR28)⟩)
    · skip
      refine z_iload 0 O dX6_readWrite_43 rfl ?_
      refine z_if_eq 59 O dX6_readWrite_45 (by decide) ⟨by omega, by omega⟩ (fun c_45 => ?_) (fun c_45 => ?_)
      · exfalso; omega
      · skip
        refine z_aload_n 3 O dX6_readWrite_48 rfl ?_
        refine z_getf kF_X6_13 O dX6_readWrite_49 ho26.1 rfl ?_
        refine z_iload_n 4 O dX6_readWrite_52 rfl ?_
        refine z_iload_n 2 O dX6_readWrite_53 rfl ?_
        refine z_iload_n 1 O dX6_readWrite_54 rfl ?_
        refine z_Sim [.ref (Q 2), .int (iI w), .int (iI v1), .int (iI v2)] [] kM_X6_152 O dX6_readWrite_55 (c_X6_writeIn hst hR28 hw ⟨by omega, by omega⟩ ⟨by omega, by omega⟩) rfl rfl (by decide) (Nat.le_of_ble_eq_true rfl) (by omega) (by omega) (Nat.le_of_ble_eq_true rfl) zNx (fun H29 hp30 hz31 => ?_)
        obtain ⟨hf32, ha33⟩ := hp30
        have ho34 := ho26.fr hf32 (zT1 (by omega))
        have hT35 := hT27.fr hf32 (zT1 (by omega))
        refine z_pop O dX6_readWrite_58 rfl ?_
        exact z_iretv O dX6_readWrite_59 rfl (by omega) (by omega) hpo (⟨(((((((hf4.up (fun s h => by first | exact h.elim | omega | (simp at h ⊢; omega)))).tr (hf11.up (fun s h => by first | exact h.elim | omega | (simp at h ⊢; omega))))).tr (hf25.up (fun s h => by first | exact h.elim | omega | (simp at h ⊢; omega))))).tr (hf32.up (fun s h => by first | exact h.elim | omega | (simp at h ⊢; omega)))), (by unfold tWr tEx; rw [← ev1, ← es1, ← ev2, ← es2, eb]; exact ho34), (by unfold tWr tEx; rw [← ev1, ← es1, ← ev2, ← es2, eb]; show zA (zEn x) _ r _ _ _ (if _ then _ else _); rw [if_pos (by rw [c_40]; rfl)]; exact ha33)⟩)

theorem c_X6_readRegret {E : zE} (hst : E.1.stackTraces = false) {H : Heap} {r : zH} {q : Nat} {Q : Nat → Nat} {rf n : Int} {s : zP} {lo fi ac : Int} {tx : Int → Int} {R : Int → Int} {N w : Int} (hO : zMo E H r q Q rf n s.2 s.1 lo fi ac) (hT : zA E H r 100001 (Q 1) 120 tx) (hR : zA E H r 100002 (Q 2) 4086 R) (hx : ∀ j : Int, 0 ≤ j → j < n → 0 ≤ tx j ∧ tx j ≤ 255) (hn : 0 ≤ n ∧ n ≤ 120) (hs : 0 ≤ s.2 ∧ s.2 ≤ n) (hG : sW R N) (hN : N ≤ 639) (hw : 0 ≤ w ∧ w ≤ 2) : zC E yX6_readRegret cX6_readRegret 5 none 6 131 [.ref q, .int (iI w)] H 0 0 (zRv (fun H1 => zFr H r H1 r (fun s => s = 100000 ∨ s = 100002) ∧ zMo E H1 r q Q rf n (tRg n tx w s lo R).1.2 (tRg n tx w s lo R).1.1 (tRg n tx w s lo R).2.1 fi ac ∧ zA E H1 r 100002 (Q 2) 4086 (tRg n tx w s lo R).2.2)) zN := by
  refine zC.of (by decide) (Nat.le_of_ble_eq_true rfl) hst ?_
  intro x O hE hpo hpx
  subst hE
  change zG x H 0 0 0 [(0, .ref q), (1, .int (iI w))] []
  have hm := hG.m hw
  have hl := hG.l hw
  refine z_aload_n 0 O dX6_readRegret_0 rfl ?_
  refine z_Vim [] [] kM_X6_141 O dX6_readRegret_1 (c_X6_cellRead hst hO hT hx hn hs) rfl rfl hO.1 (by decide) (Nat.le_of_ble_eq_true rfl) (by omega) (by omega) (Nat.le_of_ble_eq_true rfl) zNx (fun H1 hp2 hz3 => ?_)
  obtain ⟨hf4, ho5⟩ := hp2
  have hT6 := hT.fr hf4 (zT1 (by omega))
  have hR7 := hR.fr hf4 (zT1 (by omega))
  have hr1 : _ ∧ 0 ≤ (tCl n tx s).2.2 ∧ (tCl n tx s).2.2 ≤ n := tCl_R hs
  obtain ⟨v1, ev1⟩ : ∃ z, z = (tCl n tx s).1 := ⟨_, rfl⟩
  obtain ⟨s1, es1⟩ : ∃ z, z = (tCl n tx s).2 := ⟨_, rfl⟩
  rw [← ev1]
  rw [← ev1, ← es1] at hr1
  obtain ⟨hv1, hs1⟩ := hr1
  rw [← es1] at ho5
  refine z_istore_n [(2, .int (iI v1)), (0, .ref q), (1, .int (iI w))] O dX6_readRegret_4 (by decide) rfl ?_
  refine z_aload_n 1 O dX6_readRegret_5 rfl ?_
  refine z_iconst 1 O dX6_readRegret_6 (by decide +kernel) ?_
  refine z_Vim [.int (iI 1)] [] kM_X6_145 O dX6_readRegret_7 (c_X6_twoRead hst ho5 hT6 hx hn hs1 (by omega)) rfl rfl ho5.1 (by decide) (Nat.le_of_ble_eq_true rfl) (by omega) (by omega) (Nat.le_of_ble_eq_true rfl) zNx (fun H8 hp9 hz10 => ?_)
  obtain ⟨hf11, ho12⟩ := hp9
  have hT13 := hT6.fr hf11 (zT1 (by omega))
  have hR14 := hR7.fr hf11 (zT1 (by omega))
  have hr2 : _ ∧ 0 ≤ (tTw n 1 tx s1).2.2 ∧ (tTw n 1 tx s1).2.2 ≤ n := tTw_R hs1 (by omega)
  obtain ⟨v2, ev2⟩ : ∃ z, z = (tTw n 1 tx s1).1 := ⟨_, rfl⟩
  obtain ⟨s2, es2⟩ : ∃ z, z = (tTw n 1 tx s1).2 := ⟨_, rfl⟩
  rw [← ev2]
  rw [← ev2, ← es2] at hr2
  obtain ⟨hv2, hs2⟩ := hr2
  rw [← es2] at ho12
  refine z_istore_n [(3, .int (iI v2)), (2, .int (iI v1)), (0, .ref q), (1, .int (iI w))] O dX6_readRegret_10 (by decide) rfl ?_
  refine z_aload_n 2 O dX6_readRegret_11 rfl ?_
  refine z_getf kF_X6_13 O dX6_readRegret_12 ho12.1 rfl ?_
  refine z_iload_n 3 O dX6_readRegret_15 rfl ?_
  refine z_iload_n 1 O dX6_readRegret_16 rfl ?_
  refine z_Si [.ref (Q 2), .int (iI w), .int (iI v1)] [] kM_X6_156 O dX6_readRegret_17 (c_X6_canRegret hst hR14 hG hw ⟨by omega, by omega⟩) rfl rfl (by decide) (Nat.le_of_ble_eq_true rfl) (by omega) (by omega) (Nat.le_of_ble_eq_true rfl) zNx ?_
  refine z_istore [(4, .int (iI (zb (sCr R w v1)))), (3, .int (iI v2)), (2, .int (iI v1)), (0, .ref q), (1, .int (iI w))] O dX6_readRegret_20 (by decide) rfl ?_
  refine z_aload_n 3 O dX6_readRegret_22 rfl ?_
  refine z_iload 0 O dX6_readRegret_23 rfl ?_
  have eb : sCr R w v1 = (sCr R w v1) := rfl
  refine z_Vvm [.int (iI (zb (sCr R w v1)))] [] kM_X6_149 O dX6_readRegret_25 (c_X6_doIt hst (b := (sCr R w v1)) ho12) rfl rfl ho12.1 (by decide) (Nat.le_of_ble_eq_true rfl) (by omega) (by omega) (Nat.le_of_ble_eq_true rfl) zNx (fun H15 hp16 hz17 => ?_)
  obtain ⟨hf18, ho19⟩ := hp16
  have hT20 := hT13.fr hf18 (zT1 (by omega))
  have hR21 := hR14.fr hf18 (zT1 (by omega))
  refine z_aload_n 3 O dX6_readRegret_28 rfl ?_
  refine z_getf kF_X6_125 O dX6_readRegret_29 ho19.1 rfl ?_
  refine z_ifb_eq 51 O dX6_readRegret_32 (by decide) (fun c_32 => ?_) (fun c_32 => ?_)
  · skip
    exact z_iretv O dX6_readRegret_51 rfl (by omega) (by omega) hpo (⟨(((((hf4.up (fun s h => by first | exact h.elim | omega | (simp at h ⊢; omega)))).tr (hf11.up (fun s h => by first | exact h.elim | omega | (simp at h ⊢; omega))))).tr (hf18.up (fun s h => by first | exact h.elim | omega | (simp at h ⊢; omega)))), (by unfold tRg tEx; rw [← ev1, ← es1, ← ev2, ← es2, eb]; exact ho19), (by unfold tRg tEx; rw [← ev1, ← es1, ← ev2, ← es2, eb]; show zA (zEn x) _ r _ _ _ (if _ then _ else _); rw [if_neg (by rw [c_32, Bool.false_and]; decide)]; exact hR21)⟩)
  · skip
    refine z_iload 0 O dX6_readRegret_35 rfl ?_
    refine z_ifb_eq 51 O dX6_readRegret_37 (by decide) (fun c_37 => ?_) (fun c_37 => ?_)
    · skip
      have k_37 := sCr_f.mp c_37
      exact z_iretv O dX6_readRegret_51 rfl (by omega) (by omega) hpo (⟨(((((hf4.up (fun s h => by first | exact h.elim | omega | (simp at h ⊢; omega)))).tr (hf11.up (fun s h => by first | exact h.elim | omega | (simp at h ⊢; omega))))).tr (hf18.up (fun s h => by first | exact h.elim | omega | (simp at h ⊢; omega)))), (by unfold tRg tEx; rw [← ev1, ← es1, ← ev2, ← es2, eb]; exact ho19), (by unfold tRg tEx; rw [← ev1, ← es1, ← ev2, ← es2, eb]; show zA (zEn x) _ r _ _ _ (if _ then _ else _); rw [if_neg (by rw [c_32, c_37]; decide)]; exact hR21)⟩)
    · skip
      have k_37 := sCr_t.mp c_37
      have hmm := sRe_m (G := R) (w := w) (c := v1) (by omega)
      refine z_aload_n 3 O dX6_readRegret_40 rfl ?_
      refine z_getf kF_X6_13 O dX6_readRegret_41 ho19.1 rfl ?_
      refine z_iload_n 4 O dX6_readRegret_44 rfl ?_
      refine z_iload_n 2 O dX6_readRegret_45 rfl ?_
      refine z_iload_n 1 O dX6_readRegret_46 rfl ?_
      refine z_Sim [.ref (Q 2), .int (iI w), .int (iI v1), .int (iI v2)] [] kM_X6_160 O dX6_readRegret_47 (c_X6_regretIn hst hR21 hw ⟨by omega, by omega⟩ ⟨by omega, by omega⟩ ⟨by omega, by omega⟩) rfl rfl (by decide) (Nat.le_of_ble_eq_true rfl) (by omega) (by omega) (Nat.le_of_ble_eq_true rfl) zNx (fun H22 hp23 hz24 => ?_)
      obtain ⟨hf25, ha26⟩ := hp23
      have ho27 := ho19.fr hf25 (zT1 (by omega))
      have hT28 := hT20.fr hf25 (zT1 (by omega))
      refine z_pop O dX6_readRegret_50 rfl ?_
      exact z_iretv O dX6_readRegret_51 rfl (by omega) (by omega) hpo (⟨(((((((hf4.up (fun s h => by first | exact h.elim | omega | (simp at h ⊢; omega)))).tr (hf11.up (fun s h => by first | exact h.elim | omega | (simp at h ⊢; omega))))).tr (hf18.up (fun s h => by first | exact h.elim | omega | (simp at h ⊢; omega))))).tr (hf25.up (fun s h => by first | exact h.elim | omega | (simp at h ⊢; omega)))), (by unfold tRg tEx; rw [← ev1, ← es1, ← ev2, ← es2, eb]; exact ho27), (by unfold tRg tEx; rw [← ev1, ← es1, ← ev2, ← es2, eb]; show zA (zEn x) _ r _ _ _ (if _ then _ else _); rw [if_pos (by rw [c_32, c_37]; rfl)]; exact ha26)⟩)

theorem c_X6_readBack {E : zE} (hst : E.1.stackTraces = false) {H : Heap} {r : zH} {q : Nat} {Q : Nat → Nat} {rf n : Int} {s : zP} {lo fi ac : Int} {tx : Int → Int} {R : Int → Int} {N w : Int} (hO : zMo E H r q Q rf n s.2 s.1 lo fi ac) (hT : zA E H r 100001 (Q 1) 120 tx) (hR : zA E H r 100002 (Q 2) 4086 R) (hx : ∀ j : Int, 0 ≤ j → j < n → 0 ≤ tx j ∧ tx j ≤ 255) (hn : 0 ≤ n ∧ n ≤ 120) (hs : 0 ≤ s.2 ∧ s.2 ≤ n) (hG : sW R N) (hN : N ≤ 639) (hw : 0 ≤ w ∧ w ≤ 2) : zC E yX6_readBack cX6_readBack 4 none 4 88 [.ref q, .int (iI w)] H 0 0 (zRv (fun H1 => zFr H r H1 r (fun s => s = 100000 ∨ s = 100002) ∧ zMo E H1 r q Q rf n (tBk n tx w s lo R).1.2 (tBk n tx w s lo R).1.1 (tBk n tx w s lo R).2.1 fi ac ∧ zA E H1 r 100002 (Q 2) 4086 (tBk n tx w s lo R).2.2)) zN := by
  refine zC.of (by decide) (Nat.le_of_ble_eq_true rfl) hst ?_
  intro x O hE hpo hpx
  subst hE
  change zG x H 0 0 0 [(0, .ref q), (1, .int (iI w))] []
  have hm := hG.m hw
  have hl := hG.l hw
  refine z_aload_n 0 O dX6_readBack_0 rfl ?_
  refine z_iconst 0 O dX6_readBack_1 (by decide +kernel) ?_
  refine z_iconst 3 O dX6_readBack_2 (by decide +kernel) ?_
  refine z_Vim [.int (iI 0), .int (iI 3)] [] kM_X6_135 O dX6_readBack_3 (c_X6_digit hst hO hT hx hn hs (by omega) (by omega)) rfl rfl hO.1 (by decide) (Nat.le_of_ble_eq_true rfl) (by omega) (by omega) (Nat.le_of_ble_eq_true rfl) zNx (fun H1 hp2 hz3 => ?_)
  obtain ⟨hf4, ho5⟩ := hp2
  have hT6 := hT.fr hf4 (zT1 (by omega))
  have hR7 := hR.fr hf4 (zT1 (by omega))
  have hr1 : _ ∧ 0 ≤ (tDg n 0 3 tx s).2.2 ∧ (tDg n 0 3 tx s).2.2 ≤ n := tDg_R hs (by omega)
  obtain ⟨v1, ev1⟩ : ∃ z, z = (tDg n 0 3 tx s).1 := ⟨_, rfl⟩
  obtain ⟨s1, es1⟩ : ∃ z, z = (tDg n 0 3 tx s).2 := ⟨_, rfl⟩
  rw [← ev1]
  rw [← ev1, ← es1] at hr1
  obtain ⟨hv1, hs1⟩ := hr1
  rw [← es1] at ho5
  refine z_istore_n [(2, .int (iI v1)), (0, .ref q), (1, .int (iI w))] O dX6_readBack_6 (by decide) rfl ?_
  refine z_aload_n 1 O dX6_readBack_7 rfl ?_
  refine z_getf kF_X6_13 O dX6_readBack_8 ho5.1 rfl ?_
  refine z_iload_n 2 O dX6_readBack_11 rfl ?_
  refine z_iload_n 0 O dX6_readBack_12 rfl ?_
  refine z_Si [.ref (Q 2), .int (iI w), .int (iI v1)] [] kM_X6_163 O dX6_readBack_13 (c_X6_hasPoint hst hR7 hG hw ⟨by omega, by omega⟩) rfl rfl (by decide) (Nat.le_of_ble_eq_true rfl) (by omega) (by omega) (Nat.le_of_ble_eq_true rfl) zNx ?_
  refine z_ifb_eq 34 O dX6_readBack_16 (by decide) (fun c_16 => ?_) (fun c_16 => ?_)
  · skip
    have k_16 := sHp_f.mp c_16
    refine z_iconst 0 O dX6_readBack_34 (by decide +kernel) ?_
    refine z_istore_n [(3, .int (iI 0)), (2, .int (iI v1)), (0, .ref q), (1, .int (iI w))] O dX6_readBack_35 (by decide) rfl ?_
    refine z_aload_n 2 O dX6_readBack_36 rfl ?_
    refine z_iload_n 0 O dX6_readBack_37 rfl ?_
    have eb : (sHp R w v1 && !sSp R w) = false := by simp_all
    refine z_Vvm [.int (iI 0)] [] kM_X6_149 O dX6_readBack_38 (c_X6_doIt hst (b := false) ho5) rfl rfl ho5.1 (by decide) (Nat.le_of_ble_eq_true rfl) (by omega) (by omega) (Nat.le_of_ble_eq_true rfl) zNx (fun H8 hp9 hz10 => ?_)
    obtain ⟨hf11, ho12⟩ := hp9
    have hT13 := hT6.fr hf11 (zT1 (by omega))
    have hR14 := hR7.fr hf11 (zT1 (by omega))
    refine z_aload_n 2 O dX6_readBack_41 rfl ?_
    refine z_getf kF_X6_125 O dX6_readBack_42 ho12.1 rfl ?_
    refine z_ifb_eq 62 O dX6_readBack_45 (by decide) (fun c_45 => ?_) (fun c_45 => ?_)
    · skip
      exact z_iretv O dX6_readBack_62 rfl (by omega) (by omega) hpo (⟨(((hf4.up (fun s h => by first | exact h.elim | omega | (simp at h ⊢; omega)))).tr (hf11.up (fun s h => by first | exact h.elim | omega | (simp at h ⊢; omega)))), (by unfold tBk tEx; rw [← ev1, ← es1, eb]; exact ho12), (by unfold tBk tEx; rw [← ev1, ← es1, eb]; show zA (zEn x) _ r _ _ _ (if _ then _ else _); rw [if_neg (by rw [c_45, Bool.false_and]; decide)]; exact hR14)⟩)
    · skip
      refine z_iload_n 0 O dX6_readBack_48 rfl ?_
      refine z_if_eq 62 O dX6_readBack_49 (by decide) ⟨by omega, by omega⟩ (fun c_49 => ?_) (fun c_49 => ?_)
      · skip
        exact z_iretv O dX6_readBack_62 rfl (by omega) (by omega) hpo (⟨(((hf4.up (fun s h => by first | exact h.elim | omega | (simp at h ⊢; omega)))).tr (hf11.up (fun s h => by first | exact h.elim | omega | (simp at h ⊢; omega)))), (by unfold tBk tEx; rw [← ev1, ← es1, eb]; exact ho12), (by unfold tBk tEx; rw [← ev1, ← es1, eb]; show zA (zEn x) _ r _ _ _ (if _ then _ else _); rw [if_neg (by rw [c_45]; decide)]; exact hR14)⟩)
      · exfalso; omega
  · skip
    have k_16 := sHp_t.mp c_16
    refine z_aload_n 1 O dX6_readBack_19 rfl ?_
    refine z_getf kF_X6_13 O dX6_readBack_20 ho5.1 rfl ?_
    refine z_iload_n 2 O dX6_readBack_23 rfl ?_
    refine z_Si [.ref (Q 2), .int (iI w)] [] kM_X6_81 O dX6_readBack_24 (c_X6_isSpoiled hst hR7 hG hw) rfl rfl (by decide) (Nat.le_of_ble_eq_true rfl) (by omega) (by omega) (Nat.le_of_ble_eq_true rfl) zNx ?_
    refine z_ifb_ne 34 O dX6_readBack_27 (by decide) (fun c_27 => ?_) (fun c_27 => ?_)
    · skip
      have k_27 := sSp_t.mp c_27
      refine z_iconst 0 O dX6_readBack_34 (by decide +kernel) ?_
      refine z_istore_n [(3, .int (iI 0)), (2, .int (iI v1)), (0, .ref q), (1, .int (iI w))] O dX6_readBack_35 (by decide) rfl ?_
      refine z_aload_n 2 O dX6_readBack_36 rfl ?_
      refine z_iload_n 0 O dX6_readBack_37 rfl ?_
      have eb : (sHp R w v1 && !sSp R w) = false := by simp_all
      refine z_Vvm [.int (iI 0)] [] kM_X6_149 O dX6_readBack_38 (c_X6_doIt hst (b := false) ho5) rfl rfl ho5.1 (by decide) (Nat.le_of_ble_eq_true rfl) (by omega) (by omega) (Nat.le_of_ble_eq_true rfl) zNx (fun H15 hp16 hz17 => ?_)
      obtain ⟨hf18, ho19⟩ := hp16
      have hT20 := hT6.fr hf18 (zT1 (by omega))
      have hR21 := hR7.fr hf18 (zT1 (by omega))
      refine z_aload_n 2 O dX6_readBack_41 rfl ?_
      refine z_getf kF_X6_125 O dX6_readBack_42 ho19.1 rfl ?_
      refine z_ifb_eq 62 O dX6_readBack_45 (by decide) (fun c_45 => ?_) (fun c_45 => ?_)
      · skip
        exact z_iretv O dX6_readBack_62 rfl (by omega) (by omega) hpo (⟨(((hf4.up (fun s h => by first | exact h.elim | omega | (simp at h ⊢; omega)))).tr (hf18.up (fun s h => by first | exact h.elim | omega | (simp at h ⊢; omega)))), (by unfold tBk tEx; rw [← ev1, ← es1, eb]; exact ho19), (by unfold tBk tEx; rw [← ev1, ← es1, eb]; show zA (zEn x) _ r _ _ _ (if _ then _ else _); rw [if_neg (by rw [c_45, Bool.false_and]; decide)]; exact hR21)⟩)
      · skip
        refine z_iload_n 0 O dX6_readBack_48 rfl ?_
        refine z_if_eq 62 O dX6_readBack_49 (by decide) ⟨by omega, by omega⟩ (fun c_49 => ?_) (fun c_49 => ?_)
        · skip
          exact z_iretv O dX6_readBack_62 rfl (by omega) (by omega) hpo (⟨(((hf4.up (fun s h => by first | exact h.elim | omega | (simp at h ⊢; omega)))).tr (hf18.up (fun s h => by first | exact h.elim | omega | (simp at h ⊢; omega)))), (by unfold tBk tEx; rw [← ev1, ← es1, eb]; exact ho19), (by unfold tBk tEx; rw [← ev1, ← es1, eb]; show zA (zEn x) _ r _ _ _ (if _ then _ else _); rw [if_neg (by rw [c_45]; decide)]; exact hR21)⟩)
        · exfalso; omega
    · skip
      have k_27 := sSp_f.mp c_27
      refine z_iconst 1 O dX6_readBack_30 (by decide +kernel) ?_
      refine z_goto 35 O dX6_readBack_31 (by decide) ?_
      refine z_istore_n [(3, .int (iI 1)), (2, .int (iI v1)), (0, .ref q), (1, .int (iI w))] O dX6_readBack_35 (by decide) rfl ?_
      refine z_aload_n 2 O dX6_readBack_36 rfl ?_
      refine z_iload_n 0 O dX6_readBack_37 rfl ?_
      have eb : (sHp R w v1 && !sSp R w) = true := by simp_all
      refine z_Vvm [.int (iI 1)] [] kM_X6_149 O dX6_readBack_38 (c_X6_doIt hst (b := true) ho5) rfl rfl ho5.1 (by decide) (Nat.le_of_ble_eq_true rfl) (by omega) (by omega) (Nat.le_of_ble_eq_true rfl) zNx (fun H22 hp23 hz24 => ?_)
      obtain ⟨hf25, ho26⟩ := hp23
      have hT27 := hT6.fr hf25 (zT1 (by omega))
      have hR28 := hR7.fr hf25 (zT1 (by omega))
      refine z_aload_n 2 O dX6_readBack_41 rfl ?_
      refine z_getf kF_X6_125 O dX6_readBack_42 ho26.1 rfl ?_
      refine z_ifb_eq 62 O dX6_readBack_45 (by decide) (fun c_45 => ?_) (fun c_45 => ?_)
      · skip
        exact z_iretv O dX6_readBack_62 rfl (by omega) (by omega) hpo (⟨(((hf4.up (fun s h => by first | exact h.elim | omega | (simp at h ⊢; omega)))).tr (hf25.up (fun s h => by first | exact h.elim | omega | (simp at h ⊢; omega)))), (by unfold tBk tEx; rw [← ev1, ← es1, eb]; exact ho26), (by unfold tBk tEx; rw [← ev1, ← es1, eb]; show zA (zEn x) _ r _ _ _ (if _ then _ else _); rw [if_neg (by rw [c_45, Bool.false_and]; decide)]; exact hR28)⟩)
      · skip
        refine z_iload_n 0 O dX6_readBack_48 rfl ?_
        refine z_if_eq 62 O dX6_readBack_49 (by decide) ⟨by omega, by omega⟩ (fun c_49 => ?_) (fun c_49 => ?_)
        · exfalso; omega
        · skip
          refine z_aload_n 2 O dX6_readBack_52 rfl ?_
          refine z_getf kF_X6_13 O dX6_readBack_53 ho26.1 rfl ?_
          refine z_iload_n 3 O dX6_readBack_56 rfl ?_
          refine z_iload_n 1 O dX6_readBack_57 rfl ?_
          refine z_Sim [.ref (Q 2), .int (iI w), .int (iI v1)] [] kM_X6_166 O dX6_readBack_58 (c_X6_backIn hst hR28 hG hw (by omega) ⟨by omega, by omega⟩) rfl rfl (by decide) (Nat.le_of_ble_eq_true rfl) (by omega) (by omega) (Nat.le_of_ble_eq_true rfl) zNx (fun H29 hp30 hz31 => ?_)
          obtain ⟨hf32, ha33⟩ := hp30
          have ho34 := ho26.fr hf32 (zT1 (by omega))
          have hT35 := hT27.fr hf32 (zT1 (by omega))
          refine z_pop O dX6_readBack_61 rfl ?_
          exact z_iretv O dX6_readBack_62 rfl (by omega) (by omega) hpo (⟨(((((hf4.up (fun s h => by first | exact h.elim | omega | (simp at h ⊢; omega)))).tr (hf25.up (fun s h => by first | exact h.elim | omega | (simp at h ⊢; omega))))).tr (hf32.up (fun s h => by first | exact h.elim | omega | (simp at h ⊢; omega)))), (by unfold tBk tEx; rw [← ev1, ← es1, eb]; exact ho34), (by unfold tBk tEx; rw [← ev1, ← es1, eb]; show zA (zEn x) _ r _ _ _ (if _ then _ else _); rw [if_pos (by rw [c_45]; rfl)]; exact ha33)⟩)

theorem c_X6_readBare {E : zE} (hst : E.1.stackTraces = false) {H : Heap} {r : zH} {q : Nat} {Q : Nat → Nat} {rf n : Int} {s : zP} {lo fi ac : Int} {tx : Int → Int} {R : Int → Int} {N w k : Int} (hO : zMo E H r q Q rf n s.2 s.1 lo fi ac) (hT : zA E H r 100001 (Q 1) 120 tx) (hR : zA E H r 100002 (Q 2) 4086 R) (hx : ∀ j : Int, 0 ≤ j → j < n → 0 ≤ tx j ∧ tx j ≤ 255) (hn : 0 ≤ n ∧ n ≤ 120) (hs : 0 ≤ s.2 ∧ s.2 ≤ n) (hG : sW R N) (hN : N ≤ 639) (hw : 0 ≤ w ∧ w ≤ 2) (hk : 0 ≤ k ∧ k ≤ 255) : zC E yX6_readBare cX6_readBare 4 none 6 128 [.ref q, .int (iI k), .int (iI w)] H 0 0 (zRv (fun H1 => zFr H r H1 r (fun s => s = 100000 ∨ s = 100002) ∧ zMo E H1 r q Q rf n (tBa k w s lo R).1.2 (tBa k w s lo R).1.1 (tBa k w s lo R).2.1 fi ac ∧ zA E H1 r 100002 (Q 2) 4086 (tBa k w s lo R).2.2)) zN := by
  refine zC.of (by decide) (Nat.le_of_ble_eq_true rfl) hst ?_
  intro x O hE hpo hpx
  subst hE
  change zG x H 0 0 0 [(0, .ref q), (1, .int (iI k)), (2, .int (iI w))] []
  have hm := hG.m hw
  have hl := hG.l hw
  refine z_iload_n 1 O dX6_readBare_0 rfl ?_
  refine z_bipush 98 O dX6_readBare_1 (by decide +kernel) ?_
  refine z_icmp_ne 17 O dX6_readBare_3 (by decide) ⟨by omega, by omega⟩ ⟨by omega, by omega⟩ (fun c_3 => ?_) (fun c_3 => ?_)
  · skip
    refine z_iload_n 1 O dX6_readBare_17 rfl ?_
    refine z_bipush 112 O dX6_readBare_18 (by decide +kernel) ?_
    refine z_icmp_ne 34 O dX6_readBare_20 (by decide) ⟨by omega, by omega⟩ ⟨by omega, by omega⟩ (fun c_20 => ?_) (fun c_20 => ?_)
    · skip
      refine z_iload_n 1 O dX6_readBare_34 rfl ?_
      refine z_bipush 100 O dX6_readBare_35 (by decide +kernel) ?_
      refine z_icmp_ne 51 O dX6_readBare_37 (by decide) ⟨by omega, by omega⟩ ⟨by omega, by omega⟩ (fun c_37 => ?_) (fun c_37 => ?_)
      · skip
        refine z_aload_n 0 O dX6_readBare_51 rfl ?_
        refine z_getf kF_X6_13 O dX6_readBare_52 hO.1 rfl ?_
        refine z_iload_n 2 O dX6_readBare_55 rfl ?_
        refine z_Si [.ref (Q 2), .int (iI w)] [] kM_X6_69 O dX6_readBare_56 (c_X6_many hst hR hw) rfl rfl (by decide) (Nat.le_of_ble_eq_true rfl) (by omega) (by omega) (Nat.le_of_ble_eq_true rfl) zNx ?_
        refine z_if_le 66 O dX6_readBare_59 (by decide) ⟨by omega, by omega⟩ (fun c_59 => ?_) (fun c_59 => ?_)
        · skip
          refine z_iconst 0 O dX6_readBare_66 (by decide +kernel) ?_
          refine z_istore_n [(3, .int (iI 0)), (0, .ref q), (1, .int (iI k)), (2, .int (iI w))] O dX6_readBare_67 (by decide) rfl ?_
          refine z_aload_n 1 O dX6_readBare_68 rfl ?_
          refine z_iload_n 0 O dX6_readBare_69 rfl ?_
          have eb : tBaD R k w = false := by unfold tBaD; (repeat first | rw [if_pos (by omega)] | rw [if_neg (by omega)]); exact decide_eq_false (by omega)
          refine z_Vvm [.int (iI 0)] [] kM_X6_149 O dX6_readBare_70 (c_X6_doIt hst (b := false) hO) rfl rfl hO.1 (by decide) (Nat.le_of_ble_eq_true rfl) (by omega) (by omega) (Nat.le_of_ble_eq_true rfl) zNx (fun H1 hp2 hz3 => ?_)
          obtain ⟨hf4, ho5⟩ := hp2
          have hT6 := hT.fr hf4 (zT1 (by omega))
          have hR7 := hR.fr hf4 (zT1 (by omega))
          refine z_aload_n 1 O dX6_readBare_73 rfl ?_
          refine z_getf kF_X6_125 O dX6_readBare_74 ho5.1 rfl ?_
          refine z_ifb_eq 84 O dX6_readBare_77 (by decide) (fun c_77 => ?_) (fun c_77 => ?_)
          · skip
            exact z_iretv O dX6_readBare_84 rfl (by omega) (by omega) hpo (⟨(hf4.up (fun s h => by first | exact h.elim | omega | (simp at h ⊢; omega))), (by unfold tBa tEx; rw [eb]; exact ho5), (by unfold tBa tEx; rw [eb]; show zA (zEn x) _ r _ _ _ (if _ then _ else _); rw [if_neg (by rw [c_77, Bool.false_and]; decide)]; exact hR7)⟩)
          · skip
            refine z_iload_n 0 O dX6_readBare_80 rfl ?_
            refine z_if_ne 85 O dX6_readBare_81 (by decide) ⟨by omega, by omega⟩ (fun c_81 => ?_) (fun c_81 => ?_)
            · exfalso; omega
            · skip
              exact z_iretv O dX6_readBare_84 rfl (by omega) (by omega) hpo (⟨(hf4.up (fun s h => by first | exact h.elim | omega | (simp at h ⊢; omega))), (by unfold tBa tEx; rw [eb]; exact ho5), (by unfold tBa tEx; rw [eb]; show zA (zEn x) _ r _ _ _ (if _ then _ else _); rw [if_neg (by rw [c_77]; decide)]; exact hR7)⟩)
        · skip
          refine z_iconst 1 O dX6_readBare_62 (by decide +kernel) ?_
          refine z_goto 67 O dX6_readBare_63 (by decide) ?_
          refine z_istore_n [(3, .int (iI 1)), (0, .ref q), (1, .int (iI k)), (2, .int (iI w))] O dX6_readBare_67 (by decide) rfl ?_
          refine z_aload_n 1 O dX6_readBare_68 rfl ?_
          refine z_iload_n 0 O dX6_readBare_69 rfl ?_
          have eb : tBaD R k w = true := by unfold tBaD; (repeat first | rw [if_pos (by omega)] | rw [if_neg (by omega)]); exact decide_eq_true (by omega)
          refine z_Vvm [.int (iI 1)] [] kM_X6_149 O dX6_readBare_70 (c_X6_doIt hst (b := true) hO) rfl rfl hO.1 (by decide) (Nat.le_of_ble_eq_true rfl) (by omega) (by omega) (Nat.le_of_ble_eq_true rfl) zNx (fun H8 hp9 hz10 => ?_)
          obtain ⟨hf11, ho12⟩ := hp9
          have hT13 := hT.fr hf11 (zT1 (by omega))
          have hR14 := hR.fr hf11 (zT1 (by omega))
          refine z_aload_n 1 O dX6_readBare_73 rfl ?_
          refine z_getf kF_X6_125 O dX6_readBare_74 ho12.1 rfl ?_
          refine z_ifb_eq 84 O dX6_readBare_77 (by decide) (fun c_77 => ?_) (fun c_77 => ?_)
          · skip
            exact z_iretv O dX6_readBare_84 rfl (by omega) (by omega) hpo (⟨(hf11.up (fun s h => by first | exact h.elim | omega | (simp at h ⊢; omega))), (by unfold tBa tEx; rw [eb]; exact ho12), (by unfold tBa tEx; rw [eb]; show zA (zEn x) _ r _ _ _ (if _ then _ else _); rw [if_neg (by rw [c_77, Bool.false_and]; decide)]; exact hR14)⟩)
          · skip
            refine z_iload_n 0 O dX6_readBare_80 rfl ?_
            refine z_if_ne 85 O dX6_readBare_81 (by decide) ⟨by omega, by omega⟩ (fun c_81 => ?_) (fun c_81 => ?_)
            · skip
              refine z_iload_n 2 O dX6_readBare_85 rfl ?_
              refine z_bipush 98 O dX6_readBare_86 (by decide +kernel) ?_
              refine z_icmp_ne 102 O dX6_readBare_88 (by decide) ⟨by omega, by omega⟩ ⟨by omega, by omega⟩ (fun c_88 => ?_) (fun c_88 => ?_)
              · skip
                refine z_iload_n 2 O dX6_readBare_102 rfl ?_
                refine z_bipush 112 O dX6_readBare_103 (by decide +kernel) ?_
                refine z_icmp_ne 120 O dX6_readBare_105 (by decide) ⟨by omega, by omega⟩ ⟨by omega, by omega⟩ (fun c_105 => ?_) (fun c_105 => ?_)
                · skip
                  refine z_iload_n 2 O dX6_readBare_120 rfl ?_
                  refine z_bipush 100 O dX6_readBare_121 (by decide +kernel) ?_
                  refine z_icmp_ne 138 O dX6_readBare_123 (by decide) ⟨by omega, by omega⟩ ⟨by omega, by omega⟩ (fun c_123 => ?_) (fun c_123 => ?_)
                  · skip
                    refine z_aload_n 1 O dX6_readBare_138 rfl ?_
                    refine z_getf kF_X6_13 O dX6_readBare_139 ho12.1 rfl ?_
                    refine z_iload_n 3 O dX6_readBare_142 rfl ?_
                    refine z_Sim [.ref (Q 2), .int (iI w)] [] kM_X6_184 O dX6_readBare_143 (c_X6_failIn hst hR14 hG hw (by omega)) rfl rfl (by decide) (Nat.le_of_ble_eq_true rfl) (by omega) (by omega) (Nat.le_of_ble_eq_true rfl) zNx (fun H15 hp16 hz17 => ?_)
                    obtain ⟨hf18, ha19⟩ := hp16
                    have ho20 := ho12.fr hf18 (zT1 (by omega))
                    have hT21 := hT13.fr hf18 (zT1 (by omega))
                    refine z_pop O dX6_readBare_146 rfl ?_
                    exact z_iretv O dX6_readBare_147 rfl (by omega) (by omega) hpo (⟨(((hf11.up (fun s h => by first | exact h.elim | omega | (simp at h ⊢; omega)))).tr (hf18.up (fun s h => by first | exact h.elim | omega | (simp at h ⊢; omega)))), (by unfold tBa tEx; rw [eb]; exact ho20), (by unfold tBa tEx; rw [eb]; show zA (zEn x) _ r _ _ _ (if _ then _ else _); rw [if_pos (by rw [c_77]; rfl)]; unfold tBaR; (repeat first | rw [if_pos (by omega)] | rw [if_neg (by omega)]); exact ha19)⟩)
                  · exfalso; omega
                · exfalso; omega
              · exfalso; omega
            · exfalso; omega
      · skip
        refine z_aload_n 0 O dX6_readBare_40 rfl ?_
        refine z_getf kF_X6_13 O dX6_readBare_41 hO.1 rfl ?_
        refine z_iload_n 2 O dX6_readBare_44 rfl ?_
        refine z_Si [.ref (Q 2), .int (iI w)] [] kM_X6_89 O dX6_readBare_45 (c_X6_isOpen hst hR hG hw) rfl rfl (by decide) (Nat.le_of_ble_eq_true rfl) (by omega) (by omega) (Nat.le_of_ble_eq_true rfl) zNx ?_
        refine z_goto 67 O dX6_readBare_48 (by decide) ?_
        refine z_istore_n [(3, .int (iI (zb (sOp R w)))), (0, .ref q), (1, .int (iI k)), (2, .int (iI w))] O dX6_readBare_67 (by decide) rfl ?_
        refine z_aload_n 1 O dX6_readBare_68 rfl ?_
        refine z_iload_n 0 O dX6_readBare_69 rfl ?_
        have eb : tBaD R k w = (sOp R w) := by unfold tBaD; (repeat first | rw [if_pos (by omega)] | rw [if_neg (by omega)])
        refine z_Vvm [.int (iI (zb (sOp R w)))] [] kM_X6_149 O dX6_readBare_70 (c_X6_doIt hst (b := (sOp R w)) hO) rfl rfl hO.1 (by decide) (Nat.le_of_ble_eq_true rfl) (by omega) (by omega) (Nat.le_of_ble_eq_true rfl) zNx (fun H22 hp23 hz24 => ?_)
        obtain ⟨hf25, ho26⟩ := hp23
        have hT27 := hT.fr hf25 (zT1 (by omega))
        have hR28 := hR.fr hf25 (zT1 (by omega))
        refine z_aload_n 1 O dX6_readBare_73 rfl ?_
        refine z_getf kF_X6_125 O dX6_readBare_74 ho26.1 rfl ?_
        refine z_ifb_eq 84 O dX6_readBare_77 (by decide) (fun c_77 => ?_) (fun c_77 => ?_)
        · skip
          exact z_iretv O dX6_readBare_84 rfl (by omega) (by omega) hpo (⟨(hf25.up (fun s h => by first | exact h.elim | omega | (simp at h ⊢; omega))), (by unfold tBa tEx; rw [eb]; exact ho26), (by unfold tBa tEx; rw [eb]; show zA (zEn x) _ r _ _ _ (if _ then _ else _); rw [if_neg (by rw [c_77, Bool.false_and]; decide)]; exact hR28)⟩)
        · skip
          refine z_iload_n 0 O dX6_readBare_80 rfl ?_
          refine z_ifb_ne 85 O dX6_readBare_81 (by decide) (fun c_81 => ?_) (fun c_81 => ?_)
          · skip
            have k_81 := sOp_t.mp c_81
            refine z_iload_n 2 O dX6_readBare_85 rfl ?_
            refine z_bipush 98 O dX6_readBare_86 (by decide +kernel) ?_
            refine z_icmp_ne 102 O dX6_readBare_88 (by decide) ⟨by omega, by omega⟩ ⟨by omega, by omega⟩ (fun c_88 => ?_) (fun c_88 => ?_)
            · skip
              refine z_iload_n 2 O dX6_readBare_102 rfl ?_
              refine z_bipush 112 O dX6_readBare_103 (by decide +kernel) ?_
              refine z_icmp_ne 120 O dX6_readBare_105 (by decide) ⟨by omega, by omega⟩ ⟨by omega, by omega⟩ (fun c_105 => ?_) (fun c_105 => ?_)
              · skip
                refine z_iload_n 2 O dX6_readBare_120 rfl ?_
                refine z_bipush 100 O dX6_readBare_121 (by decide +kernel) ?_
                refine z_icmp_ne 138 O dX6_readBare_123 (by decide) ⟨by omega, by omega⟩ ⟨by omega, by omega⟩ (fun c_123 => ?_) (fun c_123 => ?_)
                · exfalso; omega
                · skip
                  refine z_aload_n 1 O dX6_readBare_126 rfl ?_
                  refine z_getf kF_X6_13 O dX6_readBare_127 ho26.1 rfl ?_
                  refine z_iload_n 3 O dX6_readBare_130 rfl ?_
                  refine z_Sim [.ref (Q 2), .int (iI w)] [] kM_X6_181 O dX6_readBare_131 (c_X6_doneIn hst hR28 hw (fun c h0 h1 => hG.2.2.1 c h0 h1) ⟨by omega, by omega⟩) rfl rfl (by decide) (Nat.le_of_ble_eq_true rfl) (by omega) (by omega) (Nat.le_of_ble_eq_true rfl) zNx (fun H29 hp30 hz31 => ?_)
                  obtain ⟨hf32, ha33⟩ := hp30
                  have ho34 := ho26.fr hf32 (zT1 (by omega))
                  have hT35 := hT27.fr hf32 (zT1 (by omega))
                  refine z_pop O dX6_readBare_134 rfl ?_
                  refine z_goto 147 O dX6_readBare_135 (by decide) ?_
                  exact z_iretv O dX6_readBare_147 rfl (by omega) (by omega) hpo (⟨(((hf25.up (fun s h => by first | exact h.elim | omega | (simp at h ⊢; omega)))).tr (hf32.up (fun s h => by first | exact h.elim | omega | (simp at h ⊢; omega)))), (by unfold tBa tEx; rw [eb]; exact ho34), (by unfold tBa tEx; rw [eb]; show zA (zEn x) _ r _ _ _ (if _ then _ else _); rw [if_pos (by rw [c_77, c_81]; rfl)]; unfold tBaR; (repeat first | rw [if_pos (by omega)] | rw [if_neg (by omega)]); exact ha33)⟩)
              · exfalso; omega
            · exfalso; omega
          · skip
            have k_81 := sOp_f.mp c_81
            exact z_iretv O dX6_readBare_84 rfl (by omega) (by omega) hpo (⟨(hf25.up (fun s h => by first | exact h.elim | omega | (simp at h ⊢; omega))), (by unfold tBa tEx; rw [eb]; exact ho26), (by unfold tBa tEx; rw [eb]; show zA (zEn x) _ r _ _ _ (if _ then _ else _); rw [if_neg (by rw [c_77, c_81]; decide)]; exact hR28)⟩)
    · skip
      refine z_aload_n 0 O dX6_readBare_23 rfl ?_
      refine z_getf kF_X6_13 O dX6_readBare_24 hO.1 rfl ?_
      refine z_iload_n 2 O dX6_readBare_27 rfl ?_
      refine z_Si [.ref (Q 2), .int (iI w)] [] kM_X6_172 O dX6_readBare_28 (c_X6_canPoint hst hR hG hw) rfl rfl (by decide) (Nat.le_of_ble_eq_true rfl) (by omega) (by omega) (Nat.le_of_ble_eq_true rfl) zNx ?_
      refine z_goto 67 O dX6_readBare_31 (by decide) ?_
      refine z_istore_n [(3, .int (iI (zb (sCp R w)))), (0, .ref q), (1, .int (iI k)), (2, .int (iI w))] O dX6_readBare_67 (by decide) rfl ?_
      refine z_aload_n 1 O dX6_readBare_68 rfl ?_
      refine z_iload_n 0 O dX6_readBare_69 rfl ?_
      have eb : tBaD R k w = (sCp R w) := by unfold tBaD; (repeat first | rw [if_pos (by omega)] | rw [if_neg (by omega)])
      refine z_Vvm [.int (iI (zb (sCp R w)))] [] kM_X6_149 O dX6_readBare_70 (c_X6_doIt hst (b := (sCp R w)) hO) rfl rfl hO.1 (by decide) (Nat.le_of_ble_eq_true rfl) (by omega) (by omega) (Nat.le_of_ble_eq_true rfl) zNx (fun H36 hp37 hz38 => ?_)
      obtain ⟨hf39, ho40⟩ := hp37
      have hT41 := hT.fr hf39 (zT1 (by omega))
      have hR42 := hR.fr hf39 (zT1 (by omega))
      refine z_aload_n 1 O dX6_readBare_73 rfl ?_
      refine z_getf kF_X6_125 O dX6_readBare_74 ho40.1 rfl ?_
      refine z_ifb_eq 84 O dX6_readBare_77 (by decide) (fun c_77 => ?_) (fun c_77 => ?_)
      · skip
        exact z_iretv O dX6_readBare_84 rfl (by omega) (by omega) hpo (⟨(hf39.up (fun s h => by first | exact h.elim | omega | (simp at h ⊢; omega))), (by unfold tBa tEx; rw [eb]; exact ho40), (by unfold tBa tEx; rw [eb]; show zA (zEn x) _ r _ _ _ (if _ then _ else _); rw [if_neg (by rw [c_77, Bool.false_and]; decide)]; exact hR42)⟩)
      · skip
        refine z_iload_n 0 O dX6_readBare_80 rfl ?_
        refine z_ifb_ne 85 O dX6_readBare_81 (by decide) (fun c_81 => ?_) (fun c_81 => ?_)
        · skip
          have k_81 := sCp_t.mp c_81
          refine z_iload_n 2 O dX6_readBare_85 rfl ?_
          refine z_bipush 98 O dX6_readBare_86 (by decide +kernel) ?_
          refine z_icmp_ne 102 O dX6_readBare_88 (by decide) ⟨by omega, by omega⟩ ⟨by omega, by omega⟩ (fun c_88 => ?_) (fun c_88 => ?_)
          · skip
            refine z_iload_n 2 O dX6_readBare_102 rfl ?_
            refine z_bipush 112 O dX6_readBare_103 (by decide +kernel) ?_
            refine z_icmp_ne 120 O dX6_readBare_105 (by decide) ⟨by omega, by omega⟩ ⟨by omega, by omega⟩ (fun c_105 => ?_) (fun c_105 => ?_)
            · exfalso; omega
            · skip
              refine z_aload_n 1 O dX6_readBare_108 rfl ?_
              refine z_getf kF_X6_13 O dX6_readBare_109 ho40.1 rfl ?_
              refine z_iload_n 3 O dX6_readBare_112 rfl ?_
              refine z_Sim [.ref (Q 2), .int (iI w)] [] kM_X6_178 O dX6_readBare_113 (c_X6_pointIn hst hR42 hG hw (by omega) (by omega)) rfl rfl (by decide) (Nat.le_of_ble_eq_true rfl) (by omega) (by omega) (Nat.le_of_ble_eq_true rfl) zNx (fun H43 hp44 hz45 => ?_)
              obtain ⟨hf46, ha47⟩ := hp44
              have ho48 := ho40.fr hf46 (zT1 (by omega))
              have hT49 := hT41.fr hf46 (zT1 (by omega))
              refine z_pop O dX6_readBare_116 rfl ?_
              refine z_goto 147 O dX6_readBare_117 (by decide) ?_
              exact z_iretv O dX6_readBare_147 rfl (by omega) (by omega) hpo (⟨(((hf39.up (fun s h => by first | exact h.elim | omega | (simp at h ⊢; omega)))).tr (hf46.up (fun s h => by first | exact h.elim | omega | (simp at h ⊢; omega)))), (by unfold tBa tEx; rw [eb]; exact ho48), (by unfold tBa tEx; rw [eb]; show zA (zEn x) _ r _ _ _ (if _ then _ else _); rw [if_pos (by rw [c_77, c_81]; rfl)]; unfold tBaR; (repeat first | rw [if_pos (by omega)] | rw [if_neg (by omega)]); exact ha47)⟩)
          · exfalso; omega
        · skip
          have k_81 := sCp_f.mp c_81
          exact z_iretv O dX6_readBare_84 rfl (by omega) (by omega) hpo (⟨(hf39.up (fun s h => by first | exact h.elim | omega | (simp at h ⊢; omega))), (by unfold tBa tEx; rw [eb]; exact ho40), (by unfold tBa tEx; rw [eb]; show zA (zEn x) _ r _ _ _ (if _ then _ else _); rw [if_neg (by rw [c_77, c_81]; decide)]; exact hR42)⟩)
  · skip
    refine z_aload_n 0 O dX6_readBare_6 rfl ?_
    refine z_getf kF_X6_13 O dX6_readBare_7 hO.1 rfl ?_
    refine z_iload_n 2 O dX6_readBare_10 rfl ?_
    refine z_Si [.ref (Q 2), .int (iI w)] [] kM_X6_169 O dX6_readBare_11 (c_X6_canBegin hst hR hG hw) rfl rfl (by decide) (Nat.le_of_ble_eq_true rfl) (by omega) (by omega) (Nat.le_of_ble_eq_true rfl) zNx ?_
    refine z_goto 67 O dX6_readBare_14 (by decide) ?_
    refine z_istore_n [(3, .int (iI (zb (sCb R w)))), (0, .ref q), (1, .int (iI k)), (2, .int (iI w))] O dX6_readBare_67 (by decide) rfl ?_
    refine z_aload_n 1 O dX6_readBare_68 rfl ?_
    refine z_iload_n 0 O dX6_readBare_69 rfl ?_
    have eb : tBaD R k w = (sCb R w) := by unfold tBaD; (repeat first | rw [if_pos (by omega)] | rw [if_neg (by omega)])
    refine z_Vvm [.int (iI (zb (sCb R w)))] [] kM_X6_149 O dX6_readBare_70 (c_X6_doIt hst (b := (sCb R w)) hO) rfl rfl hO.1 (by decide) (Nat.le_of_ble_eq_true rfl) (by omega) (by omega) (Nat.le_of_ble_eq_true rfl) zNx (fun H50 hp51 hz52 => ?_)
    obtain ⟨hf53, ho54⟩ := hp51
    have hT55 := hT.fr hf53 (zT1 (by omega))
    have hR56 := hR.fr hf53 (zT1 (by omega))
    refine z_aload_n 1 O dX6_readBare_73 rfl ?_
    refine z_getf kF_X6_125 O dX6_readBare_74 ho54.1 rfl ?_
    refine z_ifb_eq 84 O dX6_readBare_77 (by decide) (fun c_77 => ?_) (fun c_77 => ?_)
    · skip
      exact z_iretv O dX6_readBare_84 rfl (by omega) (by omega) hpo (⟨(hf53.up (fun s h => by first | exact h.elim | omega | (simp at h ⊢; omega))), (by unfold tBa tEx; rw [eb]; exact ho54), (by unfold tBa tEx; rw [eb]; show zA (zEn x) _ r _ _ _ (if _ then _ else _); rw [if_neg (by rw [c_77, Bool.false_and]; decide)]; exact hR56)⟩)
    · skip
      refine z_iload_n 0 O dX6_readBare_80 rfl ?_
      refine z_ifb_ne 85 O dX6_readBare_81 (by decide) (fun c_81 => ?_) (fun c_81 => ?_)
      · skip
        have k_81 := sCb_t.mp c_81
        refine z_iload_n 2 O dX6_readBare_85 rfl ?_
        refine z_bipush 98 O dX6_readBare_86 (by decide +kernel) ?_
        refine z_icmp_ne 102 O dX6_readBare_88 (by decide) ⟨by omega, by omega⟩ ⟨by omega, by omega⟩ (fun c_88 => ?_) (fun c_88 => ?_)
        · exfalso; omega
        · skip
          refine z_aload_n 1 O dX6_readBare_91 rfl ?_
          refine z_getf kF_X6_13 O dX6_readBare_92 ho54.1 rfl ?_
          refine z_iload_n 3 O dX6_readBare_95 rfl ?_
          refine z_Svm [.ref (Q 2), .int (iI w)] [] kM_X6_175 O dX6_readBare_96 (c_X6_beginIn hst hR56 hw ⟨by omega, by omega⟩) rfl rfl (by decide) (Nat.le_of_ble_eq_true rfl) (by omega) (by omega) (Nat.le_of_ble_eq_true rfl) zNx (fun H57 hp58 hz59 => ?_)
          obtain ⟨hf60, ha61⟩ := hp58
          have ho62 := ho54.fr hf60 (zT1 (by omega))
          have hT63 := hT55.fr hf60 (zT1 (by omega))
          refine z_goto 147 O dX6_readBare_99 (by decide) ?_
          exact z_iretv O dX6_readBare_147 rfl (by omega) (by omega) hpo (⟨(((hf53.up (fun s h => by first | exact h.elim | omega | (simp at h ⊢; omega)))).tr (hf60.up (fun s h => by first | exact h.elim | omega | (simp at h ⊢; omega)))), (by unfold tBa tEx; rw [eb]; exact ho62), (by unfold tBa tEx; rw [eb]; show zA (zEn x) _ r _ _ _ (if _ then _ else _); rw [if_pos (by rw [c_77, c_81]; rfl)]; unfold tBaR; (repeat first | rw [if_pos (by omega)] | rw [if_neg (by omega)]); exact ha61)⟩)
      · skip
        have k_81 := sCb_f.mp c_81
        exact z_iretv O dX6_readBare_84 rfl (by omega) (by omega) hpo (⟨(hf53.up (fun s h => by first | exact h.elim | omega | (simp at h ⊢; omega))), (by unfold tBa tEx; rw [eb]; exact ho54), (by unfold tBa tEx; rw [eb]; show zA (zEn x) _ r _ _ _ (if _ then _ else _); rw [if_neg (by rw [c_77, c_81]; decide)]; exact hR56)⟩)
