/-! the reference: its operations (written by program: wip/whole/gen/model5.py) -/
theorem c_X6_begin {E : zE} (hst : E.1.stackTraces = false) {H : Heap} {r : zH} {q : Nat} {Q : Nat → Nat} {n : Int} {tx G : Int → Int} {fi ac : Int} {dd : Nat → Int → Int} {kp ik : Int → Int} {rf N : Int} {w : Int} (hM : zMs E H r q Q n tx G fi ac dd kp ik rf) (hOK : mOK n tx G fi ac ik N) (hw : zR w) : zC E yX6_begin cX6_begin 3 (some .int) 5 107 [.ref q, .int (iI w)] H 0 0 (zRi (if (cBe G w) = 0 then (sBegin G w (at_ w 0)) else 0) (fun H1 => zFr H r H1 r (fun s => 100000 ≤ s) ∧ (((cBe G w) ≠ 0 ∧ zMs E H1 r q Q n tx G fi ac dd kp ik (cBe G w)) ∨ ((cBe G w) = 0 ∧ zMs E H1 r q Q n tx (sBegin G w) (mFi fi ac) (mAc ac) (zDw dd (mIx fi ac) G) kp ik 0)))) zN := by
  refine zC.of (by decide) (Nat.le_of_ble_eq_true rfl) hst ?_
  intro x O hE hpo hpx
  subst hE
  change zG x H 0 0 0 [(0, .ref q), (1, .int (iI w))] []
  obtain ⟨sp, gd, lo, rd, tr, hO, hT, hR, hA, hY, hD, hK, hI⟩ := hM
  obtain ⟨hn, hx, hG, hN, hfi, hac, hik⟩ := hOK
  refine z_iload_n 1 O dX6_begin_0 rfl ?_
  refine z_Si [.int (iI w)] [] kM_X6_232 O dX6_begin_1 (c_X6_isWorker hst ⟨by omega, by omega⟩) rfl rfl (by decide) (Nat.le_of_ble_eq_true rfl) (by omega) (by omega) (Nat.le_of_ble_eq_true rfl) zNx ?_
  refine z_istore_n [(2, .int (iI (zb (sBt w 0 2)))), (0, .ref q), (1, .int (iI w))] O dX6_begin_4 (by decide) rfl ?_
  refine z_aload_n 1 O dX6_begin_5 rfl ?_
  refine z_iload_n 0 O dX6_begin_6 rfl ?_
  refine z_ifb_ne 14 O dX6_begin_7 (by decide) (fun c_7 => ?_) (fun c_7 => ?_)
  · skip
    have k_7 := sBt_t.mp c_7
    refine z_aload_n 1 O dX6_begin_14 rfl ?_
    refine z_getf kF_X6_16 O dX6_begin_15 hO.1 rfl ?_
    refine z_iload_n 2 O dX6_begin_18 rfl ?_
    refine z_Si [.ref (Q 3), .int (iI w)] [.ref q] kM_X6_169 O dX6_begin_19 (c_X6_canBegin hst hA hG ⟨by omega, by omega⟩) rfl rfl (by decide) (Nat.le_of_ble_eq_true rfl) (by omega) (by omega) (Nat.le_of_ble_eq_true rfl) zNx ?_
    refine z_ifb_eq 29 O dX6_begin_22 (by decide) (fun c_22 => ?_) (fun c_22 => ?_)
    · skip
      have k_22 := sCb_f.mp c_22
      refine z_iconst 2 O dX6_begin_29 (by decide +kernel) ?_
      refine z_Vim [.int (iI 2)] [] kM_X6_118 O dX6_begin_30 (c_X6_refused hst hO ⟨by omega, by omega⟩) rfl rfl hO.1 (by decide) (Nat.le_of_ble_eq_true rfl) (by omega) (by omega) (Nat.le_of_ble_eq_true rfl) zNx (fun H1 hp2 hz3 => ?_)
      obtain ⟨hf4, hz5⟩ := hp2
      have hT6 := hT.fr hf4 (by first | exact zT1 (by omega) | (show ¬ (_ ∨ _); omega) | (show ¬ (_ ∧ _); omega))
      have hR7 := hR.fr hf4 (by first | exact zT1 (by omega) | (show ¬ (_ ∨ _); omega) | (show ¬ (_ ∧ _); omega))
      have hA8 := hA.fr hf4 (by first | exact zT1 (by omega) | (show ¬ (_ ∨ _); omega) | (show ¬ (_ ∧ _); omega))
      have hY9 := hY.fr hf4 (by first | exact zT1 (by omega) | (show ¬ (_ ∨ _); omega) | (show ¬ (_ ∧ _); omega))
      have hD10 := hD.fr hf4 (by first | exact zT1 (by omega) | (show ¬ (_ ∨ _); omega) | (show ¬ (_ ∧ _); omega)) (by first | exact zT1 (by omega) | (show ¬ (_ ∨ _); omega) | (show ¬ (_ ∧ _); omega)) (by first | exact zT1 (by omega) | (show ¬ (_ ∨ _); omega) | (show ¬ (_ ∧ _); omega)) (by first | exact zT1 (by omega) | (show ¬ (_ ∨ _); omega) | (show ¬ (_ ∧ _); omega))
      have hK11 := hK.fr hf4 (by first | exact zT1 (by omega) | (show ¬ (_ ∨ _); omega) | (show ¬ (_ ∧ _); omega))
      have hI12 := hI.fr hf4 (by first | exact zT1 (by omega) | (show ¬ (_ ∨ _); omega) | (show ¬ (_ ∧ _); omega))
      rw [show zb (decide ((0 : Int) < 2)) = 1 from rfl]
      refine z_if_eq 38 O dX6_begin_33 (by decide) ⟨by omega, by omega⟩ (fun c_33 => ?_) (fun c_33 => ?_)
      · exfalso; omega
      · skip
        refine z_iconst 0 O dX6_begin_36 (by decide +kernel) ?_
        exact z_ireti O dX6_begin_37 rfl (by omega) (by omega) hpo (by rw [if_neg (by rw [show (cBe G w) = 2 from by unfold cBe; (repeat first | rw [if_pos (by omega)] | rw [if_neg (by omega)] | rw [if_pos c_7] | rw [if_neg (by rw [c_22]; decide)])]; decide)]) (⟨(hf4.up (fun s h => by first | exact h.elim | omega | (simp at h ⊢; omega))), Or.inl ⟨(by rw [show (cBe G w) = 2 from by unfold cBe; (repeat first | rw [if_pos (by omega)] | rw [if_neg (by omega)] | rw [if_pos c_7] | rw [if_neg (by rw [c_22]; decide)])]; decide), (by rw [show (cBe G w) = 2 from by unfold cBe; (repeat first | rw [if_pos (by omega)] | rw [if_neg (by omega)] | rw [if_pos c_7] | rw [if_neg (by rw [c_22]; decide)])]; exact ⟨_, _, _, _, _, hz5, hT6, hR7, hA8, hY9, hD10, hK11, hI12⟩)⟩⟩)
    · skip
      have k_22 := sCb_t.mp c_22
      refine z_iconst 0 O dX6_begin_25 (by decide +kernel) ?_
      refine z_goto 30 O dX6_begin_26 (by decide) ?_
      refine z_Vim [.int (iI 0)] [] kM_X6_118 O dX6_begin_30 (c_X6_refused hst hO ⟨by omega, by omega⟩) rfl rfl hO.1 (by decide) (Nat.le_of_ble_eq_true rfl) (by omega) (by omega) (Nat.le_of_ble_eq_true rfl) zNx (fun H13 hp14 hz15 => ?_)
      obtain ⟨hf16, hz17⟩ := hp14
      have hT18 := hT.fr hf16 (by first | exact zT1 (by omega) | (show ¬ (_ ∨ _); omega) | (show ¬ (_ ∧ _); omega))
      have hR19 := hR.fr hf16 (by first | exact zT1 (by omega) | (show ¬ (_ ∨ _); omega) | (show ¬ (_ ∧ _); omega))
      have hA20 := hA.fr hf16 (by first | exact zT1 (by omega) | (show ¬ (_ ∨ _); omega) | (show ¬ (_ ∧ _); omega))
      have hY21 := hY.fr hf16 (by first | exact zT1 (by omega) | (show ¬ (_ ∨ _); omega) | (show ¬ (_ ∧ _); omega))
      have hD22 := hD.fr hf16 (by first | exact zT1 (by omega) | (show ¬ (_ ∨ _); omega) | (show ¬ (_ ∧ _); omega)) (by first | exact zT1 (by omega) | (show ¬ (_ ∨ _); omega) | (show ¬ (_ ∧ _); omega)) (by first | exact zT1 (by omega) | (show ¬ (_ ∨ _); omega) | (show ¬ (_ ∧ _); omega)) (by first | exact zT1 (by omega) | (show ¬ (_ ∨ _); omega) | (show ¬ (_ ∧ _); omega))
      have hK23 := hK.fr hf16 (by first | exact zT1 (by omega) | (show ¬ (_ ∨ _); omega) | (show ¬ (_ ∧ _); omega))
      have hI24 := hI.fr hf16 (by first | exact zT1 (by omega) | (show ¬ (_ ∨ _); omega) | (show ¬ (_ ∧ _); omega))
      rw [show zb (decide ((0 : Int) < 0)) = 0 from rfl]
      refine z_if_eq 38 O dX6_begin_33 (by decide) ⟨by omega, by omega⟩ (fun c_33 => ?_) (fun c_33 => ?_)
      · skip
        have hm := hG.m (w := w) ⟨by omega, by omega⟩
        have hl := hG.l (w := w) ⟨by omega, by omega⟩
        refine z_aload_n 1 O dX6_begin_38 rfl ?_
        refine z_Vvm [] [] kM_X6_239 O dX6_begin_39 (c_X6_remember hst hz17 hA20 hD22 hfi hac) rfl rfl hz17.1 (by decide) (Nat.le_of_ble_eq_true rfl) (by omega) (by omega) (Nat.le_of_ble_eq_true rfl) zNx (fun H25 hp26 hz27 => ?_)
        obtain ⟨hf28, hz29, hz30⟩ := hp26
        have hT31 := hT18.fr hf28 (by first | exact zT1 (by omega) | (show ¬ (_ ∨ _); omega) | (show ¬ (_ ∧ _); omega))
        have hR32 := hR19.fr hf28 (by first | exact zT1 (by omega) | (show ¬ (_ ∨ _); omega) | (show ¬ (_ ∧ _); omega))
        have hA33 := hA20.fr hf28 (by first | exact zT1 (by omega) | (show ¬ (_ ∨ _); omega) | (show ¬ (_ ∧ _); omega))
        have hY34 := hY21.fr hf28 (by first | exact zT1 (by omega) | (show ¬ (_ ∨ _); omega) | (show ¬ (_ ∧ _); omega))
        have hK35 := hK23.fr hf28 (by first | exact zT1 (by omega) | (show ¬ (_ ∨ _); omega) | (show ¬ (_ ∧ _); omega))
        have hI36 := hI24.fr hf28 (by first | exact zT1 (by omega) | (show ¬ (_ ∨ _); omega) | (show ¬ (_ ∧ _); omega))
        refine z_aload_n 1 O dX6_begin_42 rfl ?_
        refine z_getf kF_X6_16 O dX6_begin_43 hz29.1 rfl ?_
        refine z_iload_n 2 O dX6_begin_46 rfl ?_
        refine z_Svm [.ref (Q 3), .int (iI w)] [] kM_X6_175 O dX6_begin_47 (c_X6_beginIn hst hA33 ⟨by omega, by omega⟩ ⟨by omega, by omega⟩) rfl rfl (by decide) (Nat.le_of_ble_eq_true rfl) (by omega) (by omega) (Nat.le_of_ble_eq_true rfl) zNx (fun H37 hp38 hz39 => ?_)
        obtain ⟨hf40, ha41⟩ := hp38
        have hz42 := hz29.fr hf40 (zT1 (by omega))
        have hT43 := hT31.fr hf40 (zT1 (by omega))
        have hR44 := hR32.fr hf40 (zT1 (by omega))
        have hY45 := hY34.fr hf40 (zT1 (by omega))
        have hz46 := hz30.fr hf40 (zT1 (by omega)) (zT1 (by omega)) (zT1 (by omega)) (zT1 (by omega))
        have hK47 := hK35.fr hf40 (zT1 (by omega))
        have hI48 := hI36.fr hf40 (zT1 (by omega))
        refine z_aload_n 1 O dX6_begin_50 rfl ?_
        refine z_getf kF_X6_16 O dX6_begin_51 hz42.1 rfl ?_
        refine z_iload_n 2 O dX6_begin_54 rfl ?_
        refine z_Si [.ref (Q 3), .int (iI w)] [] kM_X6_69 O dX6_begin_55 (c_X6_many hst ha41 ⟨by omega, by omega⟩) rfl rfl (by decide) (Nat.le_of_ble_eq_true rfl) (by omega) (by omega) (Nat.le_of_ble_eq_true rfl) zNx ?_
        exact z_ireti O dX6_begin_58 rfl (by omega) (by omega) hpo (by rw [if_pos (show (cBe G w) = 0 from by unfold cBe; (repeat first | rw [if_pos (by omega)] | rw [if_neg (by omega)] | rw [if_pos c_7] | rw [if_pos c_22]))]) (⟨(((((hf16.up (fun s h => by first | exact h.elim | omega | (simp at h ⊢; omega)))).tr (hf28.up (fun s h => by first | exact h.elim | omega | (simp at h ⊢; omega))))).tr (hf40.up (fun s h => by first | exact h.elim | omega | (simp at h ⊢; omega)))), Or.inr ⟨(show (cBe G w) = 0 from by unfold cBe; (repeat first | rw [if_pos (by omega)] | rw [if_neg (by omega)] | rw [if_pos c_7] | rw [if_pos c_22])), ⟨_, _, _, _, _, hz42, hT43, hR44, ha41, hY45, hz46, hK47, hI48⟩⟩⟩)
      · exfalso; omega
  · skip
    have k_7 := sBt_f.mp c_7
    refine z_iconst 1 O dX6_begin_10 (by decide +kernel) ?_
    refine z_goto 30 O dX6_begin_11 (by decide) ?_
    refine z_Vim [.int (iI 1)] [] kM_X6_118 O dX6_begin_30 (c_X6_refused hst hO ⟨by omega, by omega⟩) rfl rfl hO.1 (by decide) (Nat.le_of_ble_eq_true rfl) (by omega) (by omega) (Nat.le_of_ble_eq_true rfl) zNx (fun H49 hp50 hz51 => ?_)
    obtain ⟨hf52, hz53⟩ := hp50
    have hT54 := hT.fr hf52 (by first | exact zT1 (by omega) | (show ¬ (_ ∨ _); omega) | (show ¬ (_ ∧ _); omega))
    have hR55 := hR.fr hf52 (by first | exact zT1 (by omega) | (show ¬ (_ ∨ _); omega) | (show ¬ (_ ∧ _); omega))
    have hA56 := hA.fr hf52 (by first | exact zT1 (by omega) | (show ¬ (_ ∨ _); omega) | (show ¬ (_ ∧ _); omega))
    have hY57 := hY.fr hf52 (by first | exact zT1 (by omega) | (show ¬ (_ ∨ _); omega) | (show ¬ (_ ∧ _); omega))
    have hD58 := hD.fr hf52 (by first | exact zT1 (by omega) | (show ¬ (_ ∨ _); omega) | (show ¬ (_ ∧ _); omega)) (by first | exact zT1 (by omega) | (show ¬ (_ ∨ _); omega) | (show ¬ (_ ∧ _); omega)) (by first | exact zT1 (by omega) | (show ¬ (_ ∨ _); omega) | (show ¬ (_ ∧ _); omega)) (by first | exact zT1 (by omega) | (show ¬ (_ ∨ _); omega) | (show ¬ (_ ∧ _); omega))
    have hK59 := hK.fr hf52 (by first | exact zT1 (by omega) | (show ¬ (_ ∨ _); omega) | (show ¬ (_ ∧ _); omega))
    have hI60 := hI.fr hf52 (by first | exact zT1 (by omega) | (show ¬ (_ ∨ _); omega) | (show ¬ (_ ∧ _); omega))
    rw [show zb (decide ((0 : Int) < 1)) = 1 from rfl]
    refine z_if_eq 38 O dX6_begin_33 (by decide) ⟨by omega, by omega⟩ (fun c_33 => ?_) (fun c_33 => ?_)
    · exfalso; omega
    · skip
      refine z_iconst 0 O dX6_begin_36 (by decide +kernel) ?_
      exact z_ireti O dX6_begin_37 rfl (by omega) (by omega) hpo (by rw [if_neg (by rw [show (cBe G w) = 1 from by unfold cBe; (repeat first | rw [if_pos (by omega)] | rw [if_neg (by omega)] | rw [if_neg (by rw [c_7]; decide)])]; decide)]) (⟨(hf52.up (fun s h => by first | exact h.elim | omega | (simp at h ⊢; omega))), Or.inl ⟨(by rw [show (cBe G w) = 1 from by unfold cBe; (repeat first | rw [if_pos (by omega)] | rw [if_neg (by omega)] | rw [if_neg (by rw [c_7]; decide)])]; decide), (by rw [show (cBe G w) = 1 from by unfold cBe; (repeat first | rw [if_pos (by omega)] | rw [if_neg (by omega)] | rw [if_neg (by rw [c_7]; decide)])]; exact ⟨_, _, _, _, _, hz53, hT54, hR55, hA56, hY57, hD58, hK59, hI60⟩)⟩⟩)

theorem c_X6_point {E : zE} (hst : E.1.stackTraces = false) {H : Heap} {r : zH} {q : Nat} {Q : Nat → Nat} {n : Int} {tx G : Int → Int} {fi ac : Int} {dd : Nat → Int → Int} {kp ik : Int → Int} {rf N : Int} {w : Int} (hM : zMs E H r q Q n tx G fi ac dd kp ik rf) (hOK : mOK n tx G fi ac ik N) (hw : zR w) : zC E yX6_point cX6_point 3 (some .int) 6 128 [.ref q, .int (iI w)] H 0 0 (zRi (if (cPo G w) = 0 then (G (sIn G w 2)) else 0) (fun H1 => zFr H r H1 r (fun s => 100000 ≤ s) ∧ (((cPo G w) ≠ 0 ∧ zMs E H1 r q Q n tx G fi ac dd kp ik (cPo G w)) ∨ ((cPo G w) = 0 ∧ zMs E H1 r q Q n tx (sPoint G w) (mFi fi ac) (mAc ac) (zDw dd (mIx fi ac) G) kp ik 0)))) zN := by
  refine zC.of (by decide) (Nat.le_of_ble_eq_true rfl) hst ?_
  intro x O hE hpo hpx
  subst hE
  change zG x H 0 0 0 [(0, .ref q), (1, .int (iI w))] []
  obtain ⟨sp, gd, lo, rd, tr, hO, hT, hR, hA, hY, hD, hK, hI⟩ := hM
  obtain ⟨hn, hx, hG, hN, hfi, hac, hik⟩ := hOK
  refine z_iload_n 1 O dX6_point_0 rfl ?_
  refine z_Si [.int (iI w)] [] kM_X6_232 O dX6_point_1 (c_X6_isWorker hst ⟨by omega, by omega⟩) rfl rfl (by decide) (Nat.le_of_ble_eq_true rfl) (by omega) (by omega) (Nat.le_of_ble_eq_true rfl) zNx ?_
  refine z_istore_n [(2, .int (iI (zb (sBt w 0 2)))), (0, .ref q), (1, .int (iI w))] O dX6_point_4 (by decide) rfl ?_
  refine z_aload_n 1 O dX6_point_5 rfl ?_
  refine z_iload_n 0 O dX6_point_6 rfl ?_
  refine z_ifb_ne 14 O dX6_point_7 (by decide) (fun c_7 => ?_) (fun c_7 => ?_)
  · skip
    have k_7 := sBt_t.mp c_7
    refine z_aload_n 1 O dX6_point_14 rfl ?_
    refine z_getf kF_X6_16 O dX6_point_15 hO.1 rfl ?_
    refine z_iload_n 2 O dX6_point_18 rfl ?_
    refine z_Si [.ref (Q 3), .int (iI w)] [.ref q] kM_X6_172 O dX6_point_19 (c_X6_canPoint hst hA hG ⟨by omega, by omega⟩) rfl rfl (by decide) (Nat.le_of_ble_eq_true rfl) (by omega) (by omega) (Nat.le_of_ble_eq_true rfl) zNx ?_
    refine z_ifb_eq 29 O dX6_point_22 (by decide) (fun c_22 => ?_) (fun c_22 => ?_)
    · skip
      have k_22 := sCp_f.mp c_22
      refine z_iconst 2 O dX6_point_29 (by decide +kernel) ?_
      refine z_Vim [.int (iI 2)] [] kM_X6_118 O dX6_point_30 (c_X6_refused hst hO ⟨by omega, by omega⟩) rfl rfl hO.1 (by decide) (Nat.le_of_ble_eq_true rfl) (by omega) (by omega) (Nat.le_of_ble_eq_true rfl) zNx (fun H1 hp2 hz3 => ?_)
      obtain ⟨hf4, hz5⟩ := hp2
      have hT6 := hT.fr hf4 (by first | exact zT1 (by omega) | (show ¬ (_ ∨ _); omega) | (show ¬ (_ ∧ _); omega))
      have hR7 := hR.fr hf4 (by first | exact zT1 (by omega) | (show ¬ (_ ∨ _); omega) | (show ¬ (_ ∧ _); omega))
      have hA8 := hA.fr hf4 (by first | exact zT1 (by omega) | (show ¬ (_ ∨ _); omega) | (show ¬ (_ ∧ _); omega))
      have hY9 := hY.fr hf4 (by first | exact zT1 (by omega) | (show ¬ (_ ∨ _); omega) | (show ¬ (_ ∧ _); omega))
      have hD10 := hD.fr hf4 (by first | exact zT1 (by omega) | (show ¬ (_ ∨ _); omega) | (show ¬ (_ ∧ _); omega)) (by first | exact zT1 (by omega) | (show ¬ (_ ∨ _); omega) | (show ¬ (_ ∧ _); omega)) (by first | exact zT1 (by omega) | (show ¬ (_ ∨ _); omega) | (show ¬ (_ ∧ _); omega)) (by first | exact zT1 (by omega) | (show ¬ (_ ∨ _); omega) | (show ¬ (_ ∧ _); omega))
      have hK11 := hK.fr hf4 (by first | exact zT1 (by omega) | (show ¬ (_ ∨ _); omega) | (show ¬ (_ ∧ _); omega))
      have hI12 := hI.fr hf4 (by first | exact zT1 (by omega) | (show ¬ (_ ∨ _); omega) | (show ¬ (_ ∧ _); omega))
      rw [show zb (decide ((0 : Int) < 2)) = 1 from rfl]
      refine z_if_eq 38 O dX6_point_33 (by decide) ⟨by omega, by omega⟩ (fun c_33 => ?_) (fun c_33 => ?_)
      · exfalso; omega
      · skip
        refine z_iconst 0 O dX6_point_36 (by decide +kernel) ?_
        exact z_ireti O dX6_point_37 rfl (by omega) (by omega) hpo (by rw [if_neg (by rw [show (cPo G w) = 2 from by unfold cPo; (repeat first | rw [if_pos (by omega)] | rw [if_neg (by omega)] | rw [if_pos c_7] | rw [if_neg (by rw [c_22]; decide)])]; decide)]) (⟨(hf4.up (fun s h => by first | exact h.elim | omega | (simp at h ⊢; omega))), Or.inl ⟨(by rw [show (cPo G w) = 2 from by unfold cPo; (repeat first | rw [if_pos (by omega)] | rw [if_neg (by omega)] | rw [if_pos c_7] | rw [if_neg (by rw [c_22]; decide)])]; decide), (by rw [show (cPo G w) = 2 from by unfold cPo; (repeat first | rw [if_pos (by omega)] | rw [if_neg (by omega)] | rw [if_pos c_7] | rw [if_neg (by rw [c_22]; decide)])]; exact ⟨_, _, _, _, _, hz5, hT6, hR7, hA8, hY9, hD10, hK11, hI12⟩)⟩⟩)
    · skip
      have k_22 := sCp_t.mp c_22
      refine z_iconst 0 O dX6_point_25 (by decide +kernel) ?_
      refine z_goto 30 O dX6_point_26 (by decide) ?_
      refine z_Vim [.int (iI 0)] [] kM_X6_118 O dX6_point_30 (c_X6_refused hst hO ⟨by omega, by omega⟩) rfl rfl hO.1 (by decide) (Nat.le_of_ble_eq_true rfl) (by omega) (by omega) (Nat.le_of_ble_eq_true rfl) zNx (fun H13 hp14 hz15 => ?_)
      obtain ⟨hf16, hz17⟩ := hp14
      have hT18 := hT.fr hf16 (by first | exact zT1 (by omega) | (show ¬ (_ ∨ _); omega) | (show ¬ (_ ∧ _); omega))
      have hR19 := hR.fr hf16 (by first | exact zT1 (by omega) | (show ¬ (_ ∨ _); omega) | (show ¬ (_ ∧ _); omega))
      have hA20 := hA.fr hf16 (by first | exact zT1 (by omega) | (show ¬ (_ ∨ _); omega) | (show ¬ (_ ∧ _); omega))
      have hY21 := hY.fr hf16 (by first | exact zT1 (by omega) | (show ¬ (_ ∨ _); omega) | (show ¬ (_ ∧ _); omega))
      have hD22 := hD.fr hf16 (by first | exact zT1 (by omega) | (show ¬ (_ ∨ _); omega) | (show ¬ (_ ∧ _); omega)) (by first | exact zT1 (by omega) | (show ¬ (_ ∨ _); omega) | (show ¬ (_ ∧ _); omega)) (by first | exact zT1 (by omega) | (show ¬ (_ ∨ _); omega) | (show ¬ (_ ∧ _); omega)) (by first | exact zT1 (by omega) | (show ¬ (_ ∨ _); omega) | (show ¬ (_ ∧ _); omega))
      have hK23 := hK.fr hf16 (by first | exact zT1 (by omega) | (show ¬ (_ ∨ _); omega) | (show ¬ (_ ∧ _); omega))
      have hI24 := hI.fr hf16 (by first | exact zT1 (by omega) | (show ¬ (_ ∨ _); omega) | (show ¬ (_ ∧ _); omega))
      rw [show zb (decide ((0 : Int) < 0)) = 0 from rfl]
      refine z_if_eq 38 O dX6_point_33 (by decide) ⟨by omega, by omega⟩ (fun c_33 => ?_) (fun c_33 => ?_)
      · skip
        have hm := hG.m (w := w) ⟨by omega, by omega⟩
        have hl := hG.l (w := w) ⟨by omega, by omega⟩
        refine z_aload_n 1 O dX6_point_38 rfl ?_
        refine z_Vvm [] [] kM_X6_239 O dX6_point_39 (c_X6_remember hst hz17 hA20 hD22 hfi hac) rfl rfl hz17.1 (by decide) (Nat.le_of_ble_eq_true rfl) (by omega) (by omega) (Nat.le_of_ble_eq_true rfl) zNx (fun H25 hp26 hz27 => ?_)
        obtain ⟨hf28, hz29, hz30⟩ := hp26
        have hT31 := hT18.fr hf28 (by first | exact zT1 (by omega) | (show ¬ (_ ∨ _); omega) | (show ¬ (_ ∧ _); omega))
        have hR32 := hR19.fr hf28 (by first | exact zT1 (by omega) | (show ¬ (_ ∨ _); omega) | (show ¬ (_ ∧ _); omega))
        have hA33 := hA20.fr hf28 (by first | exact zT1 (by omega) | (show ¬ (_ ∨ _); omega) | (show ¬ (_ ∧ _); omega))
        have hY34 := hY21.fr hf28 (by first | exact zT1 (by omega) | (show ¬ (_ ∨ _); omega) | (show ¬ (_ ∧ _); omega))
        have hK35 := hK23.fr hf28 (by first | exact zT1 (by omega) | (show ¬ (_ ∨ _); omega) | (show ¬ (_ ∧ _); omega))
        have hI36 := hI24.fr hf28 (by first | exact zT1 (by omega) | (show ¬ (_ ∨ _); omega) | (show ¬ (_ ∧ _); omega))
        refine z_aload_n 1 O dX6_point_42 rfl ?_
        refine z_getf kF_X6_16 O dX6_point_43 hz29.1 rfl ?_
        refine z_iload_n 2 O dX6_point_46 rfl ?_
        refine z_Sim [.ref (Q 3), .int (iI w)] [] kM_X6_178 O dX6_point_47 (c_X6_pointIn hst hA33 hG ⟨by omega, by omega⟩ (by omega) (by omega)) rfl rfl (by decide) (Nat.le_of_ble_eq_true rfl) (by omega) (by omega) (Nat.le_of_ble_eq_true rfl) zNx (fun H37 hp38 hz39 => ?_)
        obtain ⟨hf40, ha41⟩ := hp38
        have hz42 := hz29.fr hf40 (zT1 (by omega))
        have hT43 := hT31.fr hf40 (zT1 (by omega))
        have hR44 := hR32.fr hf40 (zT1 (by omega))
        have hY45 := hY34.fr hf40 (zT1 (by omega))
        have hz46 := hz30.fr hf40 (zT1 (by omega)) (zT1 (by omega)) (zT1 (by omega)) (zT1 (by omega))
        have hK47 := hK35.fr hf40 (zT1 (by omega))
        have hI48 := hI36.fr hf40 (zT1 (by omega))
        exact z_ireti O dX6_point_50 rfl (by omega) (by omega) hpo (by rw [if_pos (show (cPo G w) = 0 from by unfold cPo; (repeat first | rw [if_pos (by omega)] | rw [if_neg (by omega)] | rw [if_pos c_7] | rw [if_pos c_22]))]) (⟨(((((hf16.up (fun s h => by first | exact h.elim | omega | (simp at h ⊢; omega)))).tr (hf28.up (fun s h => by first | exact h.elim | omega | (simp at h ⊢; omega))))).tr (hf40.up (fun s h => by first | exact h.elim | omega | (simp at h ⊢; omega)))), Or.inr ⟨(show (cPo G w) = 0 from by unfold cPo; (repeat first | rw [if_pos (by omega)] | rw [if_neg (by omega)] | rw [if_pos c_7] | rw [if_pos c_22])), ⟨_, _, _, _, _, hz42, hT43, hR44, ha41, hY45, hz46, hK47, hI48⟩⟩⟩)
      · exfalso; omega
  · skip
    have k_7 := sBt_f.mp c_7
    refine z_iconst 1 O dX6_point_10 (by decide +kernel) ?_
    refine z_goto 30 O dX6_point_11 (by decide) ?_
    refine z_Vim [.int (iI 1)] [] kM_X6_118 O dX6_point_30 (c_X6_refused hst hO ⟨by omega, by omega⟩) rfl rfl hO.1 (by decide) (Nat.le_of_ble_eq_true rfl) (by omega) (by omega) (Nat.le_of_ble_eq_true rfl) zNx (fun H49 hp50 hz51 => ?_)
    obtain ⟨hf52, hz53⟩ := hp50
    have hT54 := hT.fr hf52 (by first | exact zT1 (by omega) | (show ¬ (_ ∨ _); omega) | (show ¬ (_ ∧ _); omega))
    have hR55 := hR.fr hf52 (by first | exact zT1 (by omega) | (show ¬ (_ ∨ _); omega) | (show ¬ (_ ∧ _); omega))
    have hA56 := hA.fr hf52 (by first | exact zT1 (by omega) | (show ¬ (_ ∨ _); omega) | (show ¬ (_ ∧ _); omega))
    have hY57 := hY.fr hf52 (by first | exact zT1 (by omega) | (show ¬ (_ ∨ _); omega) | (show ¬ (_ ∧ _); omega))
    have hD58 := hD.fr hf52 (by first | exact zT1 (by omega) | (show ¬ (_ ∨ _); omega) | (show ¬ (_ ∧ _); omega)) (by first | exact zT1 (by omega) | (show ¬ (_ ∨ _); omega) | (show ¬ (_ ∧ _); omega)) (by first | exact zT1 (by omega) | (show ¬ (_ ∨ _); omega) | (show ¬ (_ ∧ _); omega)) (by first | exact zT1 (by omega) | (show ¬ (_ ∨ _); omega) | (show ¬ (_ ∧ _); omega))
    have hK59 := hK.fr hf52 (by first | exact zT1 (by omega) | (show ¬ (_ ∨ _); omega) | (show ¬ (_ ∧ _); omega))
    have hI60 := hI.fr hf52 (by first | exact zT1 (by omega) | (show ¬ (_ ∨ _); omega) | (show ¬ (_ ∧ _); omega))
    rw [show zb (decide ((0 : Int) < 1)) = 1 from rfl]
    refine z_if_eq 38 O dX6_point_33 (by decide) ⟨by omega, by omega⟩ (fun c_33 => ?_) (fun c_33 => ?_)
    · exfalso; omega
    · skip
      refine z_iconst 0 O dX6_point_36 (by decide +kernel) ?_
      exact z_ireti O dX6_point_37 rfl (by omega) (by omega) hpo (by rw [if_neg (by rw [show (cPo G w) = 1 from by unfold cPo; (repeat first | rw [if_pos (by omega)] | rw [if_neg (by omega)] | rw [if_neg (by rw [c_7]; decide)])]; decide)]) (⟨(hf52.up (fun s h => by first | exact h.elim | omega | (simp at h ⊢; omega))), Or.inl ⟨(by rw [show (cPo G w) = 1 from by unfold cPo; (repeat first | rw [if_pos (by omega)] | rw [if_neg (by omega)] | rw [if_neg (by rw [c_7]; decide)])]; decide), (by rw [show (cPo G w) = 1 from by unfold cPo; (repeat first | rw [if_pos (by omega)] | rw [if_neg (by omega)] | rw [if_neg (by rw [c_7]; decide)])]; exact ⟨_, _, _, _, _, hz53, hT54, hR55, hA56, hY57, hD58, hK59, hI60⟩)⟩⟩)

theorem c_X6_done {E : zE} (hst : E.1.stackTraces = false) {H : Heap} {r : zH} {q : Nat} {Q : Nat → Nat} {n : Int} {tx G : Int → Int} {fi ac : Int} {dd : Nat → Int → Int} {kp ik : Int → Int} {rf N : Int} {w : Int} (hM : zMs E H r q Q n tx G fi ac dd kp ik rf) (hOK : mOK n tx G fi ac ik N) (hw : zR w) : zC E yX6_done cX6_done 3 (some .int) 5 107 [.ref q, .int (iI w)] H 0 0 (zRi (if (cDo G w) = 0 then (G (at_ w 0) - 1) else 0) (fun H1 => zFr H r H1 r (fun s => 100000 ≤ s) ∧ (((cDo G w) ≠ 0 ∧ zMs E H1 r q Q n tx G fi ac dd kp ik (cDo G w)) ∨ ((cDo G w) = 0 ∧ zMs E H1 r q Q n tx (sDone G w) (mFi fi ac) (mAc ac) (zDw dd (mIx fi ac) G) kp ik 0)))) zN := by
  refine zC.of (by decide) (Nat.le_of_ble_eq_true rfl) hst ?_
  intro x O hE hpo hpx
  subst hE
  change zG x H 0 0 0 [(0, .ref q), (1, .int (iI w))] []
  obtain ⟨sp, gd, lo, rd, tr, hO, hT, hR, hA, hY, hD, hK, hI⟩ := hM
  obtain ⟨hn, hx, hG, hN, hfi, hac, hik⟩ := hOK
  refine z_iload_n 1 O dX6_done_0 rfl ?_
  refine z_Si [.int (iI w)] [] kM_X6_232 O dX6_done_1 (c_X6_isWorker hst ⟨by omega, by omega⟩) rfl rfl (by decide) (Nat.le_of_ble_eq_true rfl) (by omega) (by omega) (Nat.le_of_ble_eq_true rfl) zNx ?_
  refine z_istore_n [(2, .int (iI (zb (sBt w 0 2)))), (0, .ref q), (1, .int (iI w))] O dX6_done_4 (by decide) rfl ?_
  refine z_aload_n 1 O dX6_done_5 rfl ?_
  refine z_iload_n 0 O dX6_done_6 rfl ?_
  refine z_ifb_ne 14 O dX6_done_7 (by decide) (fun c_7 => ?_) (fun c_7 => ?_)
  · skip
    have k_7 := sBt_t.mp c_7
    refine z_aload_n 1 O dX6_done_14 rfl ?_
    refine z_getf kF_X6_16 O dX6_done_15 hO.1 rfl ?_
    refine z_iload_n 2 O dX6_done_18 rfl ?_
    refine z_Si [.ref (Q 3), .int (iI w)] [.ref q] kM_X6_89 O dX6_done_19 (c_X6_isOpen hst hA hG ⟨by omega, by omega⟩) rfl rfl (by decide) (Nat.le_of_ble_eq_true rfl) (by omega) (by omega) (Nat.le_of_ble_eq_true rfl) zNx ?_
    refine z_ifb_eq 29 O dX6_done_22 (by decide) (fun c_22 => ?_) (fun c_22 => ?_)
    · skip
      have k_22 := sOp_f.mp c_22
      refine z_iconst 2 O dX6_done_29 (by decide +kernel) ?_
      refine z_Vim [.int (iI 2)] [] kM_X6_118 O dX6_done_30 (c_X6_refused hst hO ⟨by omega, by omega⟩) rfl rfl hO.1 (by decide) (Nat.le_of_ble_eq_true rfl) (by omega) (by omega) (Nat.le_of_ble_eq_true rfl) zNx (fun H1 hp2 hz3 => ?_)
      obtain ⟨hf4, hz5⟩ := hp2
      have hT6 := hT.fr hf4 (by first | exact zT1 (by omega) | (show ¬ (_ ∨ _); omega) | (show ¬ (_ ∧ _); omega))
      have hR7 := hR.fr hf4 (by first | exact zT1 (by omega) | (show ¬ (_ ∨ _); omega) | (show ¬ (_ ∧ _); omega))
      have hA8 := hA.fr hf4 (by first | exact zT1 (by omega) | (show ¬ (_ ∨ _); omega) | (show ¬ (_ ∧ _); omega))
      have hY9 := hY.fr hf4 (by first | exact zT1 (by omega) | (show ¬ (_ ∨ _); omega) | (show ¬ (_ ∧ _); omega))
      have hD10 := hD.fr hf4 (by first | exact zT1 (by omega) | (show ¬ (_ ∨ _); omega) | (show ¬ (_ ∧ _); omega)) (by first | exact zT1 (by omega) | (show ¬ (_ ∨ _); omega) | (show ¬ (_ ∧ _); omega)) (by first | exact zT1 (by omega) | (show ¬ (_ ∨ _); omega) | (show ¬ (_ ∧ _); omega)) (by first | exact zT1 (by omega) | (show ¬ (_ ∨ _); omega) | (show ¬ (_ ∧ _); omega))
      have hK11 := hK.fr hf4 (by first | exact zT1 (by omega) | (show ¬ (_ ∨ _); omega) | (show ¬ (_ ∧ _); omega))
      have hI12 := hI.fr hf4 (by first | exact zT1 (by omega) | (show ¬ (_ ∨ _); omega) | (show ¬ (_ ∧ _); omega))
      rw [show zb (decide ((0 : Int) < 2)) = 1 from rfl]
      refine z_if_eq 38 O dX6_done_33 (by decide) ⟨by omega, by omega⟩ (fun c_33 => ?_) (fun c_33 => ?_)
      · exfalso; omega
      · skip
        refine z_iconst 0 O dX6_done_36 (by decide +kernel) ?_
        exact z_ireti O dX6_done_37 rfl (by omega) (by omega) hpo (by rw [if_neg (by rw [show (cDo G w) = 2 from by unfold cDo; (repeat first | rw [if_pos (by omega)] | rw [if_neg (by omega)] | rw [if_pos c_7] | rw [if_neg (by rw [c_22]; decide)])]; decide)]) (⟨(hf4.up (fun s h => by first | exact h.elim | omega | (simp at h ⊢; omega))), Or.inl ⟨(by rw [show (cDo G w) = 2 from by unfold cDo; (repeat first | rw [if_pos (by omega)] | rw [if_neg (by omega)] | rw [if_pos c_7] | rw [if_neg (by rw [c_22]; decide)])]; decide), (by rw [show (cDo G w) = 2 from by unfold cDo; (repeat first | rw [if_pos (by omega)] | rw [if_neg (by omega)] | rw [if_pos c_7] | rw [if_neg (by rw [c_22]; decide)])]; exact ⟨_, _, _, _, _, hz5, hT6, hR7, hA8, hY9, hD10, hK11, hI12⟩)⟩⟩)
    · skip
      have k_22 := sOp_t.mp c_22
      refine z_iconst 0 O dX6_done_25 (by decide +kernel) ?_
      refine z_goto 30 O dX6_done_26 (by decide) ?_
      refine z_Vim [.int (iI 0)] [] kM_X6_118 O dX6_done_30 (c_X6_refused hst hO ⟨by omega, by omega⟩) rfl rfl hO.1 (by decide) (Nat.le_of_ble_eq_true rfl) (by omega) (by omega) (Nat.le_of_ble_eq_true rfl) zNx (fun H13 hp14 hz15 => ?_)
      obtain ⟨hf16, hz17⟩ := hp14
      have hT18 := hT.fr hf16 (by first | exact zT1 (by omega) | (show ¬ (_ ∨ _); omega) | (show ¬ (_ ∧ _); omega))
      have hR19 := hR.fr hf16 (by first | exact zT1 (by omega) | (show ¬ (_ ∨ _); omega) | (show ¬ (_ ∧ _); omega))
      have hA20 := hA.fr hf16 (by first | exact zT1 (by omega) | (show ¬ (_ ∨ _); omega) | (show ¬ (_ ∧ _); omega))
      have hY21 := hY.fr hf16 (by first | exact zT1 (by omega) | (show ¬ (_ ∨ _); omega) | (show ¬ (_ ∧ _); omega))
      have hD22 := hD.fr hf16 (by first | exact zT1 (by omega) | (show ¬ (_ ∨ _); omega) | (show ¬ (_ ∧ _); omega)) (by first | exact zT1 (by omega) | (show ¬ (_ ∨ _); omega) | (show ¬ (_ ∧ _); omega)) (by first | exact zT1 (by omega) | (show ¬ (_ ∨ _); omega) | (show ¬ (_ ∧ _); omega)) (by first | exact zT1 (by omega) | (show ¬ (_ ∨ _); omega) | (show ¬ (_ ∧ _); omega))
      have hK23 := hK.fr hf16 (by first | exact zT1 (by omega) | (show ¬ (_ ∨ _); omega) | (show ¬ (_ ∧ _); omega))
      have hI24 := hI.fr hf16 (by first | exact zT1 (by omega) | (show ¬ (_ ∨ _); omega) | (show ¬ (_ ∧ _); omega))
      rw [show zb (decide ((0 : Int) < 0)) = 0 from rfl]
      refine z_if_eq 38 O dX6_done_33 (by decide) ⟨by omega, by omega⟩ (fun c_33 => ?_) (fun c_33 => ?_)
      · skip
        have hm := hG.m (w := w) ⟨by omega, by omega⟩
        have hl := hG.l (w := w) ⟨by omega, by omega⟩
        refine z_aload_n 1 O dX6_done_38 rfl ?_
        refine z_Vvm [] [] kM_X6_239 O dX6_done_39 (c_X6_remember hst hz17 hA20 hD22 hfi hac) rfl rfl hz17.1 (by decide) (Nat.le_of_ble_eq_true rfl) (by omega) (by omega) (Nat.le_of_ble_eq_true rfl) zNx (fun H25 hp26 hz27 => ?_)
        obtain ⟨hf28, hz29, hz30⟩ := hp26
        have hT31 := hT18.fr hf28 (by first | exact zT1 (by omega) | (show ¬ (_ ∨ _); omega) | (show ¬ (_ ∧ _); omega))
        have hR32 := hR19.fr hf28 (by first | exact zT1 (by omega) | (show ¬ (_ ∨ _); omega) | (show ¬ (_ ∧ _); omega))
        have hA33 := hA20.fr hf28 (by first | exact zT1 (by omega) | (show ¬ (_ ∨ _); omega) | (show ¬ (_ ∧ _); omega))
        have hY34 := hY21.fr hf28 (by first | exact zT1 (by omega) | (show ¬ (_ ∨ _); omega) | (show ¬ (_ ∧ _); omega))
        have hK35 := hK23.fr hf28 (by first | exact zT1 (by omega) | (show ¬ (_ ∨ _); omega) | (show ¬ (_ ∧ _); omega))
        have hI36 := hI24.fr hf28 (by first | exact zT1 (by omega) | (show ¬ (_ ∨ _); omega) | (show ¬ (_ ∧ _); omega))
        refine z_aload_n 1 O dX6_done_42 rfl ?_
        refine z_getf kF_X6_16 O dX6_done_43 hz29.1 rfl ?_
        refine z_iload_n 2 O dX6_done_46 rfl ?_
        refine z_Sim [.ref (Q 3), .int (iI w)] [] kM_X6_181 O dX6_done_47 (c_X6_doneIn hst hA33 ⟨by omega, by omega⟩ (fun c h0 h1 => hG.2.2.1 c h0 h1) ⟨by omega, by omega⟩) rfl rfl (by decide) (Nat.le_of_ble_eq_true rfl) (by omega) (by omega) (Nat.le_of_ble_eq_true rfl) zNx (fun H37 hp38 hz39 => ?_)
        obtain ⟨hf40, ha41⟩ := hp38
        have hz42 := hz29.fr hf40 (zT1 (by omega))
        have hT43 := hT31.fr hf40 (zT1 (by omega))
        have hR44 := hR32.fr hf40 (zT1 (by omega))
        have hY45 := hY34.fr hf40 (zT1 (by omega))
        have hz46 := hz30.fr hf40 (zT1 (by omega)) (zT1 (by omega)) (zT1 (by omega)) (zT1 (by omega))
        have hK47 := hK35.fr hf40 (zT1 (by omega))
        have hI48 := hI36.fr hf40 (zT1 (by omega))
        exact z_ireti O dX6_done_50 rfl (by omega) (by omega) hpo (by rw [if_pos (show (cDo G w) = 0 from by unfold cDo; (repeat first | rw [if_pos (by omega)] | rw [if_neg (by omega)] | rw [if_pos c_7] | rw [if_pos c_22]))]) (⟨(((((hf16.up (fun s h => by first | exact h.elim | omega | (simp at h ⊢; omega)))).tr (hf28.up (fun s h => by first | exact h.elim | omega | (simp at h ⊢; omega))))).tr (hf40.up (fun s h => by first | exact h.elim | omega | (simp at h ⊢; omega)))), Or.inr ⟨(show (cDo G w) = 0 from by unfold cDo; (repeat first | rw [if_pos (by omega)] | rw [if_neg (by omega)] | rw [if_pos c_7] | rw [if_pos c_22])), ⟨_, _, _, _, _, hz42, hT43, hR44, ha41, hY45, hz46, hK47, hI48⟩⟩⟩)
      · exfalso; omega
  · skip
    have k_7 := sBt_f.mp c_7
    refine z_iconst 1 O dX6_done_10 (by decide +kernel) ?_
    refine z_goto 30 O dX6_done_11 (by decide) ?_
    refine z_Vim [.int (iI 1)] [] kM_X6_118 O dX6_done_30 (c_X6_refused hst hO ⟨by omega, by omega⟩) rfl rfl hO.1 (by decide) (Nat.le_of_ble_eq_true rfl) (by omega) (by omega) (Nat.le_of_ble_eq_true rfl) zNx (fun H49 hp50 hz51 => ?_)
    obtain ⟨hf52, hz53⟩ := hp50
    have hT54 := hT.fr hf52 (by first | exact zT1 (by omega) | (show ¬ (_ ∨ _); omega) | (show ¬ (_ ∧ _); omega))
    have hR55 := hR.fr hf52 (by first | exact zT1 (by omega) | (show ¬ (_ ∨ _); omega) | (show ¬ (_ ∧ _); omega))
    have hA56 := hA.fr hf52 (by first | exact zT1 (by omega) | (show ¬ (_ ∨ _); omega) | (show ¬ (_ ∧ _); omega))
    have hY57 := hY.fr hf52 (by first | exact zT1 (by omega) | (show ¬ (_ ∨ _); omega) | (show ¬ (_ ∧ _); omega))
    have hD58 := hD.fr hf52 (by first | exact zT1 (by omega) | (show ¬ (_ ∨ _); omega) | (show ¬ (_ ∧ _); omega)) (by first | exact zT1 (by omega) | (show ¬ (_ ∨ _); omega) | (show ¬ (_ ∧ _); omega)) (by first | exact zT1 (by omega) | (show ¬ (_ ∨ _); omega) | (show ¬ (_ ∧ _); omega)) (by first | exact zT1 (by omega) | (show ¬ (_ ∨ _); omega) | (show ¬ (_ ∧ _); omega))
    have hK59 := hK.fr hf52 (by first | exact zT1 (by omega) | (show ¬ (_ ∨ _); omega) | (show ¬ (_ ∧ _); omega))
    have hI60 := hI.fr hf52 (by first | exact zT1 (by omega) | (show ¬ (_ ∨ _); omega) | (show ¬ (_ ∧ _); omega))
    rw [show zb (decide ((0 : Int) < 1)) = 1 from rfl]
    refine z_if_eq 38 O dX6_done_33 (by decide) ⟨by omega, by omega⟩ (fun c_33 => ?_) (fun c_33 => ?_)
    · exfalso; omega
    · skip
      refine z_iconst 0 O dX6_done_36 (by decide +kernel) ?_
      exact z_ireti O dX6_done_37 rfl (by omega) (by omega) hpo (by rw [if_neg (by rw [show (cDo G w) = 1 from by unfold cDo; (repeat first | rw [if_pos (by omega)] | rw [if_neg (by omega)] | rw [if_neg (by rw [c_7]; decide)])]; decide)]) (⟨(hf52.up (fun s h => by first | exact h.elim | omega | (simp at h ⊢; omega))), Or.inl ⟨(by rw [show (cDo G w) = 1 from by unfold cDo; (repeat first | rw [if_pos (by omega)] | rw [if_neg (by omega)] | rw [if_neg (by rw [c_7]; decide)])]; decide), (by rw [show (cDo G w) = 1 from by unfold cDo; (repeat first | rw [if_pos (by omega)] | rw [if_neg (by omega)] | rw [if_neg (by rw [c_7]; decide)])]; exact ⟨_, _, _, _, _, hz53, hT54, hR55, hA56, hY57, hD58, hK59, hI60⟩)⟩⟩)

theorem c_X6_fail {E : zE} (hst : E.1.stackTraces = false) {H : Heap} {r : zH} {q : Nat} {Q : Nat → Nat} {n : Int} {tx G : Int → Int} {fi ac : Int} {dd : Nat → Int → Int} {kp ik : Int → Int} {rf N : Int} {w : Int} (hM : zMs E H r q Q n tx G fi ac dd kp ik rf) (hOK : mOK n tx G fi ac ik N) (hw : zR w) : zC E yX6_fail cX6_fail 3 (some .int) 4 91 [.ref q, .int (iI w)] H 0 0 (zRi (if (cFa G w) = 0 then (sFailR G w) else 0) (fun H1 => zFr H r H1 r (fun s => 100000 ≤ s) ∧ (((cFa G w) ≠ 0 ∧ zMs E H1 r q Q n tx G fi ac dd kp ik (cFa G w)) ∨ ((cFa G w) = 0 ∧ zMs E H1 r q Q n tx (sFail G w) (mFi fi ac) (mAc ac) (zDw dd (mIx fi ac) G) kp ik 0)))) zN := by
  refine zC.of (by decide) (Nat.le_of_ble_eq_true rfl) hst ?_
  intro x O hE hpo hpx
  subst hE
  change zG x H 0 0 0 [(0, .ref q), (1, .int (iI w))] []
  obtain ⟨sp, gd, lo, rd, tr, hO, hT, hR, hA, hY, hD, hK, hI⟩ := hM
  obtain ⟨hn, hx, hG, hN, hfi, hac, hik⟩ := hOK
  refine z_iload_n 1 O dX6_fail_0 rfl ?_
  refine z_Si [.int (iI w)] [] kM_X6_232 O dX6_fail_1 (c_X6_isWorker hst ⟨by omega, by omega⟩) rfl rfl (by decide) (Nat.le_of_ble_eq_true rfl) (by omega) (by omega) (Nat.le_of_ble_eq_true rfl) zNx ?_
  refine z_istore_n [(2, .int (iI (zb (sBt w 0 2)))), (0, .ref q), (1, .int (iI w))] O dX6_fail_4 (by decide) rfl ?_
  refine z_aload_n 1 O dX6_fail_5 rfl ?_
  refine z_iload_n 0 O dX6_fail_6 rfl ?_
  refine z_ifb_ne 14 O dX6_fail_7 (by decide) (fun c_7 => ?_) (fun c_7 => ?_)
  · skip
    have k_7 := sBt_t.mp c_7
    refine z_aload_n 1 O dX6_fail_14 rfl ?_
    refine z_getf kF_X6_16 O dX6_fail_15 hO.1 rfl ?_
    refine z_iload_n 2 O dX6_fail_18 rfl ?_
    refine z_Si [.ref (Q 3), .int (iI w)] [.ref q] kM_X6_69 O dX6_fail_19 (c_X6_many hst hA ⟨by omega, by omega⟩) rfl rfl (by decide) (Nat.le_of_ble_eq_true rfl) (by omega) (by omega) (Nat.le_of_ble_eq_true rfl) zNx ?_
    have hm := hG.m (w := w) ⟨by omega, by omega⟩
    have hl := hG.l (w := w) ⟨by omega, by omega⟩
    refine z_if_le 29 O dX6_fail_22 (by decide) ⟨by omega, by omega⟩ (fun c_22 => ?_) (fun c_22 => ?_)
    · skip
      refine z_iconst 2 O dX6_fail_29 (by decide +kernel) ?_
      refine z_Vim [.int (iI 2)] [] kM_X6_118 O dX6_fail_30 (c_X6_refused hst hO ⟨by omega, by omega⟩) rfl rfl hO.1 (by decide) (Nat.le_of_ble_eq_true rfl) (by omega) (by omega) (Nat.le_of_ble_eq_true rfl) zNx (fun H1 hp2 hz3 => ?_)
      obtain ⟨hf4, hz5⟩ := hp2
      have hT6 := hT.fr hf4 (by first | exact zT1 (by omega) | (show ¬ (_ ∨ _); omega) | (show ¬ (_ ∧ _); omega))
      have hR7 := hR.fr hf4 (by first | exact zT1 (by omega) | (show ¬ (_ ∨ _); omega) | (show ¬ (_ ∧ _); omega))
      have hA8 := hA.fr hf4 (by first | exact zT1 (by omega) | (show ¬ (_ ∨ _); omega) | (show ¬ (_ ∧ _); omega))
      have hY9 := hY.fr hf4 (by first | exact zT1 (by omega) | (show ¬ (_ ∨ _); omega) | (show ¬ (_ ∧ _); omega))
      have hD10 := hD.fr hf4 (by first | exact zT1 (by omega) | (show ¬ (_ ∨ _); omega) | (show ¬ (_ ∧ _); omega)) (by first | exact zT1 (by omega) | (show ¬ (_ ∨ _); omega) | (show ¬ (_ ∧ _); omega)) (by first | exact zT1 (by omega) | (show ¬ (_ ∨ _); omega) | (show ¬ (_ ∧ _); omega)) (by first | exact zT1 (by omega) | (show ¬ (_ ∨ _); omega) | (show ¬ (_ ∧ _); omega))
      have hK11 := hK.fr hf4 (by first | exact zT1 (by omega) | (show ¬ (_ ∨ _); omega) | (show ¬ (_ ∧ _); omega))
      have hI12 := hI.fr hf4 (by first | exact zT1 (by omega) | (show ¬ (_ ∨ _); omega) | (show ¬ (_ ∧ _); omega))
      rw [show zb (decide ((0 : Int) < 2)) = 1 from rfl]
      refine z_if_eq 38 O dX6_fail_33 (by decide) ⟨by omega, by omega⟩ (fun c_33 => ?_) (fun c_33 => ?_)
      · exfalso; omega
      · skip
        refine z_iconst 0 O dX6_fail_36 (by decide +kernel) ?_
        exact z_ireti O dX6_fail_37 rfl (by omega) (by omega) hpo (by rw [if_neg (by rw [show (cFa G w) = 2 from by unfold cFa; (repeat first | rw [if_pos (by omega)] | rw [if_neg (by omega)] | rw [if_pos c_7])]; decide)]) (⟨(hf4.up (fun s h => by first | exact h.elim | omega | (simp at h ⊢; omega))), Or.inl ⟨(by rw [show (cFa G w) = 2 from by unfold cFa; (repeat first | rw [if_pos (by omega)] | rw [if_neg (by omega)] | rw [if_pos c_7])]; decide), (by rw [show (cFa G w) = 2 from by unfold cFa; (repeat first | rw [if_pos (by omega)] | rw [if_neg (by omega)] | rw [if_pos c_7])]; exact ⟨_, _, _, _, _, hz5, hT6, hR7, hA8, hY9, hD10, hK11, hI12⟩)⟩⟩)
    · skip
      refine z_iconst 0 O dX6_fail_25 (by decide +kernel) ?_
      refine z_goto 30 O dX6_fail_26 (by decide) ?_
      refine z_Vim [.int (iI 0)] [] kM_X6_118 O dX6_fail_30 (c_X6_refused hst hO ⟨by omega, by omega⟩) rfl rfl hO.1 (by decide) (Nat.le_of_ble_eq_true rfl) (by omega) (by omega) (Nat.le_of_ble_eq_true rfl) zNx (fun H13 hp14 hz15 => ?_)
      obtain ⟨hf16, hz17⟩ := hp14
      have hT18 := hT.fr hf16 (by first | exact zT1 (by omega) | (show ¬ (_ ∨ _); omega) | (show ¬ (_ ∧ _); omega))
      have hR19 := hR.fr hf16 (by first | exact zT1 (by omega) | (show ¬ (_ ∨ _); omega) | (show ¬ (_ ∧ _); omega))
      have hA20 := hA.fr hf16 (by first | exact zT1 (by omega) | (show ¬ (_ ∨ _); omega) | (show ¬ (_ ∧ _); omega))
      have hY21 := hY.fr hf16 (by first | exact zT1 (by omega) | (show ¬ (_ ∨ _); omega) | (show ¬ (_ ∧ _); omega))
      have hD22 := hD.fr hf16 (by first | exact zT1 (by omega) | (show ¬ (_ ∨ _); omega) | (show ¬ (_ ∧ _); omega)) (by first | exact zT1 (by omega) | (show ¬ (_ ∨ _); omega) | (show ¬ (_ ∧ _); omega)) (by first | exact zT1 (by omega) | (show ¬ (_ ∨ _); omega) | (show ¬ (_ ∧ _); omega)) (by first | exact zT1 (by omega) | (show ¬ (_ ∨ _); omega) | (show ¬ (_ ∧ _); omega))
      have hK23 := hK.fr hf16 (by first | exact zT1 (by omega) | (show ¬ (_ ∨ _); omega) | (show ¬ (_ ∧ _); omega))
      have hI24 := hI.fr hf16 (by first | exact zT1 (by omega) | (show ¬ (_ ∨ _); omega) | (show ¬ (_ ∧ _); omega))
      rw [show zb (decide ((0 : Int) < 0)) = 0 from rfl]
      refine z_if_eq 38 O dX6_fail_33 (by decide) ⟨by omega, by omega⟩ (fun c_33 => ?_) (fun c_33 => ?_)
      · skip
        have hm := hG.m (w := w) ⟨by omega, by omega⟩
        have hl := hG.l (w := w) ⟨by omega, by omega⟩
        refine z_aload_n 1 O dX6_fail_38 rfl ?_
        refine z_Vvm [] [] kM_X6_239 O dX6_fail_39 (c_X6_remember hst hz17 hA20 hD22 hfi hac) rfl rfl hz17.1 (by decide) (Nat.le_of_ble_eq_true rfl) (by omega) (by omega) (Nat.le_of_ble_eq_true rfl) zNx (fun H25 hp26 hz27 => ?_)
        obtain ⟨hf28, hz29, hz30⟩ := hp26
        have hT31 := hT18.fr hf28 (by first | exact zT1 (by omega) | (show ¬ (_ ∨ _); omega) | (show ¬ (_ ∧ _); omega))
        have hR32 := hR19.fr hf28 (by first | exact zT1 (by omega) | (show ¬ (_ ∨ _); omega) | (show ¬ (_ ∧ _); omega))
        have hA33 := hA20.fr hf28 (by first | exact zT1 (by omega) | (show ¬ (_ ∨ _); omega) | (show ¬ (_ ∧ _); omega))
        have hY34 := hY21.fr hf28 (by first | exact zT1 (by omega) | (show ¬ (_ ∨ _); omega) | (show ¬ (_ ∧ _); omega))
        have hK35 := hK23.fr hf28 (by first | exact zT1 (by omega) | (show ¬ (_ ∨ _); omega) | (show ¬ (_ ∧ _); omega))
        have hI36 := hI24.fr hf28 (by first | exact zT1 (by omega) | (show ¬ (_ ∨ _); omega) | (show ¬ (_ ∧ _); omega))
        refine z_aload_n 1 O dX6_fail_42 rfl ?_
        refine z_getf kF_X6_16 O dX6_fail_43 hz29.1 rfl ?_
        refine z_iload_n 2 O dX6_fail_46 rfl ?_
        refine z_Sim [.ref (Q 3), .int (iI w)] [] kM_X6_184 O dX6_fail_47 (c_X6_failIn hst hA33 hG ⟨by omega, by omega⟩ (by omega)) rfl rfl (by decide) (Nat.le_of_ble_eq_true rfl) (by omega) (by omega) (Nat.le_of_ble_eq_true rfl) zNx (fun H37 hp38 hz39 => ?_)
        obtain ⟨hf40, ha41⟩ := hp38
        have hz42 := hz29.fr hf40 (zT1 (by omega))
        have hT43 := hT31.fr hf40 (zT1 (by omega))
        have hR44 := hR32.fr hf40 (zT1 (by omega))
        have hY45 := hY34.fr hf40 (zT1 (by omega))
        have hz46 := hz30.fr hf40 (zT1 (by omega)) (zT1 (by omega)) (zT1 (by omega)) (zT1 (by omega))
        have hK47 := hK35.fr hf40 (zT1 (by omega))
        have hI48 := hI36.fr hf40 (zT1 (by omega))
        exact z_ireti O dX6_fail_50 rfl (by omega) (by omega) hpo (by rw [if_pos (show (cFa G w) = 0 from by unfold cFa; (repeat first | rw [if_pos (by omega)] | rw [if_neg (by omega)] | rw [if_pos c_7]))]) (⟨(((((hf16.up (fun s h => by first | exact h.elim | omega | (simp at h ⊢; omega)))).tr (hf28.up (fun s h => by first | exact h.elim | omega | (simp at h ⊢; omega))))).tr (hf40.up (fun s h => by first | exact h.elim | omega | (simp at h ⊢; omega)))), Or.inr ⟨(show (cFa G w) = 0 from by unfold cFa; (repeat first | rw [if_pos (by omega)] | rw [if_neg (by omega)] | rw [if_pos c_7])), ⟨_, _, _, _, _, hz42, hT43, hR44, ha41, hY45, hz46, hK47, hI48⟩⟩⟩)
      · exfalso; omega
  · skip
    have k_7 := sBt_f.mp c_7
    refine z_iconst 1 O dX6_fail_10 (by decide +kernel) ?_
    refine z_goto 30 O dX6_fail_11 (by decide) ?_
    refine z_Vim [.int (iI 1)] [] kM_X6_118 O dX6_fail_30 (c_X6_refused hst hO ⟨by omega, by omega⟩) rfl rfl hO.1 (by decide) (Nat.le_of_ble_eq_true rfl) (by omega) (by omega) (Nat.le_of_ble_eq_true rfl) zNx (fun H49 hp50 hz51 => ?_)
    obtain ⟨hf52, hz53⟩ := hp50
    have hT54 := hT.fr hf52 (by first | exact zT1 (by omega) | (show ¬ (_ ∨ _); omega) | (show ¬ (_ ∧ _); omega))
    have hR55 := hR.fr hf52 (by first | exact zT1 (by omega) | (show ¬ (_ ∨ _); omega) | (show ¬ (_ ∧ _); omega))
    have hA56 := hA.fr hf52 (by first | exact zT1 (by omega) | (show ¬ (_ ∨ _); omega) | (show ¬ (_ ∧ _); omega))
    have hY57 := hY.fr hf52 (by first | exact zT1 (by omega) | (show ¬ (_ ∨ _); omega) | (show ¬ (_ ∧ _); omega))
    have hD58 := hD.fr hf52 (by first | exact zT1 (by omega) | (show ¬ (_ ∨ _); omega) | (show ¬ (_ ∧ _); omega)) (by first | exact zT1 (by omega) | (show ¬ (_ ∨ _); omega) | (show ¬ (_ ∧ _); omega)) (by first | exact zT1 (by omega) | (show ¬ (_ ∨ _); omega) | (show ¬ (_ ∧ _); omega)) (by first | exact zT1 (by omega) | (show ¬ (_ ∨ _); omega) | (show ¬ (_ ∧ _); omega))
    have hK59 := hK.fr hf52 (by first | exact zT1 (by omega) | (show ¬ (_ ∨ _); omega) | (show ¬ (_ ∧ _); omega))
    have hI60 := hI.fr hf52 (by first | exact zT1 (by omega) | (show ¬ (_ ∨ _); omega) | (show ¬ (_ ∧ _); omega))
    rw [show zb (decide ((0 : Int) < 1)) = 1 from rfl]
    refine z_if_eq 38 O dX6_fail_33 (by decide) ⟨by omega, by omega⟩ (fun c_33 => ?_) (fun c_33 => ?_)
    · exfalso; omega
    · skip
      refine z_iconst 0 O dX6_fail_36 (by decide +kernel) ?_
      exact z_ireti O dX6_fail_37 rfl (by omega) (by omega) hpo (by rw [if_neg (by rw [show (cFa G w) = 1 from by unfold cFa; (repeat first | rw [if_pos (by omega)] | rw [if_neg (by omega)] | rw [if_neg (by rw [c_7]; decide)])]; decide)]) (⟨(hf52.up (fun s h => by first | exact h.elim | omega | (simp at h ⊢; omega))), Or.inl ⟨(by rw [show (cFa G w) = 1 from by unfold cFa; (repeat first | rw [if_pos (by omega)] | rw [if_neg (by omega)] | rw [if_neg (by rw [c_7]; decide)])]; decide), (by rw [show (cFa G w) = 1 from by unfold cFa; (repeat first | rw [if_pos (by omega)] | rw [if_neg (by omega)] | rw [if_neg (by rw [c_7]; decide)])]; exact ⟨_, _, _, _, _, hz53, hT54, hR55, hA56, hY57, hD58, hK59, hI60⟩)⟩⟩)

theorem c_X6_write {E : zE} (hst : E.1.stackTraces = false) {H : Heap} {r : zH} {q : Nat} {Q : Nat → Nat} {n : Int} {tx G : Int → Int} {fi ac : Int} {dd : Nat → Int → Int} {kp ik : Int → Int} {rf N : Int} {w c v : Int} (hM : zMs E H r q Q n tx G fi ac dd kp ik rf) (hOK : mOK n tx G fi ac ik N) (hw : zR w) (hc : zR c) (hv : zR v) : zC E yX6_write cX6_write 5 (some .int) 5 108 [.ref q, .int (iI w), .int (iI c), .int (iI v)] H 0 0 (zRi (if (cWr G w c v) = 0 then (G c) else 0) (fun H1 => zFr H r H1 r (fun s => 100000 ≤ s) ∧ (((cWr G w c v) ≠ 0 ∧ zMs E H1 r q Q n tx G fi ac dd kp ik (cWr G w c v)) ∨ ((cWr G w c v) = 0 ∧ zMs E H1 r q Q n tx (sWrite G w c v) (mFi fi ac) (mAc ac) (zDw dd (mIx fi ac) G) kp ik 0)))) zN := by
  refine zC.of (by decide) (Nat.le_of_ble_eq_true rfl) hst ?_
  intro x O hE hpo hpx
  subst hE
  change zG x H 0 0 0 [(0, .ref q), (1, .int (iI w)), (2, .int (iI c)), (3, .int (iI v))] []
  obtain ⟨sp, gd, lo, rd, tr, hO, hT, hR, hA, hY, hD, hK, hI⟩ := hM
  obtain ⟨hn, hx, hG, hN, hfi, hac, hik⟩ := hOK
  refine z_iload_n 1 O dX6_write_0 rfl ?_
  refine z_Si [.int (iI w)] [] kM_X6_232 O dX6_write_1 (c_X6_isWorker hst ⟨by omega, by omega⟩) rfl rfl (by decide) (Nat.le_of_ble_eq_true rfl) (by omega) (by omega) (Nat.le_of_ble_eq_true rfl) zNx ?_
  refine z_ifb_eq 18 O dX6_write_4 (by decide) (fun c_4 => ?_) (fun c_4 => ?_)
  · skip
    have k_4 := sBt_f.mp c_4
    refine z_iconst 0 O dX6_write_18 (by decide +kernel) ?_
    refine z_istore [(4, .int (iI 0)), (0, .ref q), (1, .int (iI w)), (2, .int (iI c)), (3, .int (iI v))] O dX6_write_19 (by decide) rfl ?_
    refine z_aload_n 1 O dX6_write_21 rfl ?_
    refine z_iload 0 O dX6_write_22 rfl ?_
    refine z_if_ne 31 O dX6_write_24 (by decide) ⟨by omega, by omega⟩ (fun c_24 => ?_) (fun c_24 => ?_)
    · exfalso; omega
    · skip
      refine z_iconst 1 O dX6_write_27 (by decide +kernel) ?_
      refine z_goto 64 O dX6_write_28 (by decide) ?_
      refine z_Vim [.int (iI 1)] [] kM_X6_118 O dX6_write_64 (c_X6_refused hst hO ⟨by omega, by omega⟩) rfl rfl hO.1 (by decide) (Nat.le_of_ble_eq_true rfl) (by omega) (by omega) (Nat.le_of_ble_eq_true rfl) zNx (fun H1 hp2 hz3 => ?_)
      obtain ⟨hf4, hz5⟩ := hp2
      have hT6 := hT.fr hf4 (by first | exact zT1 (by omega) | (show ¬ (_ ∨ _); omega) | (show ¬ (_ ∧ _); omega))
      have hR7 := hR.fr hf4 (by first | exact zT1 (by omega) | (show ¬ (_ ∨ _); omega) | (show ¬ (_ ∧ _); omega))
      have hA8 := hA.fr hf4 (by first | exact zT1 (by omega) | (show ¬ (_ ∨ _); omega) | (show ¬ (_ ∧ _); omega))
      have hY9 := hY.fr hf4 (by first | exact zT1 (by omega) | (show ¬ (_ ∨ _); omega) | (show ¬ (_ ∧ _); omega))
      have hD10 := hD.fr hf4 (by first | exact zT1 (by omega) | (show ¬ (_ ∨ _); omega) | (show ¬ (_ ∧ _); omega)) (by first | exact zT1 (by omega) | (show ¬ (_ ∨ _); omega) | (show ¬ (_ ∧ _); omega)) (by first | exact zT1 (by omega) | (show ¬ (_ ∨ _); omega) | (show ¬ (_ ∧ _); omega)) (by first | exact zT1 (by omega) | (show ¬ (_ ∨ _); omega) | (show ¬ (_ ∧ _); omega))
      have hK11 := hK.fr hf4 (by first | exact zT1 (by omega) | (show ¬ (_ ∨ _); omega) | (show ¬ (_ ∧ _); omega))
      have hI12 := hI.fr hf4 (by first | exact zT1 (by omega) | (show ¬ (_ ∨ _); omega) | (show ¬ (_ ∧ _); omega))
      rw [show zb (decide ((0 : Int) < 1)) = 1 from rfl]
      refine z_if_eq 72 O dX6_write_67 (by decide) ⟨by omega, by omega⟩ (fun c_67 => ?_) (fun c_67 => ?_)
      · exfalso; omega
      · skip
        refine z_iconst 0 O dX6_write_70 (by decide +kernel) ?_
        exact z_ireti O dX6_write_71 rfl (by omega) (by omega) hpo (by rw [if_neg (by rw [show (cWr G w c v) = 1 from by unfold cWr; (repeat first | rw [if_pos (by omega)] | rw [if_neg (by omega)] | rw [if_neg (by rw [c_4]; decide)])]; decide)]) (⟨(hf4.up (fun s h => by first | exact h.elim | omega | (simp at h ⊢; omega))), Or.inl ⟨(by rw [show (cWr G w c v) = 1 from by unfold cWr; (repeat first | rw [if_pos (by omega)] | rw [if_neg (by omega)] | rw [if_neg (by rw [c_4]; decide)])]; decide), (by rw [show (cWr G w c v) = 1 from by unfold cWr; (repeat first | rw [if_pos (by omega)] | rw [if_neg (by omega)] | rw [if_neg (by rw [c_4]; decide)])]; exact ⟨_, _, _, _, _, hz5, hT6, hR7, hA8, hY9, hD10, hK11, hI12⟩)⟩⟩)
  · skip
    have k_4 := sBt_t.mp c_4
    refine z_iload_n 2 O dX6_write_7 rfl ?_
    refine z_Si [.int (iI c)] [] kM_X6_226 O dX6_write_8 (c_X6_isCell hst ⟨by omega, by omega⟩) rfl rfl (by decide) (Nat.le_of_ble_eq_true rfl) (by omega) (by omega) (Nat.le_of_ble_eq_true rfl) zNx ?_
    refine z_ifb_eq 18 O dX6_write_11 (by decide) (fun c_11 => ?_) (fun c_11 => ?_)
    · skip
      have k_11 := sBt_f.mp c_11
      refine z_iconst 0 O dX6_write_18 (by decide +kernel) ?_
      refine z_istore [(4, .int (iI 0)), (0, .ref q), (1, .int (iI w)), (2, .int (iI c)), (3, .int (iI v))] O dX6_write_19 (by decide) rfl ?_
      refine z_aload_n 1 O dX6_write_21 rfl ?_
      refine z_iload 0 O dX6_write_22 rfl ?_
      refine z_if_ne 31 O dX6_write_24 (by decide) ⟨by omega, by omega⟩ (fun c_24 => ?_) (fun c_24 => ?_)
      · exfalso; omega
      · skip
        refine z_iconst 1 O dX6_write_27 (by decide +kernel) ?_
        refine z_goto 64 O dX6_write_28 (by decide) ?_
        refine z_Vim [.int (iI 1)] [] kM_X6_118 O dX6_write_64 (c_X6_refused hst hO ⟨by omega, by omega⟩) rfl rfl hO.1 (by decide) (Nat.le_of_ble_eq_true rfl) (by omega) (by omega) (Nat.le_of_ble_eq_true rfl) zNx (fun H13 hp14 hz15 => ?_)
        obtain ⟨hf16, hz17⟩ := hp14
        have hT18 := hT.fr hf16 (by first | exact zT1 (by omega) | (show ¬ (_ ∨ _); omega) | (show ¬ (_ ∧ _); omega))
        have hR19 := hR.fr hf16 (by first | exact zT1 (by omega) | (show ¬ (_ ∨ _); omega) | (show ¬ (_ ∧ _); omega))
        have hA20 := hA.fr hf16 (by first | exact zT1 (by omega) | (show ¬ (_ ∨ _); omega) | (show ¬ (_ ∧ _); omega))
        have hY21 := hY.fr hf16 (by first | exact zT1 (by omega) | (show ¬ (_ ∨ _); omega) | (show ¬ (_ ∧ _); omega))
        have hD22 := hD.fr hf16 (by first | exact zT1 (by omega) | (show ¬ (_ ∨ _); omega) | (show ¬ (_ ∧ _); omega)) (by first | exact zT1 (by omega) | (show ¬ (_ ∨ _); omega) | (show ¬ (_ ∧ _); omega)) (by first | exact zT1 (by omega) | (show ¬ (_ ∨ _); omega) | (show ¬ (_ ∧ _); omega)) (by first | exact zT1 (by omega) | (show ¬ (_ ∨ _); omega) | (show ¬ (_ ∧ _); omega))
        have hK23 := hK.fr hf16 (by first | exact zT1 (by omega) | (show ¬ (_ ∨ _); omega) | (show ¬ (_ ∧ _); omega))
        have hI24 := hI.fr hf16 (by first | exact zT1 (by omega) | (show ¬ (_ ∨ _); omega) | (show ¬ (_ ∧ _); omega))
        rw [show zb (decide ((0 : Int) < 1)) = 1 from rfl]
        refine z_if_eq 72 O dX6_write_67 (by decide) ⟨by omega, by omega⟩ (fun c_67 => ?_) (fun c_67 => ?_)
        · exfalso; omega
        · skip
          refine z_iconst 0 O dX6_write_70 (by decide +kernel) ?_
          exact z_ireti O dX6_write_71 rfl (by omega) (by omega) hpo (by rw [if_neg (by rw [show (cWr G w c v) = 1 from by unfold cWr; (repeat first | rw [if_pos (by omega)] | rw [if_neg (by omega)] | rw [if_pos c_4] | rw [if_neg (by rw [c_11]; decide)])]; decide)]) (⟨(hf16.up (fun s h => by first | exact h.elim | omega | (simp at h ⊢; omega))), Or.inl ⟨(by rw [show (cWr G w c v) = 1 from by unfold cWr; (repeat first | rw [if_pos (by omega)] | rw [if_neg (by omega)] | rw [if_pos c_4] | rw [if_neg (by rw [c_11]; decide)])]; decide), (by rw [show (cWr G w c v) = 1 from by unfold cWr; (repeat first | rw [if_pos (by omega)] | rw [if_neg (by omega)] | rw [if_pos c_4] | rw [if_neg (by rw [c_11]; decide)])]; exact ⟨_, _, _, _, _, hz17, hT18, hR19, hA20, hY21, hD22, hK23, hI24⟩)⟩⟩)
    · skip
      have k_11 := sBt_t.mp c_11
      refine z_iconst 1 O dX6_write_14 (by decide +kernel) ?_
      refine z_goto 19 O dX6_write_15 (by decide) ?_
      refine z_istore [(4, .int (iI 1)), (0, .ref q), (1, .int (iI w)), (2, .int (iI c)), (3, .int (iI v))] O dX6_write_19 (by decide) rfl ?_
      refine z_aload_n 1 O dX6_write_21 rfl ?_
      refine z_iload 0 O dX6_write_22 rfl ?_
      refine z_if_ne 31 O dX6_write_24 (by decide) ⟨by omega, by omega⟩ (fun c_24 => ?_) (fun c_24 => ?_)
      · skip
        refine z_iload_n 4 O dX6_write_31 rfl ?_
        refine z_i2l O dX6_write_32 ⟨by omega, by omega⟩ ?_
        refine z_lconst 0 O dX6_write_33 (by decide +kernel) ?_
        refine z_ldc2 (iL 99) O dX6_write_34 (List.mem_of_getElem? (i := 1184) (by decide +kernel)) ?_
        refine z_Si [.long (iL v), .long (iL 0), .long (iL 99)] [.ref q] kM_X6_92 O dX6_write_37 (c_X6_in hst ⟨by omega, by omega⟩ ⟨by omega, by omega⟩ ⟨by omega, by omega⟩) rfl rfl (by decide) (Nat.le_of_ble_eq_true rfl) (by omega) (by omega) (Nat.le_of_ble_eq_true rfl) zNx ?_
        refine z_ifb_ne 47 O dX6_write_40 (by decide) (fun c_40 => ?_) (fun c_40 => ?_)
        · skip
          have k_40 := sBt_t.mp c_40
          refine z_aload_n 1 O dX6_write_47 rfl ?_
          refine z_getf kF_X6_16 O dX6_write_48 hO.1 rfl ?_
          refine z_iload_n 2 O dX6_write_51 rfl ?_
          refine z_iload_n 3 O dX6_write_52 rfl ?_
          refine z_Si [.ref (Q 3), .int (iI w), .int (iI c)] [.ref q] kM_X6_99 O dX6_write_53 (c_X6_reason hst hA hG ⟨by omega, by omega⟩ ⟨by omega, by omega⟩) rfl rfl (by decide) (Nat.le_of_ble_eq_true rfl) (by omega) (by omega) (Nat.le_of_ble_eq_true rfl) zNx ?_
          have hre := sRe_R hG (w := w) (c := c) ⟨by omega, by omega⟩
          refine z_if_ne 63 O dX6_write_56 (by decide) ⟨by omega, by omega⟩ (fun c_56 => ?_) (fun c_56 => ?_)
          · skip
            refine z_iconst 3 O dX6_write_63 (by decide +kernel) ?_
            refine z_Vim [.int (iI 3)] [] kM_X6_118 O dX6_write_64 (c_X6_refused hst hO ⟨by omega, by omega⟩) rfl rfl hO.1 (by decide) (Nat.le_of_ble_eq_true rfl) (by omega) (by omega) (Nat.le_of_ble_eq_true rfl) zNx (fun H25 hp26 hz27 => ?_)
            obtain ⟨hf28, hz29⟩ := hp26
            have hT30 := hT.fr hf28 (by first | exact zT1 (by omega) | (show ¬ (_ ∨ _); omega) | (show ¬ (_ ∧ _); omega))
            have hR31 := hR.fr hf28 (by first | exact zT1 (by omega) | (show ¬ (_ ∨ _); omega) | (show ¬ (_ ∧ _); omega))
            have hA32 := hA.fr hf28 (by first | exact zT1 (by omega) | (show ¬ (_ ∨ _); omega) | (show ¬ (_ ∧ _); omega))
            have hY33 := hY.fr hf28 (by first | exact zT1 (by omega) | (show ¬ (_ ∨ _); omega) | (show ¬ (_ ∧ _); omega))
            have hD34 := hD.fr hf28 (by first | exact zT1 (by omega) | (show ¬ (_ ∨ _); omega) | (show ¬ (_ ∧ _); omega)) (by first | exact zT1 (by omega) | (show ¬ (_ ∨ _); omega) | (show ¬ (_ ∧ _); omega)) (by first | exact zT1 (by omega) | (show ¬ (_ ∨ _); omega) | (show ¬ (_ ∧ _); omega)) (by first | exact zT1 (by omega) | (show ¬ (_ ∨ _); omega) | (show ¬ (_ ∧ _); omega))
            have hK35 := hK.fr hf28 (by first | exact zT1 (by omega) | (show ¬ (_ ∨ _); omega) | (show ¬ (_ ∧ _); omega))
            have hI36 := hI.fr hf28 (by first | exact zT1 (by omega) | (show ¬ (_ ∨ _); omega) | (show ¬ (_ ∧ _); omega))
            rw [show zb (decide ((0 : Int) < 3)) = 1 from rfl]
            refine z_if_eq 72 O dX6_write_67 (by decide) ⟨by omega, by omega⟩ (fun c_67 => ?_) (fun c_67 => ?_)
            · exfalso; omega
            · skip
              refine z_iconst 0 O dX6_write_70 (by decide +kernel) ?_
              exact z_ireti O dX6_write_71 rfl (by omega) (by omega) hpo (by rw [if_neg (by rw [show (cWr G w c v) = 3 from by unfold cWr; (repeat first | rw [if_pos (by omega)] | rw [if_neg (by omega)] | rw [if_pos c_4] | rw [if_pos c_11] | rw [if_pos c_40])]; decide)]) (⟨(hf28.up (fun s h => by first | exact h.elim | omega | (simp at h ⊢; omega))), Or.inl ⟨(by rw [show (cWr G w c v) = 3 from by unfold cWr; (repeat first | rw [if_pos (by omega)] | rw [if_neg (by omega)] | rw [if_pos c_4] | rw [if_pos c_11] | rw [if_pos c_40])]; decide), (by rw [show (cWr G w c v) = 3 from by unfold cWr; (repeat first | rw [if_pos (by omega)] | rw [if_neg (by omega)] | rw [if_pos c_4] | rw [if_pos c_11] | rw [if_pos c_40])]; exact ⟨_, _, _, _, _, hz29, hT30, hR31, hA32, hY33, hD34, hK35, hI36⟩)⟩⟩)
          · skip
            refine z_iconst 0 O dX6_write_59 (by decide +kernel) ?_
            refine z_goto 64 O dX6_write_60 (by decide) ?_
            refine z_Vim [.int (iI 0)] [] kM_X6_118 O dX6_write_64 (c_X6_refused hst hO ⟨by omega, by omega⟩) rfl rfl hO.1 (by decide) (Nat.le_of_ble_eq_true rfl) (by omega) (by omega) (Nat.le_of_ble_eq_true rfl) zNx (fun H37 hp38 hz39 => ?_)
            obtain ⟨hf40, hz41⟩ := hp38
            have hT42 := hT.fr hf40 (by first | exact zT1 (by omega) | (show ¬ (_ ∨ _); omega) | (show ¬ (_ ∧ _); omega))
            have hR43 := hR.fr hf40 (by first | exact zT1 (by omega) | (show ¬ (_ ∨ _); omega) | (show ¬ (_ ∧ _); omega))
            have hA44 := hA.fr hf40 (by first | exact zT1 (by omega) | (show ¬ (_ ∨ _); omega) | (show ¬ (_ ∧ _); omega))
            have hY45 := hY.fr hf40 (by first | exact zT1 (by omega) | (show ¬ (_ ∨ _); omega) | (show ¬ (_ ∧ _); omega))
            have hD46 := hD.fr hf40 (by first | exact zT1 (by omega) | (show ¬ (_ ∨ _); omega) | (show ¬ (_ ∧ _); omega)) (by first | exact zT1 (by omega) | (show ¬ (_ ∨ _); omega) | (show ¬ (_ ∧ _); omega)) (by first | exact zT1 (by omega) | (show ¬ (_ ∨ _); omega) | (show ¬ (_ ∧ _); omega)) (by first | exact zT1 (by omega) | (show ¬ (_ ∨ _); omega) | (show ¬ (_ ∧ _); omega))
            have hK47 := hK.fr hf40 (by first | exact zT1 (by omega) | (show ¬ (_ ∨ _); omega) | (show ¬ (_ ∧ _); omega))
            have hI48 := hI.fr hf40 (by first | exact zT1 (by omega) | (show ¬ (_ ∨ _); omega) | (show ¬ (_ ∧ _); omega))
            rw [show zb (decide ((0 : Int) < 0)) = 0 from rfl]
            refine z_if_eq 72 O dX6_write_67 (by decide) ⟨by omega, by omega⟩ (fun c_67 => ?_) (fun c_67 => ?_)
            · skip
              have hm := hG.m (w := w) ⟨by omega, by omega⟩
              have hl := hG.l (w := w) ⟨by omega, by omega⟩
              refine z_aload_n 1 O dX6_write_72 rfl ?_
              refine z_Vvm [] [] kM_X6_239 O dX6_write_73 (c_X6_remember hst hz41 hA44 hD46 hfi hac) rfl rfl hz41.1 (by decide) (Nat.le_of_ble_eq_true rfl) (by omega) (by omega) (Nat.le_of_ble_eq_true rfl) zNx (fun H49 hp50 hz51 => ?_)
              obtain ⟨hf52, hz53, hz54⟩ := hp50
              have hT55 := hT42.fr hf52 (by first | exact zT1 (by omega) | (show ¬ (_ ∨ _); omega) | (show ¬ (_ ∧ _); omega))
              have hR56 := hR43.fr hf52 (by first | exact zT1 (by omega) | (show ¬ (_ ∨ _); omega) | (show ¬ (_ ∧ _); omega))
              have hA57 := hA44.fr hf52 (by first | exact zT1 (by omega) | (show ¬ (_ ∨ _); omega) | (show ¬ (_ ∧ _); omega))
              have hY58 := hY45.fr hf52 (by first | exact zT1 (by omega) | (show ¬ (_ ∨ _); omega) | (show ¬ (_ ∧ _); omega))
              have hK59 := hK47.fr hf52 (by first | exact zT1 (by omega) | (show ¬ (_ ∨ _); omega) | (show ¬ (_ ∧ _); omega))
              have hI60 := hI48.fr hf52 (by first | exact zT1 (by omega) | (show ¬ (_ ∨ _); omega) | (show ¬ (_ ∧ _); omega))
              refine z_aload_n 1 O dX6_write_76 rfl ?_
              refine z_getf kF_X6_16 O dX6_write_77 hz53.1 rfl ?_
              refine z_iload_n 2 O dX6_write_80 rfl ?_
              refine z_iload_n 3 O dX6_write_81 rfl ?_
              refine z_iload_n 4 O dX6_write_82 rfl ?_
              refine z_Sim [.ref (Q 3), .int (iI w), .int (iI c), .int (iI v)] [] kM_X6_152 O dX6_write_83 (c_X6_writeIn hst hA57 ⟨by omega, by omega⟩ ⟨by omega, by omega⟩ ⟨by omega, by omega⟩) rfl rfl (by decide) (Nat.le_of_ble_eq_true rfl) (by omega) (by omega) (Nat.le_of_ble_eq_true rfl) zNx (fun H61 hp62 hz63 => ?_)
              obtain ⟨hf64, ha65⟩ := hp62
              have hz66 := hz53.fr hf64 (zT1 (by omega))
              have hT67 := hT55.fr hf64 (zT1 (by omega))
              have hR68 := hR56.fr hf64 (zT1 (by omega))
              have hY69 := hY58.fr hf64 (zT1 (by omega))
              have hz70 := hz54.fr hf64 (zT1 (by omega)) (zT1 (by omega)) (zT1 (by omega)) (zT1 (by omega))
              have hK71 := hK59.fr hf64 (zT1 (by omega))
              have hI72 := hI60.fr hf64 (zT1 (by omega))
              exact z_ireti O dX6_write_86 rfl (by omega) (by omega) hpo (by rw [if_pos (show (cWr G w c v) = 0 from by unfold cWr; (repeat first | rw [if_pos (by omega)] | rw [if_neg (by omega)] | rw [if_pos c_4] | rw [if_pos c_11] | rw [if_pos c_40]))]) (⟨(((((hf40.up (fun s h => by first | exact h.elim | omega | (simp at h ⊢; omega)))).tr (hf52.up (fun s h => by first | exact h.elim | omega | (simp at h ⊢; omega))))).tr (hf64.up (fun s h => by first | exact h.elim | omega | (simp at h ⊢; omega)))), Or.inr ⟨(show (cWr G w c v) = 0 from by unfold cWr; (repeat first | rw [if_pos (by omega)] | rw [if_neg (by omega)] | rw [if_pos c_4] | rw [if_pos c_11] | rw [if_pos c_40])), ⟨_, _, _, _, _, hz66, hT67, hR68, ha65, hY69, hz70, hK71, hI72⟩⟩⟩)
            · exfalso; omega
        · skip
          have k_40 := sBt_f.mp c_40
          refine z_iconst 2 O dX6_write_43 (by decide +kernel) ?_
          refine z_goto 64 O dX6_write_44 (by decide) ?_
          refine z_Vim [.int (iI 2)] [] kM_X6_118 O dX6_write_64 (c_X6_refused hst hO ⟨by omega, by omega⟩) rfl rfl hO.1 (by decide) (Nat.le_of_ble_eq_true rfl) (by omega) (by omega) (Nat.le_of_ble_eq_true rfl) zNx (fun H73 hp74 hz75 => ?_)
          obtain ⟨hf76, hz77⟩ := hp74
          have hT78 := hT.fr hf76 (by first | exact zT1 (by omega) | (show ¬ (_ ∨ _); omega) | (show ¬ (_ ∧ _); omega))
          have hR79 := hR.fr hf76 (by first | exact zT1 (by omega) | (show ¬ (_ ∨ _); omega) | (show ¬ (_ ∧ _); omega))
          have hA80 := hA.fr hf76 (by first | exact zT1 (by omega) | (show ¬ (_ ∨ _); omega) | (show ¬ (_ ∧ _); omega))
          have hY81 := hY.fr hf76 (by first | exact zT1 (by omega) | (show ¬ (_ ∨ _); omega) | (show ¬ (_ ∧ _); omega))
          have hD82 := hD.fr hf76 (by first | exact zT1 (by omega) | (show ¬ (_ ∨ _); omega) | (show ¬ (_ ∧ _); omega)) (by first | exact zT1 (by omega) | (show ¬ (_ ∨ _); omega) | (show ¬ (_ ∧ _); omega)) (by first | exact zT1 (by omega) | (show ¬ (_ ∨ _); omega) | (show ¬ (_ ∧ _); omega)) (by first | exact zT1 (by omega) | (show ¬ (_ ∨ _); omega) | (show ¬ (_ ∧ _); omega))
          have hK83 := hK.fr hf76 (by first | exact zT1 (by omega) | (show ¬ (_ ∨ _); omega) | (show ¬ (_ ∧ _); omega))
          have hI84 := hI.fr hf76 (by first | exact zT1 (by omega) | (show ¬ (_ ∨ _); omega) | (show ¬ (_ ∧ _); omega))
          rw [show zb (decide ((0 : Int) < 2)) = 1 from rfl]
          refine z_if_eq 72 O dX6_write_67 (by decide) ⟨by omega, by omega⟩ (fun c_67 => ?_) (fun c_67 => ?_)
          · exfalso; omega
          · skip
            refine z_iconst 0 O dX6_write_70 (by decide +kernel) ?_
            exact z_ireti O dX6_write_71 rfl (by omega) (by omega) hpo (by rw [if_neg (by rw [show (cWr G w c v) = 2 from by unfold cWr; (repeat first | rw [if_pos (by omega)] | rw [if_neg (by omega)] | rw [if_pos c_4] | rw [if_pos c_11] | rw [if_neg (by rw [c_40]; decide)])]; decide)]) (⟨(hf76.up (fun s h => by first | exact h.elim | omega | (simp at h ⊢; omega))), Or.inl ⟨(by rw [show (cWr G w c v) = 2 from by unfold cWr; (repeat first | rw [if_pos (by omega)] | rw [if_neg (by omega)] | rw [if_pos c_4] | rw [if_pos c_11] | rw [if_neg (by rw [c_40]; decide)])]; decide), (by rw [show (cWr G w c v) = 2 from by unfold cWr; (repeat first | rw [if_pos (by omega)] | rw [if_neg (by omega)] | rw [if_pos c_4] | rw [if_pos c_11] | rw [if_neg (by rw [c_40]; decide)])]; exact ⟨_, _, _, _, _, hz77, hT78, hR79, hA80, hY81, hD82, hK83, hI84⟩)⟩⟩)
      · exfalso; omega

theorem c_X6_regret {E : zE} (hst : E.1.stackTraces = false) {H : Heap} {r : zH} {q : Nat} {Q : Nat → Nat} {n : Int} {tx G : Int → Int} {fi ac : Int} {dd : Nat → Int → Int} {kp ik : Int → Int} {rf N : Int} {w c v : Int} (hM : zMs E H r q Q n tx G fi ac dd kp ik rf) (hOK : mOK n tx G fi ac ik N) (hw : zR w) (hc : zR c) (hv : zR v) : zC E yX6_regret cX6_regret 5 (some .int) 6 131 [.ref q, .int (iI w), .int (iI c), .int (iI v)] H 0 0 (zRi (if (cRg G w c v) = 0 then (sRg (sRegret G w c v) w (G (at_ w 0) - 1)) else 0) (fun H1 => zFr H r H1 r (fun s => 100000 ≤ s) ∧ (((cRg G w c v) ≠ 0 ∧ zMs E H1 r q Q n tx G fi ac dd kp ik (cRg G w c v)) ∨ ((cRg G w c v) = 0 ∧ zMs E H1 r q Q n tx (sRegret G w c v) (mFi fi ac) (mAc ac) (zDw dd (mIx fi ac) G) kp ik 0)))) zN := by
  refine zC.of (by decide) (Nat.le_of_ble_eq_true rfl) hst ?_
  intro x O hE hpo hpx
  subst hE
  change zG x H 0 0 0 [(0, .ref q), (1, .int (iI w)), (2, .int (iI c)), (3, .int (iI v))] []
  obtain ⟨sp, gd, lo, rd, tr, hO, hT, hR, hA, hY, hD, hK, hI⟩ := hM
  obtain ⟨hn, hx, hG, hN, hfi, hac, hik⟩ := hOK
  refine z_iload_n 1 O dX6_regret_0 rfl ?_
  refine z_Si [.int (iI w)] [] kM_X6_232 O dX6_regret_1 (c_X6_isWorker hst ⟨by omega, by omega⟩) rfl rfl (by decide) (Nat.le_of_ble_eq_true rfl) (by omega) (by omega) (Nat.le_of_ble_eq_true rfl) zNx ?_
  refine z_ifb_eq 18 O dX6_regret_4 (by decide) (fun c_4 => ?_) (fun c_4 => ?_)
  · skip
    have k_4 := sBt_f.mp c_4
    refine z_iconst 0 O dX6_regret_18 (by decide +kernel) ?_
    refine z_istore [(4, .int (iI 0)), (0, .ref q), (1, .int (iI w)), (2, .int (iI c)), (3, .int (iI v))] O dX6_regret_19 (by decide) rfl ?_
    refine z_aload_n 1 O dX6_regret_21 rfl ?_
    refine z_iload 0 O dX6_regret_22 rfl ?_
    refine z_if_ne 31 O dX6_regret_24 (by decide) ⟨by omega, by omega⟩ (fun c_24 => ?_) (fun c_24 => ?_)
    · exfalso; omega
    · skip
      refine z_iconst 1 O dX6_regret_27 (by decide +kernel) ?_
      refine z_goto 64 O dX6_regret_28 (by decide) ?_
      refine z_Vim [.int (iI 1)] [] kM_X6_118 O dX6_regret_64 (c_X6_refused hst hO ⟨by omega, by omega⟩) rfl rfl hO.1 (by decide) (Nat.le_of_ble_eq_true rfl) (by omega) (by omega) (Nat.le_of_ble_eq_true rfl) zNx (fun H1 hp2 hz3 => ?_)
      obtain ⟨hf4, hz5⟩ := hp2
      have hT6 := hT.fr hf4 (by first | exact zT1 (by omega) | (show ¬ (_ ∨ _); omega) | (show ¬ (_ ∧ _); omega))
      have hR7 := hR.fr hf4 (by first | exact zT1 (by omega) | (show ¬ (_ ∨ _); omega) | (show ¬ (_ ∧ _); omega))
      have hA8 := hA.fr hf4 (by first | exact zT1 (by omega) | (show ¬ (_ ∨ _); omega) | (show ¬ (_ ∧ _); omega))
      have hY9 := hY.fr hf4 (by first | exact zT1 (by omega) | (show ¬ (_ ∨ _); omega) | (show ¬ (_ ∧ _); omega))
      have hD10 := hD.fr hf4 (by first | exact zT1 (by omega) | (show ¬ (_ ∨ _); omega) | (show ¬ (_ ∧ _); omega)) (by first | exact zT1 (by omega) | (show ¬ (_ ∨ _); omega) | (show ¬ (_ ∧ _); omega)) (by first | exact zT1 (by omega) | (show ¬ (_ ∨ _); omega) | (show ¬ (_ ∧ _); omega)) (by first | exact zT1 (by omega) | (show ¬ (_ ∨ _); omega) | (show ¬ (_ ∧ _); omega))
      have hK11 := hK.fr hf4 (by first | exact zT1 (by omega) | (show ¬ (_ ∨ _); omega) | (show ¬ (_ ∧ _); omega))
      have hI12 := hI.fr hf4 (by first | exact zT1 (by omega) | (show ¬ (_ ∨ _); omega) | (show ¬ (_ ∧ _); omega))
      rw [show zb (decide ((0 : Int) < 1)) = 1 from rfl]
      refine z_if_eq 72 O dX6_regret_67 (by decide) ⟨by omega, by omega⟩ (fun c_67 => ?_) (fun c_67 => ?_)
      · exfalso; omega
      · skip
        refine z_iconst 0 O dX6_regret_70 (by decide +kernel) ?_
        exact z_ireti O dX6_regret_71 rfl (by omega) (by omega) hpo (by rw [if_neg (by rw [show (cRg G w c v) = 1 from by unfold cRg; (repeat first | rw [if_pos (by omega)] | rw [if_neg (by omega)] | rw [if_neg (by rw [c_4]; decide)])]; decide)]) (⟨(hf4.up (fun s h => by first | exact h.elim | omega | (simp at h ⊢; omega))), Or.inl ⟨(by rw [show (cRg G w c v) = 1 from by unfold cRg; (repeat first | rw [if_pos (by omega)] | rw [if_neg (by omega)] | rw [if_neg (by rw [c_4]; decide)])]; decide), (by rw [show (cRg G w c v) = 1 from by unfold cRg; (repeat first | rw [if_pos (by omega)] | rw [if_neg (by omega)] | rw [if_neg (by rw [c_4]; decide)])]; exact ⟨_, _, _, _, _, hz5, hT6, hR7, hA8, hY9, hD10, hK11, hI12⟩)⟩⟩)
  · skip
    have k_4 := sBt_t.mp c_4
    refine z_iload_n 2 O dX6_regret_7 rfl ?_
    refine z_Si [.int (iI c)] [] kM_X6_226 O dX6_regret_8 (c_X6_isCell hst ⟨by omega, by omega⟩) rfl rfl (by decide) (Nat.le_of_ble_eq_true rfl) (by omega) (by omega) (Nat.le_of_ble_eq_true rfl) zNx ?_
    refine z_ifb_eq 18 O dX6_regret_11 (by decide) (fun c_11 => ?_) (fun c_11 => ?_)
    · skip
      have k_11 := sBt_f.mp c_11
      refine z_iconst 0 O dX6_regret_18 (by decide +kernel) ?_
      refine z_istore [(4, .int (iI 0)), (0, .ref q), (1, .int (iI w)), (2, .int (iI c)), (3, .int (iI v))] O dX6_regret_19 (by decide) rfl ?_
      refine z_aload_n 1 O dX6_regret_21 rfl ?_
      refine z_iload 0 O dX6_regret_22 rfl ?_
      refine z_if_ne 31 O dX6_regret_24 (by decide) ⟨by omega, by omega⟩ (fun c_24 => ?_) (fun c_24 => ?_)
      · exfalso; omega
      · skip
        refine z_iconst 1 O dX6_regret_27 (by decide +kernel) ?_
        refine z_goto 64 O dX6_regret_28 (by decide) ?_
        refine z_Vim [.int (iI 1)] [] kM_X6_118 O dX6_regret_64 (c_X6_refused hst hO ⟨by omega, by omega⟩) rfl rfl hO.1 (by decide) (Nat.le_of_ble_eq_true rfl) (by omega) (by omega) (Nat.le_of_ble_eq_true rfl) zNx (fun H13 hp14 hz15 => ?_)
        obtain ⟨hf16, hz17⟩ := hp14
        have hT18 := hT.fr hf16 (by first | exact zT1 (by omega) | (show ¬ (_ ∨ _); omega) | (show ¬ (_ ∧ _); omega))
        have hR19 := hR.fr hf16 (by first | exact zT1 (by omega) | (show ¬ (_ ∨ _); omega) | (show ¬ (_ ∧ _); omega))
        have hA20 := hA.fr hf16 (by first | exact zT1 (by omega) | (show ¬ (_ ∨ _); omega) | (show ¬ (_ ∧ _); omega))
        have hY21 := hY.fr hf16 (by first | exact zT1 (by omega) | (show ¬ (_ ∨ _); omega) | (show ¬ (_ ∧ _); omega))
        have hD22 := hD.fr hf16 (by first | exact zT1 (by omega) | (show ¬ (_ ∨ _); omega) | (show ¬ (_ ∧ _); omega)) (by first | exact zT1 (by omega) | (show ¬ (_ ∨ _); omega) | (show ¬ (_ ∧ _); omega)) (by first | exact zT1 (by omega) | (show ¬ (_ ∨ _); omega) | (show ¬ (_ ∧ _); omega)) (by first | exact zT1 (by omega) | (show ¬ (_ ∨ _); omega) | (show ¬ (_ ∧ _); omega))
        have hK23 := hK.fr hf16 (by first | exact zT1 (by omega) | (show ¬ (_ ∨ _); omega) | (show ¬ (_ ∧ _); omega))
        have hI24 := hI.fr hf16 (by first | exact zT1 (by omega) | (show ¬ (_ ∨ _); omega) | (show ¬ (_ ∧ _); omega))
        rw [show zb (decide ((0 : Int) < 1)) = 1 from rfl]
        refine z_if_eq 72 O dX6_regret_67 (by decide) ⟨by omega, by omega⟩ (fun c_67 => ?_) (fun c_67 => ?_)
        · exfalso; omega
        · skip
          refine z_iconst 0 O dX6_regret_70 (by decide +kernel) ?_
          exact z_ireti O dX6_regret_71 rfl (by omega) (by omega) hpo (by rw [if_neg (by rw [show (cRg G w c v) = 1 from by unfold cRg; (repeat first | rw [if_pos (by omega)] | rw [if_neg (by omega)] | rw [if_pos c_4] | rw [if_neg (by rw [c_11]; decide)])]; decide)]) (⟨(hf16.up (fun s h => by first | exact h.elim | omega | (simp at h ⊢; omega))), Or.inl ⟨(by rw [show (cRg G w c v) = 1 from by unfold cRg; (repeat first | rw [if_pos (by omega)] | rw [if_neg (by omega)] | rw [if_pos c_4] | rw [if_neg (by rw [c_11]; decide)])]; decide), (by rw [show (cRg G w c v) = 1 from by unfold cRg; (repeat first | rw [if_pos (by omega)] | rw [if_neg (by omega)] | rw [if_pos c_4] | rw [if_neg (by rw [c_11]; decide)])]; exact ⟨_, _, _, _, _, hz17, hT18, hR19, hA20, hY21, hD22, hK23, hI24⟩)⟩⟩)
    · skip
      have k_11 := sBt_t.mp c_11
      refine z_iconst 1 O dX6_regret_14 (by decide +kernel) ?_
      refine z_goto 19 O dX6_regret_15 (by decide) ?_
      refine z_istore [(4, .int (iI 1)), (0, .ref q), (1, .int (iI w)), (2, .int (iI c)), (3, .int (iI v))] O dX6_regret_19 (by decide) rfl ?_
      refine z_aload_n 1 O dX6_regret_21 rfl ?_
      refine z_iload 0 O dX6_regret_22 rfl ?_
      refine z_if_ne 31 O dX6_regret_24 (by decide) ⟨by omega, by omega⟩ (fun c_24 => ?_) (fun c_24 => ?_)
      · skip
        refine z_iload_n 4 O dX6_regret_31 rfl ?_
        refine z_i2l O dX6_regret_32 ⟨by omega, by omega⟩ ?_
        refine z_lconst 1 O dX6_regret_33 (by decide +kernel) ?_
        refine z_ldc2 (iL 99) O dX6_regret_34 (List.mem_of_getElem? (i := 1184) (by decide +kernel)) ?_
        refine z_Si [.long (iL v), .long (iL 1), .long (iL 99)] [.ref q] kM_X6_92 O dX6_regret_37 (c_X6_in hst ⟨by omega, by omega⟩ ⟨by omega, by omega⟩ ⟨by omega, by omega⟩) rfl rfl (by decide) (Nat.le_of_ble_eq_true rfl) (by omega) (by omega) (Nat.le_of_ble_eq_true rfl) zNx ?_
        refine z_ifb_ne 47 O dX6_regret_40 (by decide) (fun c_40 => ?_) (fun c_40 => ?_)
        · skip
          have k_40 := sBt_t.mp c_40
          refine z_aload_n 1 O dX6_regret_47 rfl ?_
          refine z_getf kF_X6_16 O dX6_regret_48 hO.1 rfl ?_
          refine z_iload_n 2 O dX6_regret_51 rfl ?_
          refine z_iload_n 3 O dX6_regret_52 rfl ?_
          refine z_Si [.ref (Q 3), .int (iI w), .int (iI c)] [.ref q] kM_X6_156 O dX6_regret_53 (c_X6_canRegret hst hA hG ⟨by omega, by omega⟩ ⟨by omega, by omega⟩) rfl rfl (by decide) (Nat.le_of_ble_eq_true rfl) (by omega) (by omega) (Nat.le_of_ble_eq_true rfl) zNx ?_
          refine z_ifb_eq 63 O dX6_regret_56 (by decide) (fun c_56 => ?_) (fun c_56 => ?_)
          · skip
            have k_56 := sCr_f.mp c_56
            refine z_iconst 3 O dX6_regret_63 (by decide +kernel) ?_
            refine z_Vim [.int (iI 3)] [] kM_X6_118 O dX6_regret_64 (c_X6_refused hst hO ⟨by omega, by omega⟩) rfl rfl hO.1 (by decide) (Nat.le_of_ble_eq_true rfl) (by omega) (by omega) (Nat.le_of_ble_eq_true rfl) zNx (fun H25 hp26 hz27 => ?_)
            obtain ⟨hf28, hz29⟩ := hp26
            have hT30 := hT.fr hf28 (by first | exact zT1 (by omega) | (show ¬ (_ ∨ _); omega) | (show ¬ (_ ∧ _); omega))
            have hR31 := hR.fr hf28 (by first | exact zT1 (by omega) | (show ¬ (_ ∨ _); omega) | (show ¬ (_ ∧ _); omega))
            have hA32 := hA.fr hf28 (by first | exact zT1 (by omega) | (show ¬ (_ ∨ _); omega) | (show ¬ (_ ∧ _); omega))
            have hY33 := hY.fr hf28 (by first | exact zT1 (by omega) | (show ¬ (_ ∨ _); omega) | (show ¬ (_ ∧ _); omega))
            have hD34 := hD.fr hf28 (by first | exact zT1 (by omega) | (show ¬ (_ ∨ _); omega) | (show ¬ (_ ∧ _); omega)) (by first | exact zT1 (by omega) | (show ¬ (_ ∨ _); omega) | (show ¬ (_ ∧ _); omega)) (by first | exact zT1 (by omega) | (show ¬ (_ ∨ _); omega) | (show ¬ (_ ∧ _); omega)) (by first | exact zT1 (by omega) | (show ¬ (_ ∨ _); omega) | (show ¬ (_ ∧ _); omega))
            have hK35 := hK.fr hf28 (by first | exact zT1 (by omega) | (show ¬ (_ ∨ _); omega) | (show ¬ (_ ∧ _); omega))
            have hI36 := hI.fr hf28 (by first | exact zT1 (by omega) | (show ¬ (_ ∨ _); omega) | (show ¬ (_ ∧ _); omega))
            rw [show zb (decide ((0 : Int) < 3)) = 1 from rfl]
            refine z_if_eq 72 O dX6_regret_67 (by decide) ⟨by omega, by omega⟩ (fun c_67 => ?_) (fun c_67 => ?_)
            · exfalso; omega
            · skip
              refine z_iconst 0 O dX6_regret_70 (by decide +kernel) ?_
              exact z_ireti O dX6_regret_71 rfl (by omega) (by omega) hpo (by rw [if_neg (by rw [show (cRg G w c v) = 3 from by unfold cRg; (repeat first | rw [if_pos (by omega)] | rw [if_neg (by omega)] | rw [if_pos c_4] | rw [if_pos c_11] | rw [if_pos c_40] | rw [if_neg (by rw [c_56]; decide)])]; decide)]) (⟨(hf28.up (fun s h => by first | exact h.elim | omega | (simp at h ⊢; omega))), Or.inl ⟨(by rw [show (cRg G w c v) = 3 from by unfold cRg; (repeat first | rw [if_pos (by omega)] | rw [if_neg (by omega)] | rw [if_pos c_4] | rw [if_pos c_11] | rw [if_pos c_40] | rw [if_neg (by rw [c_56]; decide)])]; decide), (by rw [show (cRg G w c v) = 3 from by unfold cRg; (repeat first | rw [if_pos (by omega)] | rw [if_neg (by omega)] | rw [if_pos c_4] | rw [if_pos c_11] | rw [if_pos c_40] | rw [if_neg (by rw [c_56]; decide)])]; exact ⟨_, _, _, _, _, hz29, hT30, hR31, hA32, hY33, hD34, hK35, hI36⟩)⟩⟩)
          · skip
            have k_56 := sCr_t.mp c_56
            refine z_iconst 0 O dX6_regret_59 (by decide +kernel) ?_
            refine z_goto 64 O dX6_regret_60 (by decide) ?_
            refine z_Vim [.int (iI 0)] [] kM_X6_118 O dX6_regret_64 (c_X6_refused hst hO ⟨by omega, by omega⟩) rfl rfl hO.1 (by decide) (Nat.le_of_ble_eq_true rfl) (by omega) (by omega) (Nat.le_of_ble_eq_true rfl) zNx (fun H37 hp38 hz39 => ?_)
            obtain ⟨hf40, hz41⟩ := hp38
            have hT42 := hT.fr hf40 (by first | exact zT1 (by omega) | (show ¬ (_ ∨ _); omega) | (show ¬ (_ ∧ _); omega))
            have hR43 := hR.fr hf40 (by first | exact zT1 (by omega) | (show ¬ (_ ∨ _); omega) | (show ¬ (_ ∧ _); omega))
            have hA44 := hA.fr hf40 (by first | exact zT1 (by omega) | (show ¬ (_ ∨ _); omega) | (show ¬ (_ ∧ _); omega))
            have hY45 := hY.fr hf40 (by first | exact zT1 (by omega) | (show ¬ (_ ∨ _); omega) | (show ¬ (_ ∧ _); omega))
            have hD46 := hD.fr hf40 (by first | exact zT1 (by omega) | (show ¬ (_ ∨ _); omega) | (show ¬ (_ ∧ _); omega)) (by first | exact zT1 (by omega) | (show ¬ (_ ∨ _); omega) | (show ¬ (_ ∧ _); omega)) (by first | exact zT1 (by omega) | (show ¬ (_ ∨ _); omega) | (show ¬ (_ ∧ _); omega)) (by first | exact zT1 (by omega) | (show ¬ (_ ∨ _); omega) | (show ¬ (_ ∧ _); omega))
            have hK47 := hK.fr hf40 (by first | exact zT1 (by omega) | (show ¬ (_ ∨ _); omega) | (show ¬ (_ ∧ _); omega))
            have hI48 := hI.fr hf40 (by first | exact zT1 (by omega) | (show ¬ (_ ∨ _); omega) | (show ¬ (_ ∧ _); omega))
            rw [show zb (decide ((0 : Int) < 0)) = 0 from rfl]
            refine z_if_eq 72 O dX6_regret_67 (by decide) ⟨by omega, by omega⟩ (fun c_67 => ?_) (fun c_67 => ?_)
            · skip
              have hm := hG.m (w := w) ⟨by omega, by omega⟩
              have hl := hG.l (w := w) ⟨by omega, by omega⟩
              refine z_aload_n 1 O dX6_regret_72 rfl ?_
              have hmm := sRe_m (G := G) (w := w) (c := c) (by omega)
              refine z_Vvm [] [] kM_X6_239 O dX6_regret_73 (c_X6_remember hst hz41 hA44 hD46 hfi hac) rfl rfl hz41.1 (by decide) (Nat.le_of_ble_eq_true rfl) (by omega) (by omega) (Nat.le_of_ble_eq_true rfl) zNx (fun H49 hp50 hz51 => ?_)
              obtain ⟨hf52, hz53, hz54⟩ := hp50
              have hT55 := hT42.fr hf52 (by first | exact zT1 (by omega) | (show ¬ (_ ∨ _); omega) | (show ¬ (_ ∧ _); omega))
              have hR56 := hR43.fr hf52 (by first | exact zT1 (by omega) | (show ¬ (_ ∨ _); omega) | (show ¬ (_ ∧ _); omega))
              have hA57 := hA44.fr hf52 (by first | exact zT1 (by omega) | (show ¬ (_ ∨ _); omega) | (show ¬ (_ ∧ _); omega))
              have hY58 := hY45.fr hf52 (by first | exact zT1 (by omega) | (show ¬ (_ ∨ _); omega) | (show ¬ (_ ∧ _); omega))
              have hK59 := hK47.fr hf52 (by first | exact zT1 (by omega) | (show ¬ (_ ∨ _); omega) | (show ¬ (_ ∧ _); omega))
              have hI60 := hI48.fr hf52 (by first | exact zT1 (by omega) | (show ¬ (_ ∨ _); omega) | (show ¬ (_ ∧ _); omega))
              refine z_aload_n 1 O dX6_regret_76 rfl ?_
              refine z_getf kF_X6_16 O dX6_regret_77 hz53.1 rfl ?_
              refine z_iload_n 2 O dX6_regret_80 rfl ?_
              refine z_iload_n 3 O dX6_regret_81 rfl ?_
              refine z_iload_n 4 O dX6_regret_82 rfl ?_
              refine z_Sim [.ref (Q 3), .int (iI w), .int (iI c), .int (iI v)] [] kM_X6_160 O dX6_regret_83 (c_X6_regretIn hst hA57 ⟨by omega, by omega⟩ ⟨by omega, by omega⟩ ⟨by omega, by omega⟩ ⟨by omega, by omega⟩) rfl rfl (by decide) (Nat.le_of_ble_eq_true rfl) (by omega) (by omega) (Nat.le_of_ble_eq_true rfl) zNx (fun H61 hp62 hz63 => ?_)
              obtain ⟨hf64, ha65⟩ := hp62
              have hz66 := hz53.fr hf64 (zT1 (by omega))
              have hT67 := hT55.fr hf64 (zT1 (by omega))
              have hR68 := hR56.fr hf64 (zT1 (by omega))
              have hY69 := hY58.fr hf64 (zT1 (by omega))
              have hz70 := hz54.fr hf64 (zT1 (by omega)) (zT1 (by omega)) (zT1 (by omega)) (zT1 (by omega))
              have hK71 := hK59.fr hf64 (zT1 (by omega))
              have hI72 := hI60.fr hf64 (zT1 (by omega))
              exact z_ireti O dX6_regret_86 rfl (by omega) (by omega) hpo (by rw [if_pos (show (cRg G w c v) = 0 from by unfold cRg; (repeat first | rw [if_pos (by omega)] | rw [if_neg (by omega)] | rw [if_pos c_4] | rw [if_pos c_11] | rw [if_pos c_40] | rw [if_pos c_56]))]) (⟨(((((hf40.up (fun s h => by first | exact h.elim | omega | (simp at h ⊢; omega)))).tr (hf52.up (fun s h => by first | exact h.elim | omega | (simp at h ⊢; omega))))).tr (hf64.up (fun s h => by first | exact h.elim | omega | (simp at h ⊢; omega)))), Or.inr ⟨(show (cRg G w c v) = 0 from by unfold cRg; (repeat first | rw [if_pos (by omega)] | rw [if_neg (by omega)] | rw [if_pos c_4] | rw [if_pos c_11] | rw [if_pos c_40] | rw [if_pos c_56])), ⟨_, _, _, _, _, hz66, hT67, hR68, ha65, hY69, hz70, hK71, hI72⟩⟩⟩)
            · exfalso; omega
        · skip
          have k_40 := sBt_f.mp c_40
          refine z_iconst 2 O dX6_regret_43 (by decide +kernel) ?_
          refine z_goto 64 O dX6_regret_44 (by decide) ?_
          refine z_Vim [.int (iI 2)] [] kM_X6_118 O dX6_regret_64 (c_X6_refused hst hO ⟨by omega, by omega⟩) rfl rfl hO.1 (by decide) (Nat.le_of_ble_eq_true rfl) (by omega) (by omega) (Nat.le_of_ble_eq_true rfl) zNx (fun H73 hp74 hz75 => ?_)
          obtain ⟨hf76, hz77⟩ := hp74
          have hT78 := hT.fr hf76 (by first | exact zT1 (by omega) | (show ¬ (_ ∨ _); omega) | (show ¬ (_ ∧ _); omega))
          have hR79 := hR.fr hf76 (by first | exact zT1 (by omega) | (show ¬ (_ ∨ _); omega) | (show ¬ (_ ∧ _); omega))
          have hA80 := hA.fr hf76 (by first | exact zT1 (by omega) | (show ¬ (_ ∨ _); omega) | (show ¬ (_ ∧ _); omega))
          have hY81 := hY.fr hf76 (by first | exact zT1 (by omega) | (show ¬ (_ ∨ _); omega) | (show ¬ (_ ∧ _); omega))
          have hD82 := hD.fr hf76 (by first | exact zT1 (by omega) | (show ¬ (_ ∨ _); omega) | (show ¬ (_ ∧ _); omega)) (by first | exact zT1 (by omega) | (show ¬ (_ ∨ _); omega) | (show ¬ (_ ∧ _); omega)) (by first | exact zT1 (by omega) | (show ¬ (_ ∨ _); omega) | (show ¬ (_ ∧ _); omega)) (by first | exact zT1 (by omega) | (show ¬ (_ ∨ _); omega) | (show ¬ (_ ∧ _); omega))
          have hK83 := hK.fr hf76 (by first | exact zT1 (by omega) | (show ¬ (_ ∨ _); omega) | (show ¬ (_ ∧ _); omega))
          have hI84 := hI.fr hf76 (by first | exact zT1 (by omega) | (show ¬ (_ ∨ _); omega) | (show ¬ (_ ∧ _); omega))
          rw [show zb (decide ((0 : Int) < 2)) = 1 from rfl]
          refine z_if_eq 72 O dX6_regret_67 (by decide) ⟨by omega, by omega⟩ (fun c_67 => ?_) (fun c_67 => ?_)
          · exfalso; omega
          · skip
            refine z_iconst 0 O dX6_regret_70 (by decide +kernel) ?_
            exact z_ireti O dX6_regret_71 rfl (by omega) (by omega) hpo (by rw [if_neg (by rw [show (cRg G w c v) = 2 from by unfold cRg; (repeat first | rw [if_pos (by omega)] | rw [if_neg (by omega)] | rw [if_pos c_4] | rw [if_pos c_11] | rw [if_neg (by rw [c_40]; decide)])]; decide)]) (⟨(hf76.up (fun s h => by first | exact h.elim | omega | (simp at h ⊢; omega))), Or.inl ⟨(by rw [show (cRg G w c v) = 2 from by unfold cRg; (repeat first | rw [if_pos (by omega)] | rw [if_neg (by omega)] | rw [if_pos c_4] | rw [if_pos c_11] | rw [if_neg (by rw [c_40]; decide)])]; decide), (by rw [show (cRg G w c v) = 2 from by unfold cRg; (repeat first | rw [if_pos (by omega)] | rw [if_neg (by omega)] | rw [if_pos c_4] | rw [if_pos c_11] | rw [if_neg (by rw [c_40]; decide)])]; exact ⟨_, _, _, _, _, hz77, hT78, hR79, hA80, hY81, hD82, hK83, hI84⟩)⟩⟩)
      · exfalso; omega

theorem c_X6_back {E : zE} (hst : E.1.stackTraces = false) {H : Heap} {r : zH} {q : Nat} {Q : Nat → Nat} {n : Int} {tx G : Int → Int} {fi ac : Int} {dd : Nat → Int → Int} {kp ik : Int → Int} {rf N : Int} {w i : Int} (hM : zMs E H r q Q n tx G fi ac dd kp ik rf) (hOK : mOK n tx G fi ac ik N) (hw : zR w) (hi : zR i) : zC E yX6_back cX6_back 4 (some .int) 4 88 [.ref q, .int (iI w), .int (iI i)] H 0 0 (zRi (if (cBk G w i) = 0 then (G (at_ w 1) - G (sIn G w (5 + i))) else 0) (fun H1 => zFr H r H1 r (fun s => 100000 ≤ s) ∧ (((cBk G w i) ≠ 0 ∧ zMs E H1 r q Q n tx G fi ac dd kp ik (cBk G w i)) ∨ ((cBk G w i) = 0 ∧ zMs E H1 r q Q n tx (sBack G w i) (mFi fi ac) (mAc ac) (zDw dd (mIx fi ac) G) kp ik 0)))) zN := by
  refine zC.of (by decide) (Nat.le_of_ble_eq_true rfl) hst ?_
  intro x O hE hpo hpx
  subst hE
  change zG x H 0 0 0 [(0, .ref q), (1, .int (iI w)), (2, .int (iI i))] []
  obtain ⟨sp, gd, lo, rd, tr, hO, hT, hR, hA, hY, hD, hK, hI⟩ := hM
  obtain ⟨hn, hx, hG, hN, hfi, hac, hik⟩ := hOK
  refine z_iload_n 1 O dX6_back_0 rfl ?_
  refine z_Si [.int (iI w)] [] kM_X6_232 O dX6_back_1 (c_X6_isWorker hst ⟨by omega, by omega⟩) rfl rfl (by decide) (Nat.le_of_ble_eq_true rfl) (by omega) (by omega) (Nat.le_of_ble_eq_true rfl) zNx ?_
  refine z_ifb_eq 23 O dX6_back_4 (by decide) (fun c_4 => ?_) (fun c_4 => ?_)
  · skip
    have k_4 := sBt_f.mp c_4
    refine z_iconst 0 O dX6_back_23 (by decide +kernel) ?_
    refine z_istore_n [(3, .int (iI 0)), (0, .ref q), (1, .int (iI w)), (2, .int (iI i))] O dX6_back_24 (by decide) rfl ?_
    refine z_aload_n 1 O dX6_back_25 rfl ?_
    refine z_iload_n 0 O dX6_back_26 rfl ?_
    refine z_if_ne 34 O dX6_back_27 (by decide) ⟨by omega, by omega⟩ (fun c_27 => ?_) (fun c_27 => ?_)
    · exfalso; omega
    · skip
      refine z_iconst 1 O dX6_back_30 (by decide +kernel) ?_
      refine z_goto 50 O dX6_back_31 (by decide) ?_
      refine z_Vim [.int (iI 1)] [] kM_X6_118 O dX6_back_50 (c_X6_refused hst hO ⟨by omega, by omega⟩) rfl rfl hO.1 (by decide) (Nat.le_of_ble_eq_true rfl) (by omega) (by omega) (Nat.le_of_ble_eq_true rfl) zNx (fun H1 hp2 hz3 => ?_)
      obtain ⟨hf4, hz5⟩ := hp2
      have hT6 := hT.fr hf4 (by first | exact zT1 (by omega) | (show ¬ (_ ∨ _); omega) | (show ¬ (_ ∧ _); omega))
      have hR7 := hR.fr hf4 (by first | exact zT1 (by omega) | (show ¬ (_ ∨ _); omega) | (show ¬ (_ ∧ _); omega))
      have hA8 := hA.fr hf4 (by first | exact zT1 (by omega) | (show ¬ (_ ∨ _); omega) | (show ¬ (_ ∧ _); omega))
      have hY9 := hY.fr hf4 (by first | exact zT1 (by omega) | (show ¬ (_ ∨ _); omega) | (show ¬ (_ ∧ _); omega))
      have hD10 := hD.fr hf4 (by first | exact zT1 (by omega) | (show ¬ (_ ∨ _); omega) | (show ¬ (_ ∧ _); omega)) (by first | exact zT1 (by omega) | (show ¬ (_ ∨ _); omega) | (show ¬ (_ ∧ _); omega)) (by first | exact zT1 (by omega) | (show ¬ (_ ∨ _); omega) | (show ¬ (_ ∧ _); omega)) (by first | exact zT1 (by omega) | (show ¬ (_ ∨ _); omega) | (show ¬ (_ ∧ _); omega))
      have hK11 := hK.fr hf4 (by first | exact zT1 (by omega) | (show ¬ (_ ∨ _); omega) | (show ¬ (_ ∧ _); omega))
      have hI12 := hI.fr hf4 (by first | exact zT1 (by omega) | (show ¬ (_ ∨ _); omega) | (show ¬ (_ ∧ _); omega))
      rw [show zb (decide ((0 : Int) < 1)) = 1 from rfl]
      refine z_if_eq 58 O dX6_back_53 (by decide) ⟨by omega, by omega⟩ (fun c_53 => ?_) (fun c_53 => ?_)
      · exfalso; omega
      · skip
        refine z_iconst 0 O dX6_back_56 (by decide +kernel) ?_
        exact z_ireti O dX6_back_57 rfl (by omega) (by omega) hpo (by rw [if_neg (by rw [show (cBk G w i) = 1 from by unfold cBk; (repeat first | rw [if_pos (by omega)] | rw [if_neg (by omega)] | rw [if_neg (by rw [c_4]; decide)])]; decide)]) (⟨(hf4.up (fun s h => by first | exact h.elim | omega | (simp at h ⊢; omega))), Or.inl ⟨(by rw [show (cBk G w i) = 1 from by unfold cBk; (repeat first | rw [if_pos (by omega)] | rw [if_neg (by omega)] | rw [if_neg (by rw [c_4]; decide)])]; decide), (by rw [show (cBk G w i) = 1 from by unfold cBk; (repeat first | rw [if_pos (by omega)] | rw [if_neg (by omega)] | rw [if_neg (by rw [c_4]; decide)])]; exact ⟨_, _, _, _, _, hz5, hT6, hR7, hA8, hY9, hD10, hK11, hI12⟩)⟩⟩)
  · skip
    have k_4 := sBt_t.mp c_4
    refine z_aload_n 0 O dX6_back_7 rfl ?_
    refine z_getf kF_X6_16 O dX6_back_8 hO.1 rfl ?_
    refine z_iload_n 1 O dX6_back_11 rfl ?_
    refine z_iload_n 2 O dX6_back_12 rfl ?_
    refine z_Si [.ref (Q 3), .int (iI w), .int (iI i)] [] kM_X6_163 O dX6_back_13 (c_X6_hasPoint hst hA hG ⟨by omega, by omega⟩ ⟨by omega, by omega⟩) rfl rfl (by decide) (Nat.le_of_ble_eq_true rfl) (by omega) (by omega) (Nat.le_of_ble_eq_true rfl) zNx ?_
    refine z_ifb_eq 23 O dX6_back_16 (by decide) (fun c_16 => ?_) (fun c_16 => ?_)
    · skip
      have k_16 := sHp_f.mp c_16
      refine z_iconst 0 O dX6_back_23 (by decide +kernel) ?_
      refine z_istore_n [(3, .int (iI 0)), (0, .ref q), (1, .int (iI w)), (2, .int (iI i))] O dX6_back_24 (by decide) rfl ?_
      refine z_aload_n 1 O dX6_back_25 rfl ?_
      refine z_iload_n 0 O dX6_back_26 rfl ?_
      refine z_if_ne 34 O dX6_back_27 (by decide) ⟨by omega, by omega⟩ (fun c_27 => ?_) (fun c_27 => ?_)
      · exfalso; omega
      · skip
        refine z_iconst 1 O dX6_back_30 (by decide +kernel) ?_
        refine z_goto 50 O dX6_back_31 (by decide) ?_
        refine z_Vim [.int (iI 1)] [] kM_X6_118 O dX6_back_50 (c_X6_refused hst hO ⟨by omega, by omega⟩) rfl rfl hO.1 (by decide) (Nat.le_of_ble_eq_true rfl) (by omega) (by omega) (Nat.le_of_ble_eq_true rfl) zNx (fun H13 hp14 hz15 => ?_)
        obtain ⟨hf16, hz17⟩ := hp14
        have hT18 := hT.fr hf16 (by first | exact zT1 (by omega) | (show ¬ (_ ∨ _); omega) | (show ¬ (_ ∧ _); omega))
        have hR19 := hR.fr hf16 (by first | exact zT1 (by omega) | (show ¬ (_ ∨ _); omega) | (show ¬ (_ ∧ _); omega))
        have hA20 := hA.fr hf16 (by first | exact zT1 (by omega) | (show ¬ (_ ∨ _); omega) | (show ¬ (_ ∧ _); omega))
        have hY21 := hY.fr hf16 (by first | exact zT1 (by omega) | (show ¬ (_ ∨ _); omega) | (show ¬ (_ ∧ _); omega))
        have hD22 := hD.fr hf16 (by first | exact zT1 (by omega) | (show ¬ (_ ∨ _); omega) | (show ¬ (_ ∧ _); omega)) (by first | exact zT1 (by omega) | (show ¬ (_ ∨ _); omega) | (show ¬ (_ ∧ _); omega)) (by first | exact zT1 (by omega) | (show ¬ (_ ∨ _); omega) | (show ¬ (_ ∧ _); omega)) (by first | exact zT1 (by omega) | (show ¬ (_ ∨ _); omega) | (show ¬ (_ ∧ _); omega))
        have hK23 := hK.fr hf16 (by first | exact zT1 (by omega) | (show ¬ (_ ∨ _); omega) | (show ¬ (_ ∧ _); omega))
        have hI24 := hI.fr hf16 (by first | exact zT1 (by omega) | (show ¬ (_ ∨ _); omega) | (show ¬ (_ ∧ _); omega))
        rw [show zb (decide ((0 : Int) < 1)) = 1 from rfl]
        refine z_if_eq 58 O dX6_back_53 (by decide) ⟨by omega, by omega⟩ (fun c_53 => ?_) (fun c_53 => ?_)
        · exfalso; omega
        · skip
          refine z_iconst 0 O dX6_back_56 (by decide +kernel) ?_
          exact z_ireti O dX6_back_57 rfl (by omega) (by omega) hpo (by rw [if_neg (by rw [show (cBk G w i) = 1 from by unfold cBk; (repeat first | rw [if_pos (by omega)] | rw [if_neg (by omega)] | rw [if_pos c_4] | rw [if_neg (by rw [c_16]; decide)])]; decide)]) (⟨(hf16.up (fun s h => by first | exact h.elim | omega | (simp at h ⊢; omega))), Or.inl ⟨(by rw [show (cBk G w i) = 1 from by unfold cBk; (repeat first | rw [if_pos (by omega)] | rw [if_neg (by omega)] | rw [if_pos c_4] | rw [if_neg (by rw [c_16]; decide)])]; decide), (by rw [show (cBk G w i) = 1 from by unfold cBk; (repeat first | rw [if_pos (by omega)] | rw [if_neg (by omega)] | rw [if_pos c_4] | rw [if_neg (by rw [c_16]; decide)])]; exact ⟨_, _, _, _, _, hz17, hT18, hR19, hA20, hY21, hD22, hK23, hI24⟩)⟩⟩)
    · skip
      have k_16 := sHp_t.mp c_16
      refine z_iconst 1 O dX6_back_19 (by decide +kernel) ?_
      refine z_goto 24 O dX6_back_20 (by decide) ?_
      refine z_istore_n [(3, .int (iI 1)), (0, .ref q), (1, .int (iI w)), (2, .int (iI i))] O dX6_back_24 (by decide) rfl ?_
      refine z_aload_n 1 O dX6_back_25 rfl ?_
      refine z_iload_n 0 O dX6_back_26 rfl ?_
      refine z_if_ne 34 O dX6_back_27 (by decide) ⟨by omega, by omega⟩ (fun c_27 => ?_) (fun c_27 => ?_)
      · skip
        refine z_aload_n 1 O dX6_back_34 rfl ?_
        refine z_getf kF_X6_16 O dX6_back_35 hO.1 rfl ?_
        refine z_iload_n 2 O dX6_back_38 rfl ?_
        refine z_Si [.ref (Q 3), .int (iI w)] [.ref q] kM_X6_81 O dX6_back_39 (c_X6_isSpoiled hst hA hG ⟨by omega, by omega⟩) rfl rfl (by decide) (Nat.le_of_ble_eq_true rfl) (by omega) (by omega) (Nat.le_of_ble_eq_true rfl) zNx ?_
        refine z_ifb_eq 49 O dX6_back_42 (by decide) (fun c_42 => ?_) (fun c_42 => ?_)
        · skip
          have k_42 := sSp_f.mp c_42
          refine z_iconst 0 O dX6_back_49 (by decide +kernel) ?_
          refine z_Vim [.int (iI 0)] [] kM_X6_118 O dX6_back_50 (c_X6_refused hst hO ⟨by omega, by omega⟩) rfl rfl hO.1 (by decide) (Nat.le_of_ble_eq_true rfl) (by omega) (by omega) (Nat.le_of_ble_eq_true rfl) zNx (fun H25 hp26 hz27 => ?_)
          obtain ⟨hf28, hz29⟩ := hp26
          have hT30 := hT.fr hf28 (by first | exact zT1 (by omega) | (show ¬ (_ ∨ _); omega) | (show ¬ (_ ∧ _); omega))
          have hR31 := hR.fr hf28 (by first | exact zT1 (by omega) | (show ¬ (_ ∨ _); omega) | (show ¬ (_ ∧ _); omega))
          have hA32 := hA.fr hf28 (by first | exact zT1 (by omega) | (show ¬ (_ ∨ _); omega) | (show ¬ (_ ∧ _); omega))
          have hY33 := hY.fr hf28 (by first | exact zT1 (by omega) | (show ¬ (_ ∨ _); omega) | (show ¬ (_ ∧ _); omega))
          have hD34 := hD.fr hf28 (by first | exact zT1 (by omega) | (show ¬ (_ ∨ _); omega) | (show ¬ (_ ∧ _); omega)) (by first | exact zT1 (by omega) | (show ¬ (_ ∨ _); omega) | (show ¬ (_ ∧ _); omega)) (by first | exact zT1 (by omega) | (show ¬ (_ ∨ _); omega) | (show ¬ (_ ∧ _); omega)) (by first | exact zT1 (by omega) | (show ¬ (_ ∨ _); omega) | (show ¬ (_ ∧ _); omega))
          have hK35 := hK.fr hf28 (by first | exact zT1 (by omega) | (show ¬ (_ ∨ _); omega) | (show ¬ (_ ∧ _); omega))
          have hI36 := hI.fr hf28 (by first | exact zT1 (by omega) | (show ¬ (_ ∨ _); omega) | (show ¬ (_ ∧ _); omega))
          rw [show zb (decide ((0 : Int) < 0)) = 0 from rfl]
          refine z_if_eq 58 O dX6_back_53 (by decide) ⟨by omega, by omega⟩ (fun c_53 => ?_) (fun c_53 => ?_)
          · skip
            have hm := hG.m (w := w) ⟨by omega, by omega⟩
            have hl := hG.l (w := w) ⟨by omega, by omega⟩
            refine z_aload_n 1 O dX6_back_58 rfl ?_
            refine z_Vvm [] [] kM_X6_239 O dX6_back_59 (c_X6_remember hst hz29 hA32 hD34 hfi hac) rfl rfl hz29.1 (by decide) (Nat.le_of_ble_eq_true rfl) (by omega) (by omega) (Nat.le_of_ble_eq_true rfl) zNx (fun H37 hp38 hz39 => ?_)
            obtain ⟨hf40, hz41, hz42⟩ := hp38
            have hT43 := hT30.fr hf40 (by first | exact zT1 (by omega) | (show ¬ (_ ∨ _); omega) | (show ¬ (_ ∧ _); omega))
            have hR44 := hR31.fr hf40 (by first | exact zT1 (by omega) | (show ¬ (_ ∨ _); omega) | (show ¬ (_ ∧ _); omega))
            have hA45 := hA32.fr hf40 (by first | exact zT1 (by omega) | (show ¬ (_ ∨ _); omega) | (show ¬ (_ ∧ _); omega))
            have hY46 := hY33.fr hf40 (by first | exact zT1 (by omega) | (show ¬ (_ ∨ _); omega) | (show ¬ (_ ∧ _); omega))
            have hK47 := hK35.fr hf40 (by first | exact zT1 (by omega) | (show ¬ (_ ∨ _); omega) | (show ¬ (_ ∧ _); omega))
            have hI48 := hI36.fr hf40 (by first | exact zT1 (by omega) | (show ¬ (_ ∨ _); omega) | (show ¬ (_ ∧ _); omega))
            refine z_aload_n 1 O dX6_back_62 rfl ?_
            refine z_getf kF_X6_16 O dX6_back_63 hz41.1 rfl ?_
            refine z_iload_n 2 O dX6_back_66 rfl ?_
            refine z_iload_n 3 O dX6_back_67 rfl ?_
            refine z_Sim [.ref (Q 3), .int (iI w), .int (iI i)] [] kM_X6_166 O dX6_back_68 (c_X6_backIn hst hA45 hG ⟨by omega, by omega⟩ (by omega) ⟨by omega, by omega⟩) rfl rfl (by decide) (Nat.le_of_ble_eq_true rfl) (by omega) (by omega) (Nat.le_of_ble_eq_true rfl) zNx (fun H49 hp50 hz51 => ?_)
            obtain ⟨hf52, ha53⟩ := hp50
            have hz54 := hz41.fr hf52 (zT1 (by omega))
            have hT55 := hT43.fr hf52 (zT1 (by omega))
            have hR56 := hR44.fr hf52 (zT1 (by omega))
            have hY57 := hY46.fr hf52 (zT1 (by omega))
            have hz58 := hz42.fr hf52 (zT1 (by omega)) (zT1 (by omega)) (zT1 (by omega)) (zT1 (by omega))
            have hK59 := hK47.fr hf52 (zT1 (by omega))
            have hI60 := hI48.fr hf52 (zT1 (by omega))
            exact z_ireti O dX6_back_71 rfl (by omega) (by omega) hpo (by rw [if_pos (show (cBk G w i) = 0 from by unfold cBk; (repeat first | rw [if_pos (by omega)] | rw [if_neg (by omega)] | rw [if_pos c_4] | rw [if_pos c_16] | rw [if_neg (by rw [c_42]; decide)]))]) (⟨(((((hf28.up (fun s h => by first | exact h.elim | omega | (simp at h ⊢; omega)))).tr (hf40.up (fun s h => by first | exact h.elim | omega | (simp at h ⊢; omega))))).tr (hf52.up (fun s h => by first | exact h.elim | omega | (simp at h ⊢; omega)))), Or.inr ⟨(show (cBk G w i) = 0 from by unfold cBk; (repeat first | rw [if_pos (by omega)] | rw [if_neg (by omega)] | rw [if_pos c_4] | rw [if_pos c_16] | rw [if_neg (by rw [c_42]; decide)])), ⟨_, _, _, _, _, hz54, hT55, hR56, ha53, hY57, hz58, hK59, hI60⟩⟩⟩)
          · exfalso; omega
        · skip
          have k_42 := sSp_t.mp c_42
          refine z_iconst 2 O dX6_back_45 (by decide +kernel) ?_
          refine z_goto 50 O dX6_back_46 (by decide) ?_
          refine z_Vim [.int (iI 2)] [] kM_X6_118 O dX6_back_50 (c_X6_refused hst hO ⟨by omega, by omega⟩) rfl rfl hO.1 (by decide) (Nat.le_of_ble_eq_true rfl) (by omega) (by omega) (Nat.le_of_ble_eq_true rfl) zNx (fun H61 hp62 hz63 => ?_)
          obtain ⟨hf64, hz65⟩ := hp62
          have hT66 := hT.fr hf64 (by first | exact zT1 (by omega) | (show ¬ (_ ∨ _); omega) | (show ¬ (_ ∧ _); omega))
          have hR67 := hR.fr hf64 (by first | exact zT1 (by omega) | (show ¬ (_ ∨ _); omega) | (show ¬ (_ ∧ _); omega))
          have hA68 := hA.fr hf64 (by first | exact zT1 (by omega) | (show ¬ (_ ∨ _); omega) | (show ¬ (_ ∧ _); omega))
          have hY69 := hY.fr hf64 (by first | exact zT1 (by omega) | (show ¬ (_ ∨ _); omega) | (show ¬ (_ ∧ _); omega))
          have hD70 := hD.fr hf64 (by first | exact zT1 (by omega) | (show ¬ (_ ∨ _); omega) | (show ¬ (_ ∧ _); omega)) (by first | exact zT1 (by omega) | (show ¬ (_ ∨ _); omega) | (show ¬ (_ ∧ _); omega)) (by first | exact zT1 (by omega) | (show ¬ (_ ∨ _); omega) | (show ¬ (_ ∧ _); omega)) (by first | exact zT1 (by omega) | (show ¬ (_ ∨ _); omega) | (show ¬ (_ ∧ _); omega))
          have hK71 := hK.fr hf64 (by first | exact zT1 (by omega) | (show ¬ (_ ∨ _); omega) | (show ¬ (_ ∧ _); omega))
          have hI72 := hI.fr hf64 (by first | exact zT1 (by omega) | (show ¬ (_ ∨ _); omega) | (show ¬ (_ ∧ _); omega))
          rw [show zb (decide ((0 : Int) < 2)) = 1 from rfl]
          refine z_if_eq 58 O dX6_back_53 (by decide) ⟨by omega, by omega⟩ (fun c_53 => ?_) (fun c_53 => ?_)
          · exfalso; omega
          · skip
            refine z_iconst 0 O dX6_back_56 (by decide +kernel) ?_
            exact z_ireti O dX6_back_57 rfl (by omega) (by omega) hpo (by rw [if_neg (by rw [show (cBk G w i) = 2 from by unfold cBk; (repeat first | rw [if_pos (by omega)] | rw [if_neg (by omega)] | rw [if_pos c_4] | rw [if_pos c_16] | rw [if_pos c_42])]; decide)]) (⟨(hf64.up (fun s h => by first | exact h.elim | omega | (simp at h ⊢; omega))), Or.inl ⟨(by rw [show (cBk G w i) = 2 from by unfold cBk; (repeat first | rw [if_pos (by omega)] | rw [if_neg (by omega)] | rw [if_pos c_4] | rw [if_pos c_16] | rw [if_pos c_42])]; decide), (by rw [show (cBk G w i) = 2 from by unfold cBk; (repeat first | rw [if_pos (by omega)] | rw [if_neg (by omega)] | rw [if_pos c_4] | rw [if_pos c_16] | rw [if_pos c_42])]; exact ⟨_, _, _, _, _, hz65, hT66, hR67, hA68, hY69, hD70, hK71, hI72⟩)⟩⟩)
      · exfalso; omega

theorem c_X6_setMercy {E : zE} (hst : E.1.stackTraces = false) {H : Heap} {r : zH} {q : Nat} {Q : Nat → Nat} {n : Int} {tx G : Int → Int} {fi ac : Int} {dd : Nat → Int → Int} {kp ik : Int → Int} {rf N : Int} {v : Int} (hM : zMs E H r q Q n tx G fi ac dd kp ik rf) (hOK : mOK n tx G fi ac ik N) (hv : zR v) : zC E yX6_setMercy cX6_setMercy 3 (some .int) 3 68 [.ref q, .int (iI v)] H 0 0 (zRi (if (cMe v) = 0 then (G 32) else 0) (fun H1 => zFr H r H1 r (fun s => 100000 ≤ s) ∧ (((cMe v) ≠ 0 ∧ zMs E H1 r q Q n tx G fi ac dd kp ik (cMe v)) ∨ ((cMe v) = 0 ∧ zMs E H1 r q Q n tx (zU G 32 v) (mFi fi ac) (mAc ac) (zDw dd (mIx fi ac) G) kp ik 0)))) zN := by
  refine zC.of (by decide) (Nat.le_of_ble_eq_true rfl) hst ?_
  intro x O hE hpo hpx
  subst hE
  change zG x H 0 0 0 [(0, .ref q), (1, .int (iI v))] []
  obtain ⟨sp, gd, lo, rd, tr, hO, hT, hR, hA, hY, hD, hK, hI⟩ := hM
  obtain ⟨hn, hx, hG, hN, hfi, hac, hik⟩ := hOK
  refine z_aload_n 0 O dX6_setMercy_0 rfl ?_
  refine z_iload_n 1 O dX6_setMercy_1 rfl ?_
  refine z_i2l O dX6_setMercy_2 ⟨by omega, by omega⟩ ?_
  refine z_lconst 0 O dX6_setMercy_3 (by decide +kernel) ?_
  refine z_ldc2 (iL 3) O dX6_setMercy_4 (List.mem_of_getElem? (i := 1209) (by decide +kernel)) ?_
  refine z_Si [.long (iL v), .long (iL 0), .long (iL 3)] [.ref q] kM_X6_92 O dX6_setMercy_7 (c_X6_in hst ⟨by omega, by omega⟩ ⟨by omega, by omega⟩ ⟨by omega, by omega⟩) rfl rfl (by decide) (Nat.le_of_ble_eq_true rfl) (by omega) (by omega) (Nat.le_of_ble_eq_true rfl) zNx ?_
  refine z_ifb_eq 17 O dX6_setMercy_10 (by decide) (fun c_10 => ?_) (fun c_10 => ?_)
  · skip
    have k_10 := sBt_f.mp c_10
    refine z_iconst 1 O dX6_setMercy_17 (by decide +kernel) ?_
    refine z_Vim [.int (iI 1)] [] kM_X6_118 O dX6_setMercy_18 (c_X6_refused hst hO ⟨by omega, by omega⟩) rfl rfl hO.1 (by decide) (Nat.le_of_ble_eq_true rfl) (by omega) (by omega) (Nat.le_of_ble_eq_true rfl) zNx (fun H1 hp2 hz3 => ?_)
    obtain ⟨hf4, hz5⟩ := hp2
    have hT6 := hT.fr hf4 (by first | exact zT1 (by omega) | (show ¬ (_ ∨ _); omega) | (show ¬ (_ ∧ _); omega))
    have hR7 := hR.fr hf4 (by first | exact zT1 (by omega) | (show ¬ (_ ∨ _); omega) | (show ¬ (_ ∧ _); omega))
    have hA8 := hA.fr hf4 (by first | exact zT1 (by omega) | (show ¬ (_ ∨ _); omega) | (show ¬ (_ ∧ _); omega))
    have hY9 := hY.fr hf4 (by first | exact zT1 (by omega) | (show ¬ (_ ∨ _); omega) | (show ¬ (_ ∧ _); omega))
    have hD10 := hD.fr hf4 (by first | exact zT1 (by omega) | (show ¬ (_ ∨ _); omega) | (show ¬ (_ ∧ _); omega)) (by first | exact zT1 (by omega) | (show ¬ (_ ∨ _); omega) | (show ¬ (_ ∧ _); omega)) (by first | exact zT1 (by omega) | (show ¬ (_ ∨ _); omega) | (show ¬ (_ ∧ _); omega)) (by first | exact zT1 (by omega) | (show ¬ (_ ∨ _); omega) | (show ¬ (_ ∧ _); omega))
    have hK11 := hK.fr hf4 (by first | exact zT1 (by omega) | (show ¬ (_ ∨ _); omega) | (show ¬ (_ ∧ _); omega))
    have hI12 := hI.fr hf4 (by first | exact zT1 (by omega) | (show ¬ (_ ∨ _); omega) | (show ¬ (_ ∧ _); omega))
    rw [show zb (decide ((0 : Int) < 1)) = 1 from rfl]
    refine z_if_eq 26 O dX6_setMercy_21 (by decide) ⟨by omega, by omega⟩ (fun c_21 => ?_) (fun c_21 => ?_)
    · exfalso; omega
    · skip
      refine z_iconst 0 O dX6_setMercy_24 (by decide +kernel) ?_
      exact z_ireti O dX6_setMercy_25 rfl (by omega) (by omega) hpo (by rw [if_neg (by rw [show (cMe v) = 1 from by unfold cMe; (repeat first | rw [if_pos (by omega)] | rw [if_neg (by omega)] | rw [if_neg (by rw [c_10]; decide)])]; decide)]) (⟨(hf4.up (fun s h => by first | exact h.elim | omega | (simp at h ⊢; omega))), Or.inl ⟨(by rw [show (cMe v) = 1 from by unfold cMe; (repeat first | rw [if_pos (by omega)] | rw [if_neg (by omega)] | rw [if_neg (by rw [c_10]; decide)])]; decide), (by rw [show (cMe v) = 1 from by unfold cMe; (repeat first | rw [if_pos (by omega)] | rw [if_neg (by omega)] | rw [if_neg (by rw [c_10]; decide)])]; exact ⟨_, _, _, _, _, hz5, hT6, hR7, hA8, hY9, hD10, hK11, hI12⟩)⟩⟩)
  · skip
    have k_10 := sBt_t.mp c_10
    refine z_iconst 0 O dX6_setMercy_13 (by decide +kernel) ?_
    refine z_goto 18 O dX6_setMercy_14 (by decide) ?_
    refine z_Vim [.int (iI 0)] [] kM_X6_118 O dX6_setMercy_18 (c_X6_refused hst hO ⟨by omega, by omega⟩) rfl rfl hO.1 (by decide) (Nat.le_of_ble_eq_true rfl) (by omega) (by omega) (Nat.le_of_ble_eq_true rfl) zNx (fun H13 hp14 hz15 => ?_)
    obtain ⟨hf16, hz17⟩ := hp14
    have hT18 := hT.fr hf16 (by first | exact zT1 (by omega) | (show ¬ (_ ∨ _); omega) | (show ¬ (_ ∧ _); omega))
    have hR19 := hR.fr hf16 (by first | exact zT1 (by omega) | (show ¬ (_ ∨ _); omega) | (show ¬ (_ ∧ _); omega))
    have hA20 := hA.fr hf16 (by first | exact zT1 (by omega) | (show ¬ (_ ∨ _); omega) | (show ¬ (_ ∧ _); omega))
    have hY21 := hY.fr hf16 (by first | exact zT1 (by omega) | (show ¬ (_ ∨ _); omega) | (show ¬ (_ ∧ _); omega))
    have hD22 := hD.fr hf16 (by first | exact zT1 (by omega) | (show ¬ (_ ∨ _); omega) | (show ¬ (_ ∧ _); omega)) (by first | exact zT1 (by omega) | (show ¬ (_ ∨ _); omega) | (show ¬ (_ ∧ _); omega)) (by first | exact zT1 (by omega) | (show ¬ (_ ∨ _); omega) | (show ¬ (_ ∧ _); omega)) (by first | exact zT1 (by omega) | (show ¬ (_ ∨ _); omega) | (show ¬ (_ ∧ _); omega))
    have hK23 := hK.fr hf16 (by first | exact zT1 (by omega) | (show ¬ (_ ∨ _); omega) | (show ¬ (_ ∧ _); omega))
    have hI24 := hI.fr hf16 (by first | exact zT1 (by omega) | (show ¬ (_ ∨ _); omega) | (show ¬ (_ ∧ _); omega))
    rw [show zb (decide ((0 : Int) < 0)) = 0 from rfl]
    refine z_if_eq 26 O dX6_setMercy_21 (by decide) ⟨by omega, by omega⟩ (fun c_21 => ?_) (fun c_21 => ?_)
    · skip
      refine z_aload_n 0 O dX6_setMercy_26 rfl ?_
      refine z_Vvm [] [] kM_X6_239 O dX6_setMercy_27 (c_X6_remember hst hz17 hA20 hD22 hfi hac) rfl rfl hz17.1 (by decide) (Nat.le_of_ble_eq_true rfl) (by omega) (by omega) (Nat.le_of_ble_eq_true rfl) zNx (fun H25 hp26 hz27 => ?_)
      obtain ⟨hf28, hz29, hz30⟩ := hp26
      have hT31 := hT18.fr hf28 (by first | exact zT1 (by omega) | (show ¬ (_ ∨ _); omega) | (show ¬ (_ ∧ _); omega))
      have hR32 := hR19.fr hf28 (by first | exact zT1 (by omega) | (show ¬ (_ ∨ _); omega) | (show ¬ (_ ∧ _); omega))
      have hA33 := hA20.fr hf28 (by first | exact zT1 (by omega) | (show ¬ (_ ∨ _); omega) | (show ¬ (_ ∧ _); omega))
      have hY34 := hY21.fr hf28 (by first | exact zT1 (by omega) | (show ¬ (_ ∨ _); omega) | (show ¬ (_ ∧ _); omega))
      have hK35 := hK23.fr hf28 (by first | exact zT1 (by omega) | (show ¬ (_ ∨ _); omega) | (show ¬ (_ ∧ _); omega))
      have hI36 := hI24.fr hf28 (by first | exact zT1 (by omega) | (show ¬ (_ ∨ _); omega) | (show ¬ (_ ∧ _); omega))
      refine z_aload_n 0 O dX6_setMercy_30 rfl ?_
      refine z_getf kF_X6_16 O dX6_setMercy_31 hz29.1 rfl ?_
      refine z_bipush 32 O dX6_setMercy_34 (by decide +kernel) ?_
      refine z_iald O dX6_setMercy_36 hA33.1 ⟨by omega, by omega⟩ (by omega) (by omega) ?_
      refine z_istore_n [(2, .int (iI (G 32))), (0, .ref q), (1, .int (iI v))] O dX6_setMercy_37 (by decide) rfl ?_
      refine z_aload_n 1 O dX6_setMercy_38 rfl ?_
      refine z_getf kF_X6_16 O dX6_setMercy_39 hz29.1 rfl ?_
      refine z_bipush 32 O dX6_setMercy_42 (by decide +kernel) ?_
      refine z_iload_n 2 O dX6_setMercy_44 rfl ?_
      refine z_iast O dX6_setMercy_45 hA33.1 ⟨by omega, by omega⟩ (by omega) (by omega) (fun H37 hA38 hC39 => ?_)
      have hf40 := hA33.ch hC39
      have ha41 : zA (zEn x) H37 r 100003 (Q 3) 4086 (zU G 32 v) := ⟨hA38, hA33.2⟩
      have hz42 := hz29.fr hf40 (zT1 (by omega))
      have hT43 := hT31.fr hf40 (zT1 (by omega))
      have hR44 := hR32.fr hf40 (zT1 (by omega))
      have hY45 := hY34.fr hf40 (zT1 (by omega))
      have hz46 := hz30.fr hf40 (zT1 (by omega)) (zT1 (by omega)) (zT1 (by omega)) (zT1 (by omega))
      have hK47 := hK35.fr hf40 (zT1 (by omega))
      have hI48 := hI36.fr hf40 (zT1 (by omega))
      refine z_iload_n 0 O dX6_setMercy_46 rfl ?_
      exact z_ireti O dX6_setMercy_47 rfl (by omega) (by omega) hpo (by rw [if_pos (show (cMe v) = 0 from by unfold cMe; (repeat first | rw [if_pos (by omega)] | rw [if_neg (by omega)] | rw [if_pos c_10]))]) (⟨(((((hf16.up (fun s h => by first | exact h.elim | omega | (simp at h ⊢; omega)))).tr (hf28.up (fun s h => by first | exact h.elim | omega | (simp at h ⊢; omega))))).tr (hf40.up (fun s h => by first | exact h.elim | omega | (simp at h ⊢; omega)))), Or.inr ⟨(show (cMe v) = 0 from by unfold cMe; (repeat first | rw [if_pos (by omega)] | rw [if_neg (by omega)] | rw [if_pos c_10])), ⟨_, _, _, _, _, hz42, hT43, hR44, ha41, hY45, hz46, hK47, hI48⟩⟩⟩)
    · exfalso; omega

theorem c_X6_undo {E : zE} (hst : E.1.stackTraces = false) {H : Heap} {r : zH} {q : Nat} {Q : Nat → Nat} {n : Int} {tx G : Int → Int} {fi ac : Int} {dd : Nat → Int → Int} {kp ik : Int → Int} {rf N : Int} (hM : zMs E H r q Q n tx G fi ac dd kp ik rf) (hOK : mOK n tx G fi ac ik N) : zC E yX6_undo cX6_undo 1 (some .int) 2 48 [.ref q] H 0 0 (zRi (if (cUn ac) = 0 then (ac - 1) else 0) (fun H1 => zFr H r H1 r (fun s => 100000 ≤ s) ∧ (((cUn ac) ≠ 0 ∧ zMs E H1 r q Q n tx G fi ac dd kp ik (cUn ac)) ∨ ((cUn ac) = 0 ∧ zMs E H1 r q Q n tx (zDr dd ((fi + (ac - 1)) % 16)) fi (ac - 1) dd kp ik 0)))) zN := by
  refine zC.of (by decide) (Nat.le_of_ble_eq_true rfl) hst ?_
  intro x O hE hpo hpx
  subst hE
  change zG x H 0 0 0 [(0, .ref q)] []
  obtain ⟨sp, gd, lo, rd, tr, hO, hT, hR, hA, hY, hD, hK, hI⟩ := hM
  obtain ⟨hn, hx, hG, hN, hfi, hac, hik⟩ := hOK
  refine z_aload_n 0 O dX6_undo_0 rfl ?_
  refine z_aload_n 0 O dX6_undo_1 rfl ?_
  refine z_getf kF_X6_58 O dX6_undo_2 hO.1 rfl ?_
  refine z_if_ne 12 O dX6_undo_5 (by decide) ⟨by omega, by omega⟩ (fun c_5 => ?_) (fun c_5 => ?_)
  · skip
    refine z_iconst 0 O dX6_undo_12 (by decide +kernel) ?_
    refine z_Vim [.int (iI 0)] [] kM_X6_118 O dX6_undo_13 (c_X6_refused hst hO ⟨by omega, by omega⟩) rfl rfl hO.1 (by decide) (Nat.le_of_ble_eq_true rfl) (by omega) (by omega) (Nat.le_of_ble_eq_true rfl) zNx (fun H1 hp2 hz3 => ?_)
    obtain ⟨hf4, hz5⟩ := hp2
    have hT6 := hT.fr hf4 (by first | exact zT1 (by omega) | (show ¬ (_ ∨ _); omega) | (show ¬ (_ ∧ _); omega))
    have hR7 := hR.fr hf4 (by first | exact zT1 (by omega) | (show ¬ (_ ∨ _); omega) | (show ¬ (_ ∧ _); omega))
    have hA8 := hA.fr hf4 (by first | exact zT1 (by omega) | (show ¬ (_ ∨ _); omega) | (show ¬ (_ ∧ _); omega))
    have hY9 := hY.fr hf4 (by first | exact zT1 (by omega) | (show ¬ (_ ∨ _); omega) | (show ¬ (_ ∧ _); omega))
    have hD10 := hD.fr hf4 (by first | exact zT1 (by omega) | (show ¬ (_ ∨ _); omega) | (show ¬ (_ ∧ _); omega)) (by first | exact zT1 (by omega) | (show ¬ (_ ∨ _); omega) | (show ¬ (_ ∧ _); omega)) (by first | exact zT1 (by omega) | (show ¬ (_ ∨ _); omega) | (show ¬ (_ ∧ _); omega)) (by first | exact zT1 (by omega) | (show ¬ (_ ∨ _); omega) | (show ¬ (_ ∧ _); omega))
    have hK11 := hK.fr hf4 (by first | exact zT1 (by omega) | (show ¬ (_ ∨ _); omega) | (show ¬ (_ ∧ _); omega))
    have hI12 := hI.fr hf4 (by first | exact zT1 (by omega) | (show ¬ (_ ∨ _); omega) | (show ¬ (_ ∧ _); omega))
    rw [show zb (decide ((0 : Int) < 0)) = 0 from rfl]
    refine z_if_eq 21 O dX6_undo_16 (by decide) ⟨by omega, by omega⟩ (fun c_16 => ?_) (fun c_16 => ?_)
    · skip
      refine z_aload_n 0 O dX6_undo_21 rfl ?_
      refine z_dup O dX6_undo_22 rfl ?_
      refine z_getf kF_X6_58 O dX6_undo_23 hz5.1 rfl ?_
      refine z_iconst 1 O dX6_undo_26 (by decide +kernel) ?_
      refine z_isub O dX6_undo_27 ?_
      refine z_putf kP_X6_58 O (fun h => nomatch h) dX6_undo_28 hz5.1 rfl rfl (Nat.le_of_ble_eq_true rfl) (fun H13 hO14 hC15 => ?_)
      have hf16 := hz5.ch hC15
      have ho17 : zO (zEn x) H13 r 100000 q 6 [.int (iI 0), .ref (Q 1), .int (iI n), .int (iI sp), .int (iI (zb gd)), .int (iI lo), .ref (Q 2), .ref (Q 3), .ref (Q 4), .ref (Q 5), .ref (Q 6), .ref (Q 7), .ref (Q 8), .int (iI fi), .int (iI (ac - 1)), .ref (Q 9), .ref (Q 10)] := ⟨hO14, hz5.2⟩
      have hT18 := hT6.fr hf16 (zT1 (by omega))
      have hR19 := hR7.fr hf16 (zT1 (by omega))
      have hA20 := hA8.fr hf16 (zT1 (by omega))
      have hY21 := hY9.fr hf16 (zT1 (by omega))
      have hD22 := hD10.fr hf16 (zT1 (by omega)) (zT1 (by omega)) (zT1 (by omega)) (zT1 (by omega))
      have hK23 := hK11.fr hf16 (zT1 (by omega))
      have hI24 := hI12.fr hf16 (zT1 (by omega))
      refine z_aload_n 0 O dX6_undo_31 rfl ?_
      refine z_aload_n 0 O dX6_undo_32 rfl ?_
      refine z_getf kF_X6_58 O dX6_undo_33 ho17.1 rfl ?_
      refine z_Vvm [.int (iI (ac - 1))] [] kM_X6_246 O dX6_undo_36 (c_X6_takeUp hst ho17 hA20 hD22 ⟨by omega, by omega, by omega, by omega⟩) rfl rfl ho17.1 (by decide) (Nat.le_of_ble_eq_true rfl) (by omega) (by omega) (Nat.le_of_ble_eq_true rfl) zNx (fun H25 hp26 hz27 => ?_)
      obtain ⟨hf28, hz29⟩ := hp26
      have ho30 := ho17.fr hf28 (by first | exact zT1 (by omega) | (show ¬ (_ ∨ _); omega) | (show ¬ (_ ∧ _); omega))
      have hT31 := hT18.fr hf28 (by first | exact zT1 (by omega) | (show ¬ (_ ∨ _); omega) | (show ¬ (_ ∧ _); omega))
      have hR32 := hR19.fr hf28 (by first | exact zT1 (by omega) | (show ¬ (_ ∨ _); omega) | (show ¬ (_ ∧ _); omega))
      have hY33 := hY21.fr hf28 (by first | exact zT1 (by omega) | (show ¬ (_ ∨ _); omega) | (show ¬ (_ ∧ _); omega))
      have hD34 := hD22.fr hf28 (by first | exact zT1 (by omega) | (show ¬ (_ ∨ _); omega) | (show ¬ (_ ∧ _); omega)) (by first | exact zT1 (by omega) | (show ¬ (_ ∨ _); omega) | (show ¬ (_ ∧ _); omega)) (by first | exact zT1 (by omega) | (show ¬ (_ ∨ _); omega) | (show ¬ (_ ∧ _); omega)) (by first | exact zT1 (by omega) | (show ¬ (_ ∨ _); omega) | (show ¬ (_ ∧ _); omega))
      have hK35 := hK23.fr hf28 (by first | exact zT1 (by omega) | (show ¬ (_ ∨ _); omega) | (show ¬ (_ ∧ _); omega))
      have hI36 := hI24.fr hf28 (by first | exact zT1 (by omega) | (show ¬ (_ ∨ _); omega) | (show ¬ (_ ∧ _); omega))
      refine z_aload_n 0 O dX6_undo_39 rfl ?_
      refine z_getf kF_X6_58 O dX6_undo_40 ho30.1 rfl ?_
      exact z_ireti O dX6_undo_43 rfl (by omega) (by omega) hpo (by rw [if_pos (show (cUn ac) = 0 from by unfold cUn; (repeat first | rw [if_pos (by omega)] | rw [if_neg (by omega)]))]) (⟨(((((hf4.up (fun s h => by first | exact h.elim | omega | (simp at h ⊢; omega)))).tr (hf16.up (fun s h => by first | exact h.elim | omega | (simp at h ⊢; omega))))).tr (hf28.up (fun s h => by first | exact h.elim | omega | (simp at h ⊢; omega)))), Or.inr ⟨(show (cUn ac) = 0 from by unfold cUn; (repeat first | rw [if_pos (by omega)] | rw [if_neg (by omega)])), ⟨_, _, _, _, _, ho30, hT31, hR32, hz29, hY33, hD34, hK35, hI36⟩⟩⟩)
    · exfalso; omega
  · skip
    refine z_iconst 1 O dX6_undo_8 (by decide +kernel) ?_
    refine z_goto 13 O dX6_undo_9 (by decide) ?_
    refine z_Vim [.int (iI 1)] [] kM_X6_118 O dX6_undo_13 (c_X6_refused hst hO ⟨by omega, by omega⟩) rfl rfl hO.1 (by decide) (Nat.le_of_ble_eq_true rfl) (by omega) (by omega) (Nat.le_of_ble_eq_true rfl) zNx (fun H37 hp38 hz39 => ?_)
    obtain ⟨hf40, hz41⟩ := hp38
    have hT42 := hT.fr hf40 (by first | exact zT1 (by omega) | (show ¬ (_ ∨ _); omega) | (show ¬ (_ ∧ _); omega))
    have hR43 := hR.fr hf40 (by first | exact zT1 (by omega) | (show ¬ (_ ∨ _); omega) | (show ¬ (_ ∧ _); omega))
    have hA44 := hA.fr hf40 (by first | exact zT1 (by omega) | (show ¬ (_ ∨ _); omega) | (show ¬ (_ ∧ _); omega))
    have hY45 := hY.fr hf40 (by first | exact zT1 (by omega) | (show ¬ (_ ∨ _); omega) | (show ¬ (_ ∧ _); omega))
    have hD46 := hD.fr hf40 (by first | exact zT1 (by omega) | (show ¬ (_ ∨ _); omega) | (show ¬ (_ ∧ _); omega)) (by first | exact zT1 (by omega) | (show ¬ (_ ∨ _); omega) | (show ¬ (_ ∧ _); omega)) (by first | exact zT1 (by omega) | (show ¬ (_ ∨ _); omega) | (show ¬ (_ ∧ _); omega)) (by first | exact zT1 (by omega) | (show ¬ (_ ∨ _); omega) | (show ¬ (_ ∧ _); omega))
    have hK47 := hK.fr hf40 (by first | exact zT1 (by omega) | (show ¬ (_ ∨ _); omega) | (show ¬ (_ ∧ _); omega))
    have hI48 := hI.fr hf40 (by first | exact zT1 (by omega) | (show ¬ (_ ∨ _); omega) | (show ¬ (_ ∧ _); omega))
    rw [show zb (decide ((0 : Int) < 1)) = 1 from rfl]
    refine z_if_eq 21 O dX6_undo_16 (by decide) ⟨by omega, by omega⟩ (fun c_16 => ?_) (fun c_16 => ?_)
    · exfalso; omega
    · skip
      refine z_iconst 0 O dX6_undo_19 (by decide +kernel) ?_
      exact z_ireti O dX6_undo_20 rfl (by omega) (by omega) hpo (by rw [if_neg (by rw [show (cUn ac) = 1 from by unfold cUn; (repeat first | rw [if_pos (by omega)] | rw [if_neg (by omega)])]; decide)]) (⟨(hf40.up (fun s h => by first | exact h.elim | omega | (simp at h ⊢; omega))), Or.inl ⟨(by rw [show (cUn ac) = 1 from by unfold cUn; (repeat first | rw [if_pos (by omega)] | rw [if_neg (by omega)])]; decide), (by rw [show (cUn ac) = 1 from by unfold cUn; (repeat first | rw [if_pos (by omega)] | rw [if_neg (by omega)])]; exact ⟨_, _, _, _, _, hz41, hT42, hR43, hA44, hY45, hD46, hK47, hI48⟩)⟩⟩)

theorem c_X6_whyNot {E : zE} (hst : E.1.stackTraces = false) {H : Heap} {r : zH} {q : Nat} {Q : Nat → Nat} {n : Int} {tx G : Int → Int} {fi ac : Int} {dd : Nat → Int → Int} {kp ik : Int → Int} {rf N : Int} {w c : Int} (hM : zMs E H r q Q n tx G fi ac dd kp ik rf) (hOK : mOK n tx G fi ac ik N) (hw : zR w) (hc : zR c) : zC E yX6_whyNot cX6_whyNot 4 (some .int) 5 108 [.ref q, .int (iI w), .int (iI c)] H 0 0 (zRi (if (cWy w c) = 0 then (sRe G w c) else 0) (fun H1 => zFr H r H1 r (fun s => 100000 ≤ s) ∧ (((cWy w c) ≠ 0 ∧ zMs E H1 r q Q n tx G fi ac dd kp ik (cWy w c)) ∨ ((cWy w c) = 0 ∧ zMs E H1 r q Q n tx G fi ac dd kp ik 0)))) zN := by
  refine zC.of (by decide) (Nat.le_of_ble_eq_true rfl) hst ?_
  intro x O hE hpo hpx
  subst hE
  change zG x H 0 0 0 [(0, .ref q), (1, .int (iI w)), (2, .int (iI c))] []
  obtain ⟨sp, gd, lo, rd, tr, hO, hT, hR, hA, hY, hD, hK, hI⟩ := hM
  obtain ⟨hn, hx, hG, hN, hfi, hac, hik⟩ := hOK
  refine z_iload_n 1 O dX6_whyNot_0 rfl ?_
  refine z_Si [.int (iI w)] [] kM_X6_232 O dX6_whyNot_1 (c_X6_isWorker hst ⟨by omega, by omega⟩) rfl rfl (by decide) (Nat.le_of_ble_eq_true rfl) (by omega) (by omega) (Nat.le_of_ble_eq_true rfl) zNx ?_
  refine z_ifb_eq 18 O dX6_whyNot_4 (by decide) (fun c_4 => ?_) (fun c_4 => ?_)
  · skip
    have k_4 := sBt_f.mp c_4
    refine z_iconst 0 O dX6_whyNot_18 (by decide +kernel) ?_
    refine z_istore_n [(3, .int (iI 0)), (0, .ref q), (1, .int (iI w)), (2, .int (iI c))] O dX6_whyNot_19 (by decide) rfl ?_
    refine z_aload_n 1 O dX6_whyNot_20 rfl ?_
    refine z_iload_n 0 O dX6_whyNot_21 rfl ?_
    refine z_if_eq 29 O dX6_whyNot_22 (by decide) ⟨by omega, by omega⟩ (fun c_22 => ?_) (fun c_22 => ?_)
    · skip
      refine z_iconst 1 O dX6_whyNot_29 (by decide +kernel) ?_
      refine z_Vim [.int (iI 1)] [] kM_X6_118 O dX6_whyNot_30 (c_X6_refused hst hO ⟨by omega, by omega⟩) rfl rfl hO.1 (by decide) (Nat.le_of_ble_eq_true rfl) (by omega) (by omega) (Nat.le_of_ble_eq_true rfl) zNx (fun H1 hp2 hz3 => ?_)
      obtain ⟨hf4, hz5⟩ := hp2
      have hT6 := hT.fr hf4 (by first | exact zT1 (by omega) | (show ¬ (_ ∨ _); omega) | (show ¬ (_ ∧ _); omega))
      have hR7 := hR.fr hf4 (by first | exact zT1 (by omega) | (show ¬ (_ ∨ _); omega) | (show ¬ (_ ∧ _); omega))
      have hA8 := hA.fr hf4 (by first | exact zT1 (by omega) | (show ¬ (_ ∨ _); omega) | (show ¬ (_ ∧ _); omega))
      have hY9 := hY.fr hf4 (by first | exact zT1 (by omega) | (show ¬ (_ ∨ _); omega) | (show ¬ (_ ∧ _); omega))
      have hD10 := hD.fr hf4 (by first | exact zT1 (by omega) | (show ¬ (_ ∨ _); omega) | (show ¬ (_ ∧ _); omega)) (by first | exact zT1 (by omega) | (show ¬ (_ ∨ _); omega) | (show ¬ (_ ∧ _); omega)) (by first | exact zT1 (by omega) | (show ¬ (_ ∨ _); omega) | (show ¬ (_ ∧ _); omega)) (by first | exact zT1 (by omega) | (show ¬ (_ ∨ _); omega) | (show ¬ (_ ∧ _); omega))
      have hK11 := hK.fr hf4 (by first | exact zT1 (by omega) | (show ¬ (_ ∨ _); omega) | (show ¬ (_ ∧ _); omega))
      have hI12 := hI.fr hf4 (by first | exact zT1 (by omega) | (show ¬ (_ ∨ _); omega) | (show ¬ (_ ∧ _); omega))
      rw [show zb (decide ((0 : Int) < 1)) = 1 from rfl]
      refine z_if_eq 40 O dX6_whyNot_33 (by decide) ⟨by omega, by omega⟩ (fun c_33 => ?_) (fun c_33 => ?_)
      · exfalso; omega
      · skip
        refine z_iconst 0 O dX6_whyNot_36 (by decide +kernel) ?_
        refine z_goto 49 O dX6_whyNot_37 (by decide) ?_
        exact z_ireti O dX6_whyNot_49 rfl (by omega) (by omega) hpo (by rw [if_neg (by rw [show (cWy w c) = 1 from by unfold cWy; (repeat first | rw [if_pos (by omega)] | rw [if_neg (by omega)] | rw [if_neg (by rw [c_4]; decide)])]; decide)]) (⟨(hf4.up (fun s h => by first | exact h.elim | omega | (simp at h ⊢; omega))), Or.inl ⟨(by rw [show (cWy w c) = 1 from by unfold cWy; (repeat first | rw [if_pos (by omega)] | rw [if_neg (by omega)] | rw [if_neg (by rw [c_4]; decide)])]; decide), (by rw [show (cWy w c) = 1 from by unfold cWy; (repeat first | rw [if_pos (by omega)] | rw [if_neg (by omega)] | rw [if_neg (by rw [c_4]; decide)])]; exact ⟨_, _, _, _, _, hz5, hT6, hR7, hA8, hY9, hD10, hK11, hI12⟩)⟩⟩)
    · exfalso; omega
  · skip
    have k_4 := sBt_t.mp c_4
    refine z_iload_n 2 O dX6_whyNot_7 rfl ?_
    refine z_Si [.int (iI c)] [] kM_X6_226 O dX6_whyNot_8 (c_X6_isCell hst ⟨by omega, by omega⟩) rfl rfl (by decide) (Nat.le_of_ble_eq_true rfl) (by omega) (by omega) (Nat.le_of_ble_eq_true rfl) zNx ?_
    refine z_ifb_eq 18 O dX6_whyNot_11 (by decide) (fun c_11 => ?_) (fun c_11 => ?_)
    · skip
      have k_11 := sBt_f.mp c_11
      refine z_iconst 0 O dX6_whyNot_18 (by decide +kernel) ?_
      refine z_istore_n [(3, .int (iI 0)), (0, .ref q), (1, .int (iI w)), (2, .int (iI c))] O dX6_whyNot_19 (by decide) rfl ?_
      refine z_aload_n 1 O dX6_whyNot_20 rfl ?_
      refine z_iload_n 0 O dX6_whyNot_21 rfl ?_
      refine z_if_eq 29 O dX6_whyNot_22 (by decide) ⟨by omega, by omega⟩ (fun c_22 => ?_) (fun c_22 => ?_)
      · skip
        refine z_iconst 1 O dX6_whyNot_29 (by decide +kernel) ?_
        refine z_Vim [.int (iI 1)] [] kM_X6_118 O dX6_whyNot_30 (c_X6_refused hst hO ⟨by omega, by omega⟩) rfl rfl hO.1 (by decide) (Nat.le_of_ble_eq_true rfl) (by omega) (by omega) (Nat.le_of_ble_eq_true rfl) zNx (fun H13 hp14 hz15 => ?_)
        obtain ⟨hf16, hz17⟩ := hp14
        have hT18 := hT.fr hf16 (by first | exact zT1 (by omega) | (show ¬ (_ ∨ _); omega) | (show ¬ (_ ∧ _); omega))
        have hR19 := hR.fr hf16 (by first | exact zT1 (by omega) | (show ¬ (_ ∨ _); omega) | (show ¬ (_ ∧ _); omega))
        have hA20 := hA.fr hf16 (by first | exact zT1 (by omega) | (show ¬ (_ ∨ _); omega) | (show ¬ (_ ∧ _); omega))
        have hY21 := hY.fr hf16 (by first | exact zT1 (by omega) | (show ¬ (_ ∨ _); omega) | (show ¬ (_ ∧ _); omega))
        have hD22 := hD.fr hf16 (by first | exact zT1 (by omega) | (show ¬ (_ ∨ _); omega) | (show ¬ (_ ∧ _); omega)) (by first | exact zT1 (by omega) | (show ¬ (_ ∨ _); omega) | (show ¬ (_ ∧ _); omega)) (by first | exact zT1 (by omega) | (show ¬ (_ ∨ _); omega) | (show ¬ (_ ∧ _); omega)) (by first | exact zT1 (by omega) | (show ¬ (_ ∨ _); omega) | (show ¬ (_ ∧ _); omega))
        have hK23 := hK.fr hf16 (by first | exact zT1 (by omega) | (show ¬ (_ ∨ _); omega) | (show ¬ (_ ∧ _); omega))
        have hI24 := hI.fr hf16 (by first | exact zT1 (by omega) | (show ¬ (_ ∨ _); omega) | (show ¬ (_ ∧ _); omega))
        rw [show zb (decide ((0 : Int) < 1)) = 1 from rfl]
        refine z_if_eq 40 O dX6_whyNot_33 (by decide) ⟨by omega, by omega⟩ (fun c_33 => ?_) (fun c_33 => ?_)
        · exfalso; omega
        · skip
          refine z_iconst 0 O dX6_whyNot_36 (by decide +kernel) ?_
          refine z_goto 49 O dX6_whyNot_37 (by decide) ?_
          exact z_ireti O dX6_whyNot_49 rfl (by omega) (by omega) hpo (by rw [if_neg (by rw [show (cWy w c) = 1 from by unfold cWy; (repeat first | rw [if_pos (by omega)] | rw [if_neg (by omega)] | rw [if_pos c_4] | rw [if_neg (by rw [c_11]; decide)])]; decide)]) (⟨(hf16.up (fun s h => by first | exact h.elim | omega | (simp at h ⊢; omega))), Or.inl ⟨(by rw [show (cWy w c) = 1 from by unfold cWy; (repeat first | rw [if_pos (by omega)] | rw [if_neg (by omega)] | rw [if_pos c_4] | rw [if_neg (by rw [c_11]; decide)])]; decide), (by rw [show (cWy w c) = 1 from by unfold cWy; (repeat first | rw [if_pos (by omega)] | rw [if_neg (by omega)] | rw [if_pos c_4] | rw [if_neg (by rw [c_11]; decide)])]; exact ⟨_, _, _, _, _, hz17, hT18, hR19, hA20, hY21, hD22, hK23, hI24⟩)⟩⟩)
      · exfalso; omega
    · skip
      have k_11 := sBt_t.mp c_11
      refine z_iconst 1 O dX6_whyNot_14 (by decide +kernel) ?_
      refine z_goto 19 O dX6_whyNot_15 (by decide) ?_
      refine z_istore_n [(3, .int (iI 1)), (0, .ref q), (1, .int (iI w)), (2, .int (iI c))] O dX6_whyNot_19 (by decide) rfl ?_
      refine z_aload_n 1 O dX6_whyNot_20 rfl ?_
      refine z_iload_n 0 O dX6_whyNot_21 rfl ?_
      refine z_if_eq 29 O dX6_whyNot_22 (by decide) ⟨by omega, by omega⟩ (fun c_22 => ?_) (fun c_22 => ?_)
      · exfalso; omega
      · skip
        refine z_iconst 0 O dX6_whyNot_25 (by decide +kernel) ?_
        refine z_goto 30 O dX6_whyNot_26 (by decide) ?_
        refine z_Vim [.int (iI 0)] [] kM_X6_118 O dX6_whyNot_30 (c_X6_refused hst hO ⟨by omega, by omega⟩) rfl rfl hO.1 (by decide) (Nat.le_of_ble_eq_true rfl) (by omega) (by omega) (Nat.le_of_ble_eq_true rfl) zNx (fun H25 hp26 hz27 => ?_)
        obtain ⟨hf28, hz29⟩ := hp26
        have hT30 := hT.fr hf28 (by first | exact zT1 (by omega) | (show ¬ (_ ∨ _); omega) | (show ¬ (_ ∧ _); omega))
        have hR31 := hR.fr hf28 (by first | exact zT1 (by omega) | (show ¬ (_ ∨ _); omega) | (show ¬ (_ ∧ _); omega))
        have hA32 := hA.fr hf28 (by first | exact zT1 (by omega) | (show ¬ (_ ∨ _); omega) | (show ¬ (_ ∧ _); omega))
        have hY33 := hY.fr hf28 (by first | exact zT1 (by omega) | (show ¬ (_ ∨ _); omega) | (show ¬ (_ ∧ _); omega))
        have hD34 := hD.fr hf28 (by first | exact zT1 (by omega) | (show ¬ (_ ∨ _); omega) | (show ¬ (_ ∧ _); omega)) (by first | exact zT1 (by omega) | (show ¬ (_ ∨ _); omega) | (show ¬ (_ ∧ _); omega)) (by first | exact zT1 (by omega) | (show ¬ (_ ∨ _); omega) | (show ¬ (_ ∧ _); omega)) (by first | exact zT1 (by omega) | (show ¬ (_ ∨ _); omega) | (show ¬ (_ ∧ _); omega))
        have hK35 := hK.fr hf28 (by first | exact zT1 (by omega) | (show ¬ (_ ∨ _); omega) | (show ¬ (_ ∧ _); omega))
        have hI36 := hI.fr hf28 (by first | exact zT1 (by omega) | (show ¬ (_ ∨ _); omega) | (show ¬ (_ ∧ _); omega))
        rw [show zb (decide ((0 : Int) < 0)) = 0 from rfl]
        refine z_if_eq 40 O dX6_whyNot_33 (by decide) ⟨by omega, by omega⟩ (fun c_33 => ?_) (fun c_33 => ?_)
        · skip
          have hm := hG.m (w := w) ⟨by omega, by omega⟩
          have hl := hG.l (w := w) ⟨by omega, by omega⟩
          refine z_aload_n 1 O dX6_whyNot_40 rfl ?_
          refine z_getf kF_X6_16 O dX6_whyNot_41 hz29.1 rfl ?_
          refine z_iload_n 2 O dX6_whyNot_44 rfl ?_
          refine z_iload_n 3 O dX6_whyNot_45 rfl ?_
          refine z_Si [.ref (Q 3), .int (iI w), .int (iI c)] [] kM_X6_99 O dX6_whyNot_46 (c_X6_reason hst hA32 hG ⟨by omega, by omega⟩ ⟨by omega, by omega⟩) rfl rfl (by decide) (Nat.le_of_ble_eq_true rfl) (by omega) (by omega) (Nat.le_of_ble_eq_true rfl) zNx ?_
          exact z_ireti O dX6_whyNot_49 rfl (by omega) (by omega) hpo (by rw [if_pos (show (cWy w c) = 0 from by unfold cWy; (repeat first | rw [if_pos (by omega)] | rw [if_neg (by omega)] | rw [if_pos c_4] | rw [if_pos c_11]))]) (⟨(hf28.up (fun s h => by first | exact h.elim | omega | (simp at h ⊢; omega))), Or.inr ⟨(show (cWy w c) = 0 from by unfold cWy; (repeat first | rw [if_pos (by omega)] | rw [if_neg (by omega)] | rw [if_pos c_4] | rw [if_pos c_11])), ⟨_, _, _, _, _, hz29, hT30, hR31, hA32, hY33, hD34, hK35, hI36⟩⟩⟩)
        · exfalso; omega

theorem c_X6_entry {E : zE} (hst : E.1.stackTraces = false) {H : Heap} {r : zH} {q : Nat} {Q : Nat → Nat} {n : Int} {tx G : Int → Int} {fi ac : Int} {dd : Nat → Int → Int} {kp ik : Int → Int} {rf N : Int} {w i : Int} (hM : zMs E H r q Q n tx G fi ac dd kp ik rf) (hOK : mOK n tx G fi ac ik N) (hw : zR w) (hi : zR i) : zC E yX6_entry cX6_entry 4 (some .int) 2 45 [.ref q, .int (iI w), .int (iI i)] H 0 0 (zRi (if (cEn w i) = 0 then (vEn G w i) else 0) (fun H1 => zFr H r H1 r (fun s => 100000 ≤ s) ∧ (((cEn w i) ≠ 0 ∧ zMs E H1 r q Q n tx G fi ac dd kp ik (cEn w i)) ∨ ((cEn w i) = 0 ∧ zMs E H1 r q Q n tx G fi ac dd kp ik 0)))) zN := by
  refine zC.of (by decide) (Nat.le_of_ble_eq_true rfl) hst ?_
  intro x O hE hpo hpx
  subst hE
  change zG x H 0 0 0 [(0, .ref q), (1, .int (iI w)), (2, .int (iI i))] []
  obtain ⟨sp, gd, lo, rd, tr, hO, hT, hR, hA, hY, hD, hK, hI⟩ := hM
  obtain ⟨hn, hx, hG, hN, hfi, hac, hik⟩ := hOK
  refine z_aload_n 0 O dX6_entry_0 rfl ?_
  refine z_iload_n 1 O dX6_entry_1 rfl ?_
  refine z_Si [.int (iI w)] [.ref q] kM_X6_232 O dX6_entry_2 (c_X6_isWorker hst ⟨by omega, by omega⟩) rfl rfl (by decide) (Nat.le_of_ble_eq_true rfl) (by omega) (by omega) (Nat.le_of_ble_eq_true rfl) zNx ?_
  refine z_ifb_ne 12 O dX6_entry_5 (by decide) (fun c_5 => ?_) (fun c_5 => ?_)
  · skip
    have k_5 := sBt_t.mp c_5
    refine z_iload_n 2 O dX6_entry_12 rfl ?_
    refine z_if_ge 20 O dX6_entry_13 (by decide) ⟨by omega, by omega⟩ (fun c_13 => ?_) (fun c_13 => ?_)
    · skip
      refine z_iconst 0 O dX6_entry_20 (by decide +kernel) ?_
      refine z_Vim [.int (iI 0)] [] kM_X6_118 O dX6_entry_21 (c_X6_refused hst hO ⟨by omega, by omega⟩) rfl rfl hO.1 (by decide) (Nat.le_of_ble_eq_true rfl) (by omega) (by omega) (Nat.le_of_ble_eq_true rfl) zNx (fun H1 hp2 hz3 => ?_)
      obtain ⟨hf4, hz5⟩ := hp2
      have hT6 := hT.fr hf4 (by first | exact zT1 (by omega) | (show ¬ (_ ∨ _); omega) | (show ¬ (_ ∧ _); omega))
      have hR7 := hR.fr hf4 (by first | exact zT1 (by omega) | (show ¬ (_ ∨ _); omega) | (show ¬ (_ ∧ _); omega))
      have hA8 := hA.fr hf4 (by first | exact zT1 (by omega) | (show ¬ (_ ∨ _); omega) | (show ¬ (_ ∧ _); omega))
      have hY9 := hY.fr hf4 (by first | exact zT1 (by omega) | (show ¬ (_ ∨ _); omega) | (show ¬ (_ ∧ _); omega))
      have hD10 := hD.fr hf4 (by first | exact zT1 (by omega) | (show ¬ (_ ∨ _); omega) | (show ¬ (_ ∧ _); omega)) (by first | exact zT1 (by omega) | (show ¬ (_ ∨ _); omega) | (show ¬ (_ ∧ _); omega)) (by first | exact zT1 (by omega) | (show ¬ (_ ∨ _); omega) | (show ¬ (_ ∧ _); omega)) (by first | exact zT1 (by omega) | (show ¬ (_ ∨ _); omega) | (show ¬ (_ ∧ _); omega))
      have hK11 := hK.fr hf4 (by first | exact zT1 (by omega) | (show ¬ (_ ∨ _); omega) | (show ¬ (_ ∧ _); omega))
      have hI12 := hI.fr hf4 (by first | exact zT1 (by omega) | (show ¬ (_ ∨ _); omega) | (show ¬ (_ ∧ _); omega))
      rw [show zb (decide ((0 : Int) < 0)) = 0 from rfl]
      refine z_if_eq 29 O dX6_entry_24 (by decide) ⟨by omega, by omega⟩ (fun c_24 => ?_) (fun c_24 => ?_)
      · skip
        refine z_aload_n 0 O dX6_entry_29 rfl ?_
        have hm := hG.m (w := w) ⟨by omega, by omega⟩
        have hl := hG.l (w := w) ⟨by omega, by omega⟩
        refine z_getf kF_X6_16 O dX6_entry_30 hz5.1 rfl ?_
        refine z_iload_n 1 O dX6_entry_33 rfl ?_
        refine z_iconst 1 O dX6_entry_34 (by decide +kernel) ?_
        refine z_Si [.int (iI w), .int (iI 1)] [.ref (Q 3)] kM_X6_65 O dX6_entry_35 (c_X6_at hst) rfl rfl (by decide) (Nat.le_of_ble_eq_true rfl) (by omega) (by omega) (Nat.le_of_ble_eq_true rfl) zNx ?_
        have ea13 : at_ w 1 = 36 + 1350 * w + 1 := rfl
        refine z_iald O dX6_entry_38 hA8.1 ⟨by omega, by omega⟩ (by omega) (by omega) ?_
        refine z_istore_n [(3, .int (iI (G (at_ w 1)))), (0, .ref q), (1, .int (iI w)), (2, .int (iI i))] O dX6_entry_39 (by decide) rfl ?_
        refine z_iload_n 3 O dX6_entry_40 rfl ?_
        refine z_iload_n 0 O dX6_entry_41 rfl ?_
        refine z_icmp_ge 65 O dX6_entry_42 (by decide) ⟨by omega, by omega⟩ ⟨by omega, by omega⟩ (fun c_42 => ?_) (fun c_42 => ?_)
        · skip
          refine z_iconst (-1) O dX6_entry_65 (by decide +kernel) ?_
          exact z_ireti O dX6_entry_66 rfl (by omega) (by omega) hpo (by rw [if_pos (show (cEn w i) = 0 from by unfold cEn; (repeat first | rw [if_pos (by omega)] | rw [if_neg (by omega)] | rw [if_pos c_5]))]; unfold vEn; (repeat first | rw [if_pos (by omega)] | rw [if_neg (by omega)] | rw [if_pos c_5]); (try exact zb_t c_5)) (⟨(hf4.up (fun s h => by first | exact h.elim | omega | (simp at h ⊢; omega))), Or.inr ⟨(show (cEn w i) = 0 from by unfold cEn; (repeat first | rw [if_pos (by omega)] | rw [if_neg (by omega)] | rw [if_pos c_5])), ⟨_, _, _, _, _, hz5, hT6, hR7, hA8, hY9, hD10, hK11, hI12⟩⟩⟩)
        · skip
          refine z_aload_n 1 O dX6_entry_45 rfl ?_
          refine z_getf kF_X6_16 O dX6_entry_46 hz5.1 rfl ?_
          refine z_iload_n 2 O dX6_entry_49 rfl ?_
          refine z_bipush 70 O dX6_entry_50 (by decide +kernel) ?_
          refine z_iload_n 0 O dX6_entry_52 rfl ?_
          refine z_iadd O dX6_entry_53 ?_
          refine z_iconst 1 O dX6_entry_54 (by decide +kernel) ?_
          refine z_isub O dX6_entry_55 ?_
          refine z_iload_n 3 O dX6_entry_56 rfl ?_
          refine z_isub O dX6_entry_57 ?_
          refine z_Si [.int (iI w), .int (iI (((70 + (G (at_ w 1))) - 1) - i))] [.ref (Q 3)] kM_X6_65 O dX6_entry_58 (c_X6_at hst) rfl rfl (by decide) (Nat.le_of_ble_eq_true rfl) (by omega) (by omega) (Nat.le_of_ble_eq_true rfl) zNx ?_
          have ea14 : at_ w (((70 + (G (at_ w 1))) - 1) - i) = 36 + 1350 * w + (((70 + (G (at_ w 1))) - 1) - i) := rfl
          refine z_iald O dX6_entry_61 hA8.1 ⟨by omega, by omega⟩ (by omega) (by omega) ?_
          refine z_goto 66 O dX6_entry_62 (by decide) ?_
          exact z_ireti O dX6_entry_66 rfl (by omega) (by omega) hpo (by rw [if_pos (show (cEn w i) = 0 from by unfold cEn; (repeat first | rw [if_pos (by omega)] | rw [if_neg (by omega)] | rw [if_pos c_5]))]; unfold vEn; (repeat first | rw [if_pos (by omega)] | rw [if_neg (by omega)] | rw [if_pos c_5]); (try exact zb_t c_5)) (⟨(hf4.up (fun s h => by first | exact h.elim | omega | (simp at h ⊢; omega))), Or.inr ⟨(show (cEn w i) = 0 from by unfold cEn; (repeat first | rw [if_pos (by omega)] | rw [if_neg (by omega)] | rw [if_pos c_5])), ⟨_, _, _, _, _, hz5, hT6, hR7, hA8, hY9, hD10, hK11, hI12⟩⟩⟩)
      · exfalso; omega
    · skip
      refine z_iconst 2 O dX6_entry_16 (by decide +kernel) ?_
      refine z_goto 21 O dX6_entry_17 (by decide) ?_
      refine z_Vim [.int (iI 2)] [] kM_X6_118 O dX6_entry_21 (c_X6_refused hst hO ⟨by omega, by omega⟩) rfl rfl hO.1 (by decide) (Nat.le_of_ble_eq_true rfl) (by omega) (by omega) (Nat.le_of_ble_eq_true rfl) zNx (fun H15 hp16 hz17 => ?_)
      obtain ⟨hf18, hz19⟩ := hp16
      have hT20 := hT.fr hf18 (by first | exact zT1 (by omega) | (show ¬ (_ ∨ _); omega) | (show ¬ (_ ∧ _); omega))
      have hR21 := hR.fr hf18 (by first | exact zT1 (by omega) | (show ¬ (_ ∨ _); omega) | (show ¬ (_ ∧ _); omega))
      have hA22 := hA.fr hf18 (by first | exact zT1 (by omega) | (show ¬ (_ ∨ _); omega) | (show ¬ (_ ∧ _); omega))
      have hY23 := hY.fr hf18 (by first | exact zT1 (by omega) | (show ¬ (_ ∨ _); omega) | (show ¬ (_ ∧ _); omega))
      have hD24 := hD.fr hf18 (by first | exact zT1 (by omega) | (show ¬ (_ ∨ _); omega) | (show ¬ (_ ∧ _); omega)) (by first | exact zT1 (by omega) | (show ¬ (_ ∨ _); omega) | (show ¬ (_ ∧ _); omega)) (by first | exact zT1 (by omega) | (show ¬ (_ ∨ _); omega) | (show ¬ (_ ∧ _); omega)) (by first | exact zT1 (by omega) | (show ¬ (_ ∨ _); omega) | (show ¬ (_ ∧ _); omega))
      have hK25 := hK.fr hf18 (by first | exact zT1 (by omega) | (show ¬ (_ ∨ _); omega) | (show ¬ (_ ∧ _); omega))
      have hI26 := hI.fr hf18 (by first | exact zT1 (by omega) | (show ¬ (_ ∨ _); omega) | (show ¬ (_ ∧ _); omega))
      rw [show zb (decide ((0 : Int) < 2)) = 1 from rfl]
      refine z_if_eq 29 O dX6_entry_24 (by decide) ⟨by omega, by omega⟩ (fun c_24 => ?_) (fun c_24 => ?_)
      · exfalso; omega
      · skip
        refine z_iconst 0 O dX6_entry_27 (by decide +kernel) ?_
        exact z_ireti O dX6_entry_28 rfl (by omega) (by omega) hpo (by rw [if_neg (by rw [show (cEn w i) = 2 from by unfold cEn; (repeat first | rw [if_pos (by omega)] | rw [if_neg (by omega)] | rw [if_pos c_5])]; decide)]) (⟨(hf18.up (fun s h => by first | exact h.elim | omega | (simp at h ⊢; omega))), Or.inl ⟨(by rw [show (cEn w i) = 2 from by unfold cEn; (repeat first | rw [if_pos (by omega)] | rw [if_neg (by omega)] | rw [if_pos c_5])]; decide), (by rw [show (cEn w i) = 2 from by unfold cEn; (repeat first | rw [if_pos (by omega)] | rw [if_neg (by omega)] | rw [if_pos c_5])]; exact ⟨_, _, _, _, _, hz19, hT20, hR21, hA22, hY23, hD24, hK25, hI26⟩)⟩⟩)
  · skip
    have k_5 := sBt_f.mp c_5
    refine z_iconst 1 O dX6_entry_8 (by decide +kernel) ?_
    refine z_goto 21 O dX6_entry_9 (by decide) ?_
    refine z_Vim [.int (iI 1)] [] kM_X6_118 O dX6_entry_21 (c_X6_refused hst hO ⟨by omega, by omega⟩) rfl rfl hO.1 (by decide) (Nat.le_of_ble_eq_true rfl) (by omega) (by omega) (Nat.le_of_ble_eq_true rfl) zNx (fun H27 hp28 hz29 => ?_)
    obtain ⟨hf30, hz31⟩ := hp28
    have hT32 := hT.fr hf30 (by first | exact zT1 (by omega) | (show ¬ (_ ∨ _); omega) | (show ¬ (_ ∧ _); omega))
    have hR33 := hR.fr hf30 (by first | exact zT1 (by omega) | (show ¬ (_ ∨ _); omega) | (show ¬ (_ ∧ _); omega))
    have hA34 := hA.fr hf30 (by first | exact zT1 (by omega) | (show ¬ (_ ∨ _); omega) | (show ¬ (_ ∧ _); omega))
    have hY35 := hY.fr hf30 (by first | exact zT1 (by omega) | (show ¬ (_ ∨ _); omega) | (show ¬ (_ ∧ _); omega))
    have hD36 := hD.fr hf30 (by first | exact zT1 (by omega) | (show ¬ (_ ∨ _); omega) | (show ¬ (_ ∧ _); omega)) (by first | exact zT1 (by omega) | (show ¬ (_ ∨ _); omega) | (show ¬ (_ ∧ _); omega)) (by first | exact zT1 (by omega) | (show ¬ (_ ∨ _); omega) | (show ¬ (_ ∧ _); omega)) (by first | exact zT1 (by omega) | (show ¬ (_ ∨ _); omega) | (show ¬ (_ ∧ _); omega))
    have hK37 := hK.fr hf30 (by first | exact zT1 (by omega) | (show ¬ (_ ∨ _); omega) | (show ¬ (_ ∧ _); omega))
    have hI38 := hI.fr hf30 (by first | exact zT1 (by omega) | (show ¬ (_ ∨ _); omega) | (show ¬ (_ ∧ _); omega))
    rw [show zb (decide ((0 : Int) < 1)) = 1 from rfl]
    refine z_if_eq 29 O dX6_entry_24 (by decide) ⟨by omega, by omega⟩ (fun c_24 => ?_) (fun c_24 => ?_)
    · exfalso; omega
    · skip
      refine z_iconst 0 O dX6_entry_27 (by decide +kernel) ?_
      exact z_ireti O dX6_entry_28 rfl (by omega) (by omega) hpo (by rw [if_neg (by rw [show (cEn w i) = 1 from by unfold cEn; (repeat first | rw [if_pos (by omega)] | rw [if_neg (by omega)] | rw [if_neg (by rw [c_5]; decide)])]; decide)]) (⟨(hf30.up (fun s h => by first | exact h.elim | omega | (simp at h ⊢; omega))), Or.inl ⟨(by rw [show (cEn w i) = 1 from by unfold cEn; (repeat first | rw [if_pos (by omega)] | rw [if_neg (by omega)] | rw [if_neg (by rw [c_5]; decide)])]; decide), (by rw [show (cEn w i) = 1 from by unfold cEn; (repeat first | rw [if_pos (by omega)] | rw [if_neg (by omega)] | rw [if_neg (by rw [c_5]; decide)])]; exact ⟨_, _, _, _, _, hz31, hT32, hR33, hA34, hY35, hD36, hK37, hI38⟩)⟩⟩)

theorem c_X6_work {E : zE} (hst : E.1.stackTraces = false) {H : Heap} {r : zH} {q : Nat} {Q : Nat → Nat} {n : Int} {tx G : Int → Int} {fi ac : Int} {dd : Nat → Int → Int} {kp ik : Int → Int} {rf N : Int} {w i j : Int} (hM : zMs E H r q Q n tx G fi ac dd kp ik rf) (hOK : mOK n tx G fi ac ik N) (hw : zR w) (hi : zR i) (hj : zR j) : zC E yX6_work cX6_work 5 (some .int) 3 66 [.ref q, .int (iI w), .int (iI i), .int (iI j)] H 0 0 (zRi (if (cWk G w i j) = 0 then (vWk G w i j) else 0) (fun H1 => zFr H r H1 r (fun s => 100000 ≤ s) ∧ (((cWk G w i j) ≠ 0 ∧ zMs E H1 r q Q n tx G fi ac dd kp ik (cWk G w i j)) ∨ ((cWk G w i j) = 0 ∧ zMs E H1 r q Q n tx G fi ac dd kp ik 0)))) zN := by
  refine zC.of (by decide) (Nat.le_of_ble_eq_true rfl) hst ?_
  intro x O hE hpo hpx
  subst hE
  change zG x H 0 0 0 [(0, .ref q), (1, .int (iI w)), (2, .int (iI i)), (3, .int (iI j))] []
  obtain ⟨sp, gd, lo, rd, tr, hO, hT, hR, hA, hY, hD, hK, hI⟩ := hM
  obtain ⟨hn, hx, hG, hN, hfi, hac, hik⟩ := hOK
  refine z_iload_n 1 O dX6_work_0 rfl ?_
  refine z_Si [.int (iI w)] [] kM_X6_232 O dX6_work_1 (c_X6_isWorker hst ⟨by omega, by omega⟩) rfl rfl (by decide) (Nat.le_of_ble_eq_true rfl) (by omega) (by omega) (Nat.le_of_ble_eq_true rfl) zNx ?_
  refine z_ifb_eq 31 O dX6_work_4 (by decide) (fun c_4 => ?_) (fun c_4 => ?_)
  · skip
    have k_4 := sBt_f.mp c_4
    refine z_iconst 0 O dX6_work_31 (by decide +kernel) ?_
    refine z_istore [(4, .int (iI 0)), (0, .ref q), (1, .int (iI w)), (2, .int (iI i)), (3, .int (iI j))] O dX6_work_32 (by decide) rfl ?_
    refine z_aload_n 1 O dX6_work_34 rfl ?_
    refine z_iload 0 O dX6_work_35 rfl ?_
    refine z_if_ne 44 O dX6_work_37 (by decide) ⟨by omega, by omega⟩ (fun c_37 => ?_) (fun c_37 => ?_)
    · exfalso; omega
    · skip
      refine z_iconst 1 O dX6_work_40 (by decide +kernel) ?_
      refine z_goto 61 O dX6_work_41 (by decide) ?_
      refine z_Vim [.int (iI 1)] [] kM_X6_118 O dX6_work_61 (c_X6_refused hst hO ⟨by omega, by omega⟩) rfl rfl hO.1 (by decide) (Nat.le_of_ble_eq_true rfl) (by omega) (by omega) (Nat.le_of_ble_eq_true rfl) zNx (fun H1 hp2 hz3 => ?_)
      obtain ⟨hf4, hz5⟩ := hp2
      have hT6 := hT.fr hf4 (by first | exact zT1 (by omega) | (show ¬ (_ ∨ _); omega) | (show ¬ (_ ∧ _); omega))
      have hR7 := hR.fr hf4 (by first | exact zT1 (by omega) | (show ¬ (_ ∨ _); omega) | (show ¬ (_ ∧ _); omega))
      have hA8 := hA.fr hf4 (by first | exact zT1 (by omega) | (show ¬ (_ ∨ _); omega) | (show ¬ (_ ∧ _); omega))
      have hY9 := hY.fr hf4 (by first | exact zT1 (by omega) | (show ¬ (_ ∨ _); omega) | (show ¬ (_ ∧ _); omega))
      have hD10 := hD.fr hf4 (by first | exact zT1 (by omega) | (show ¬ (_ ∨ _); omega) | (show ¬ (_ ∧ _); omega)) (by first | exact zT1 (by omega) | (show ¬ (_ ∨ _); omega) | (show ¬ (_ ∧ _); omega)) (by first | exact zT1 (by omega) | (show ¬ (_ ∨ _); omega) | (show ¬ (_ ∧ _); omega)) (by first | exact zT1 (by omega) | (show ¬ (_ ∨ _); omega) | (show ¬ (_ ∧ _); omega))
      have hK11 := hK.fr hf4 (by first | exact zT1 (by omega) | (show ¬ (_ ∨ _); omega) | (show ¬ (_ ∧ _); omega))
      have hI12 := hI.fr hf4 (by first | exact zT1 (by omega) | (show ¬ (_ ∨ _); omega) | (show ¬ (_ ∧ _); omega))
      rw [show zb (decide ((0 : Int) < 1)) = 1 from rfl]
      refine z_if_eq 69 O dX6_work_64 (by decide) ⟨by omega, by omega⟩ (fun c_64 => ?_) (fun c_64 => ?_)
      · exfalso; omega
      · skip
        refine z_iconst 0 O dX6_work_67 (by decide +kernel) ?_
        exact z_ireti O dX6_work_68 rfl (by omega) (by omega) hpo (by rw [if_neg (by rw [show (cWk G w i j) = 1 from by unfold cWk; (repeat first | rw [if_pos (by omega)] | rw [if_neg (by omega)] | rw [if_neg (by rw [c_4]; decide)])]; decide)]) (⟨(hf4.up (fun s h => by first | exact h.elim | omega | (simp at h ⊢; omega))), Or.inl ⟨(by rw [show (cWk G w i j) = 1 from by unfold cWk; (repeat first | rw [if_pos (by omega)] | rw [if_neg (by omega)] | rw [if_neg (by rw [c_4]; decide)])]; decide), (by rw [show (cWk G w i j) = 1 from by unfold cWk; (repeat first | rw [if_pos (by omega)] | rw [if_neg (by omega)] | rw [if_neg (by rw [c_4]; decide)])]; exact ⟨_, _, _, _, _, hz5, hT6, hR7, hA8, hY9, hD10, hK11, hI12⟩)⟩⟩)
  · skip
    have k_4 := sBt_t.mp c_4
    have hm := hG.m (w := w) ⟨by omega, by omega⟩
    have hl := hG.l (w := w) ⟨by omega, by omega⟩
    refine z_iload_n 2 O dX6_work_7 rfl ?_
    refine z_i2l O dX6_work_8 ⟨by omega, by omega⟩ ?_
    refine z_lconst 0 O dX6_work_9 (by decide +kernel) ?_
    refine z_aload_n 0 O dX6_work_10 rfl ?_
    refine z_getf kF_X6_16 O dX6_work_11 hO.1 rfl ?_
    refine z_iload_n 1 O dX6_work_14 rfl ?_
    refine z_Si [.ref (Q 3), .int (iI w)] [.long (iL 0), .long (iL i)] kM_X6_69 O dX6_work_15 (c_X6_many hst hA ⟨by omega, by omega⟩) rfl rfl (by decide) (Nat.le_of_ble_eq_true rfl) (by omega) (by omega) (Nat.le_of_ble_eq_true rfl) zNx ?_
    refine z_iconst 1 O dX6_work_18 (by decide +kernel) ?_
    refine z_isub O dX6_work_19 ?_
    refine z_i2l O dX6_work_20 ⟨by omega, by omega⟩ ?_
    refine z_Si [.long (iL i), .long (iL 0), .long (iL ((G (at_ w 0)) - 1))] [] kM_X6_92 O dX6_work_21 (c_X6_in hst ⟨by omega, by omega⟩ ⟨by omega, by omega⟩ ⟨by omega, by omega⟩) rfl rfl (by decide) (Nat.le_of_ble_eq_true rfl) (by omega) (by omega) (Nat.le_of_ble_eq_true rfl) zNx ?_
    refine z_ifb_eq 31 O dX6_work_24 (by decide) (fun c_24 => ?_) (fun c_24 => ?_)
    · skip
      have k_24 := sBt_f.mp c_24
      refine z_iconst 0 O dX6_work_31 (by decide +kernel) ?_
      refine z_istore [(4, .int (iI 0)), (0, .ref q), (1, .int (iI w)), (2, .int (iI i)), (3, .int (iI j))] O dX6_work_32 (by decide) rfl ?_
      refine z_aload_n 1 O dX6_work_34 rfl ?_
      refine z_iload 0 O dX6_work_35 rfl ?_
      refine z_if_ne 44 O dX6_work_37 (by decide) ⟨by omega, by omega⟩ (fun c_37 => ?_) (fun c_37 => ?_)
      · exfalso; omega
      · skip
        refine z_iconst 1 O dX6_work_40 (by decide +kernel) ?_
        refine z_goto 61 O dX6_work_41 (by decide) ?_
        refine z_Vim [.int (iI 1)] [] kM_X6_118 O dX6_work_61 (c_X6_refused hst hO ⟨by omega, by omega⟩) rfl rfl hO.1 (by decide) (Nat.le_of_ble_eq_true rfl) (by omega) (by omega) (Nat.le_of_ble_eq_true rfl) zNx (fun H13 hp14 hz15 => ?_)
        obtain ⟨hf16, hz17⟩ := hp14
        have hT18 := hT.fr hf16 (by first | exact zT1 (by omega) | (show ¬ (_ ∨ _); omega) | (show ¬ (_ ∧ _); omega))
        have hR19 := hR.fr hf16 (by first | exact zT1 (by omega) | (show ¬ (_ ∨ _); omega) | (show ¬ (_ ∧ _); omega))
        have hA20 := hA.fr hf16 (by first | exact zT1 (by omega) | (show ¬ (_ ∨ _); omega) | (show ¬ (_ ∧ _); omega))
        have hY21 := hY.fr hf16 (by first | exact zT1 (by omega) | (show ¬ (_ ∨ _); omega) | (show ¬ (_ ∧ _); omega))
        have hD22 := hD.fr hf16 (by first | exact zT1 (by omega) | (show ¬ (_ ∨ _); omega) | (show ¬ (_ ∧ _); omega)) (by first | exact zT1 (by omega) | (show ¬ (_ ∨ _); omega) | (show ¬ (_ ∧ _); omega)) (by first | exact zT1 (by omega) | (show ¬ (_ ∨ _); omega) | (show ¬ (_ ∧ _); omega)) (by first | exact zT1 (by omega) | (show ¬ (_ ∨ _); omega) | (show ¬ (_ ∧ _); omega))
        have hK23 := hK.fr hf16 (by first | exact zT1 (by omega) | (show ¬ (_ ∨ _); omega) | (show ¬ (_ ∧ _); omega))
        have hI24 := hI.fr hf16 (by first | exact zT1 (by omega) | (show ¬ (_ ∨ _); omega) | (show ¬ (_ ∧ _); omega))
        rw [show zb (decide ((0 : Int) < 1)) = 1 from rfl]
        refine z_if_eq 69 O dX6_work_64 (by decide) ⟨by omega, by omega⟩ (fun c_64 => ?_) (fun c_64 => ?_)
        · exfalso; omega
        · skip
          refine z_iconst 0 O dX6_work_67 (by decide +kernel) ?_
          exact z_ireti O dX6_work_68 rfl (by omega) (by omega) hpo (by rw [if_neg (by rw [show (cWk G w i j) = 1 from by unfold cWk; (repeat first | rw [if_pos (by omega)] | rw [if_neg (by omega)] | rw [if_pos c_4] | rw [if_neg (by rw [c_24]; decide)])]; decide)]) (⟨(hf16.up (fun s h => by first | exact h.elim | omega | (simp at h ⊢; omega))), Or.inl ⟨(by rw [show (cWk G w i j) = 1 from by unfold cWk; (repeat first | rw [if_pos (by omega)] | rw [if_neg (by omega)] | rw [if_pos c_4] | rw [if_neg (by rw [c_24]; decide)])]; decide), (by rw [show (cWk G w i j) = 1 from by unfold cWk; (repeat first | rw [if_pos (by omega)] | rw [if_neg (by omega)] | rw [if_pos c_4] | rw [if_neg (by rw [c_24]; decide)])]; exact ⟨_, _, _, _, _, hz17, hT18, hR19, hA20, hY21, hD22, hK23, hI24⟩)⟩⟩)
    · skip
      have k_24 := sBt_t.mp c_24
      refine z_iconst 1 O dX6_work_27 (by decide +kernel) ?_
      refine z_goto 32 O dX6_work_28 (by decide) ?_
      refine z_istore [(4, .int (iI 1)), (0, .ref q), (1, .int (iI w)), (2, .int (iI i)), (3, .int (iI j))] O dX6_work_32 (by decide) rfl ?_
      refine z_aload_n 1 O dX6_work_34 rfl ?_
      refine z_iload 0 O dX6_work_35 rfl ?_
      refine z_if_ne 44 O dX6_work_37 (by decide) ⟨by omega, by omega⟩ (fun c_37 => ?_) (fun c_37 => ?_)
      · skip
        refine z_iload_n 4 O dX6_work_44 rfl ?_
        refine z_i2l O dX6_work_45 ⟨by omega, by omega⟩ ?_
        refine z_lconst 0 O dX6_work_46 (by decide +kernel) ?_
        refine z_ldc2 (iL 4) O dX6_work_47 (List.mem_of_getElem? (i := 1163) (by decide +kernel)) ?_
        refine z_Si [.long (iL j), .long (iL 0), .long (iL 4)] [.ref q] kM_X6_92 O dX6_work_50 (c_X6_in hst ⟨by omega, by omega⟩ ⟨by omega, by omega⟩ ⟨by omega, by omega⟩) rfl rfl (by decide) (Nat.le_of_ble_eq_true rfl) (by omega) (by omega) (Nat.le_of_ble_eq_true rfl) zNx ?_
        refine z_ifb_eq 60 O dX6_work_53 (by decide) (fun c_53 => ?_) (fun c_53 => ?_)
        · skip
          have k_53 := sBt_f.mp c_53
          refine z_iconst 2 O dX6_work_60 (by decide +kernel) ?_
          refine z_Vim [.int (iI 2)] [] kM_X6_118 O dX6_work_61 (c_X6_refused hst hO ⟨by omega, by omega⟩) rfl rfl hO.1 (by decide) (Nat.le_of_ble_eq_true rfl) (by omega) (by omega) (Nat.le_of_ble_eq_true rfl) zNx (fun H25 hp26 hz27 => ?_)
          obtain ⟨hf28, hz29⟩ := hp26
          have hT30 := hT.fr hf28 (by first | exact zT1 (by omega) | (show ¬ (_ ∨ _); omega) | (show ¬ (_ ∧ _); omega))
          have hR31 := hR.fr hf28 (by first | exact zT1 (by omega) | (show ¬ (_ ∨ _); omega) | (show ¬ (_ ∧ _); omega))
          have hA32 := hA.fr hf28 (by first | exact zT1 (by omega) | (show ¬ (_ ∨ _); omega) | (show ¬ (_ ∧ _); omega))
          have hY33 := hY.fr hf28 (by first | exact zT1 (by omega) | (show ¬ (_ ∨ _); omega) | (show ¬ (_ ∧ _); omega))
          have hD34 := hD.fr hf28 (by first | exact zT1 (by omega) | (show ¬ (_ ∨ _); omega) | (show ¬ (_ ∧ _); omega)) (by first | exact zT1 (by omega) | (show ¬ (_ ∨ _); omega) | (show ¬ (_ ∧ _); omega)) (by first | exact zT1 (by omega) | (show ¬ (_ ∨ _); omega) | (show ¬ (_ ∧ _); omega)) (by first | exact zT1 (by omega) | (show ¬ (_ ∨ _); omega) | (show ¬ (_ ∧ _); omega))
          have hK35 := hK.fr hf28 (by first | exact zT1 (by omega) | (show ¬ (_ ∨ _); omega) | (show ¬ (_ ∧ _); omega))
          have hI36 := hI.fr hf28 (by first | exact zT1 (by omega) | (show ¬ (_ ∨ _); omega) | (show ¬ (_ ∧ _); omega))
          rw [show zb (decide ((0 : Int) < 2)) = 1 from rfl]
          refine z_if_eq 69 O dX6_work_64 (by decide) ⟨by omega, by omega⟩ (fun c_64 => ?_) (fun c_64 => ?_)
          · exfalso; omega
          · skip
            refine z_iconst 0 O dX6_work_67 (by decide +kernel) ?_
            exact z_ireti O dX6_work_68 rfl (by omega) (by omega) hpo (by rw [if_neg (by rw [show (cWk G w i j) = 2 from by unfold cWk; (repeat first | rw [if_pos (by omega)] | rw [if_neg (by omega)] | rw [if_pos c_4] | rw [if_pos c_24] | rw [if_neg (by rw [c_53]; decide)])]; decide)]) (⟨(hf28.up (fun s h => by first | exact h.elim | omega | (simp at h ⊢; omega))), Or.inl ⟨(by rw [show (cWk G w i j) = 2 from by unfold cWk; (repeat first | rw [if_pos (by omega)] | rw [if_neg (by omega)] | rw [if_pos c_4] | rw [if_pos c_24] | rw [if_neg (by rw [c_53]; decide)])]; decide), (by rw [show (cWk G w i j) = 2 from by unfold cWk; (repeat first | rw [if_pos (by omega)] | rw [if_neg (by omega)] | rw [if_pos c_4] | rw [if_pos c_24] | rw [if_neg (by rw [c_53]; decide)])]; exact ⟨_, _, _, _, _, hz29, hT30, hR31, hA32, hY33, hD34, hK35, hI36⟩)⟩⟩)
        · skip
          have k_53 := sBt_t.mp c_53
          refine z_iconst 0 O dX6_work_56 (by decide +kernel) ?_
          refine z_goto 61 O dX6_work_57 (by decide) ?_
          refine z_Vim [.int (iI 0)] [] kM_X6_118 O dX6_work_61 (c_X6_refused hst hO ⟨by omega, by omega⟩) rfl rfl hO.1 (by decide) (Nat.le_of_ble_eq_true rfl) (by omega) (by omega) (Nat.le_of_ble_eq_true rfl) zNx (fun H37 hp38 hz39 => ?_)
          obtain ⟨hf40, hz41⟩ := hp38
          have hT42 := hT.fr hf40 (by first | exact zT1 (by omega) | (show ¬ (_ ∨ _); omega) | (show ¬ (_ ∧ _); omega))
          have hR43 := hR.fr hf40 (by first | exact zT1 (by omega) | (show ¬ (_ ∨ _); omega) | (show ¬ (_ ∧ _); omega))
          have hA44 := hA.fr hf40 (by first | exact zT1 (by omega) | (show ¬ (_ ∨ _); omega) | (show ¬ (_ ∧ _); omega))
          have hY45 := hY.fr hf40 (by first | exact zT1 (by omega) | (show ¬ (_ ∨ _); omega) | (show ¬ (_ ∧ _); omega))
          have hD46 := hD.fr hf40 (by first | exact zT1 (by omega) | (show ¬ (_ ∨ _); omega) | (show ¬ (_ ∧ _); omega)) (by first | exact zT1 (by omega) | (show ¬ (_ ∨ _); omega) | (show ¬ (_ ∧ _); omega)) (by first | exact zT1 (by omega) | (show ¬ (_ ∨ _); omega) | (show ¬ (_ ∧ _); omega)) (by first | exact zT1 (by omega) | (show ¬ (_ ∨ _); omega) | (show ¬ (_ ∧ _); omega))
          have hK47 := hK.fr hf40 (by first | exact zT1 (by omega) | (show ¬ (_ ∨ _); omega) | (show ¬ (_ ∧ _); omega))
          have hI48 := hI.fr hf40 (by first | exact zT1 (by omega) | (show ¬ (_ ∨ _); omega) | (show ¬ (_ ∧ _); omega))
          rw [show zb (decide ((0 : Int) < 0)) = 0 from rfl]
          refine z_if_eq 69 O dX6_work_64 (by decide) ⟨by omega, by omega⟩ (fun c_64 => ?_) (fun c_64 => ?_)
          · skip
            refine z_iload_n 4 O dX6_work_69 rfl ?_
            rcases (show j = 0 ∨ j = 1 ∨ j = 2 ∨ j = 3 ∨ (j < 0 ∨ 3 < j) by omega) with c_70 | c_70 | c_70 | c_70 | c_70
            · skip
              refine z_tsw 0 100 O dX6_work_70 ⟨by omega, by omega⟩ (by omega) (by decide) rfl (by decide) ?_
              refine z_aload_n 1 O dX6_work_100 rfl ?_
              refine z_getf kF_X6_16 O dX6_work_101 hz41.1 rfl ?_
              refine z_iload_n 2 O dX6_work_104 rfl ?_
              refine z_iload_n 3 O dX6_work_105 rfl ?_
              refine z_iconst 0 O dX6_work_106 (by decide +kernel) ?_
              refine z_Si [.int (iI w), .int (iI i), .int (iI 0)] [.ref (Q 3)] kM_X6_73 O dX6_work_107 (c_X6_workAt hst) rfl rfl (by decide) (Nat.le_of_ble_eq_true rfl) (by omega) (by omega) (Nat.le_of_ble_eq_true rfl) zNx ?_
              have ea49 : wA w i 0 = 36 + 1350 * w + (5 + 13 * i + 0) := rfl
              refine z_iald O dX6_work_110 hA44.1 ⟨by omega, by omega⟩ (by omega) (by omega) ?_
              exact z_ireti O dX6_work_111 rfl (by omega) (by omega) hpo (by rw [if_pos (show (cWk G w i j) = 0 from by unfold cWk; (repeat first | rw [if_pos (by omega)] | rw [if_neg (by omega)] | rw [if_pos c_4] | rw [if_pos c_24] | rw [if_pos c_53]))]; unfold vWk; (repeat first | rw [if_pos (by omega)] | rw [if_neg (by omega)] | rw [if_pos c_4] | rw [if_pos c_24] | rw [if_pos c_53]); (try exact zb_t c_4); (try exact zb_t c_24); (try exact zb_t c_53)) (⟨(hf40.up (fun s h => by first | exact h.elim | omega | (simp at h ⊢; omega))), Or.inr ⟨(show (cWk G w i j) = 0 from by unfold cWk; (repeat first | rw [if_pos (by omega)] | rw [if_neg (by omega)] | rw [if_pos c_4] | rw [if_pos c_24] | rw [if_pos c_53])), ⟨_, _, _, _, _, hz41, hT42, hR43, hA44, hY45, hD46, hK47, hI48⟩⟩⟩)
            · skip
              refine z_tsw 1 112 O dX6_work_70 ⟨by omega, by omega⟩ (by omega) (by decide) rfl (by decide) ?_
              refine z_aload_n 1 O dX6_work_112 rfl ?_
              refine z_getf kF_X6_16 O dX6_work_113 hz41.1 rfl ?_
              refine z_iload_n 2 O dX6_work_116 rfl ?_
              refine z_iload_n 3 O dX6_work_117 rfl ?_
              refine z_iconst 2 O dX6_work_118 (by decide +kernel) ?_
              refine z_Si [.int (iI w), .int (iI i), .int (iI 2)] [.ref (Q 3)] kM_X6_73 O dX6_work_119 (c_X6_workAt hst) rfl rfl (by decide) (Nat.le_of_ble_eq_true rfl) (by omega) (by omega) (Nat.le_of_ble_eq_true rfl) zNx ?_
              have ea50 : wA w i 2 = 36 + 1350 * w + (5 + 13 * i + 2) := rfl
              refine z_iald O dX6_work_122 hA44.1 ⟨by omega, by omega⟩ (by omega) (by omega) ?_
              exact z_ireti O dX6_work_123 rfl (by omega) (by omega) hpo (by rw [if_pos (show (cWk G w i j) = 0 from by unfold cWk; (repeat first | rw [if_pos (by omega)] | rw [if_neg (by omega)] | rw [if_pos c_4] | rw [if_pos c_24] | rw [if_pos c_53]))]; unfold vWk; (repeat first | rw [if_pos (by omega)] | rw [if_neg (by omega)] | rw [if_pos c_4] | rw [if_pos c_24] | rw [if_pos c_53]); (try exact zb_t c_4); (try exact zb_t c_24); (try exact zb_t c_53)) (⟨(hf40.up (fun s h => by first | exact h.elim | omega | (simp at h ⊢; omega))), Or.inr ⟨(show (cWk G w i j) = 0 from by unfold cWk; (repeat first | rw [if_pos (by omega)] | rw [if_neg (by omega)] | rw [if_pos c_4] | rw [if_pos c_24] | rw [if_pos c_53])), ⟨_, _, _, _, _, hz41, hT42, hR43, hA44, hY45, hD46, hK47, hI48⟩⟩⟩)
            · skip
              refine z_tsw 2 124 O dX6_work_70 ⟨by omega, by omega⟩ (by omega) (by decide) rfl (by decide) ?_
              refine z_aload_n 1 O dX6_work_124 rfl ?_
              refine z_getf kF_X6_16 O dX6_work_125 hz41.1 rfl ?_
              refine z_iload_n 2 O dX6_work_128 rfl ?_
              refine z_iload_n 3 O dX6_work_129 rfl ?_
              refine z_Si [.ref (Q 3), .int (iI w), .int (iI i)] [] kM_X6_102 O dX6_work_130 (c_X6_regretsOf hst hA44 hm ⟨by omega, by omega⟩ ⟨by omega, by omega⟩) rfl rfl (by decide) (Nat.le_of_ble_eq_true rfl) (by omega) (by omega) (Nat.le_of_ble_eq_true rfl) zNx ?_
              exact z_ireti O dX6_work_133 rfl (by omega) (by omega) hpo (by rw [if_pos (show (cWk G w i j) = 0 from by unfold cWk; (repeat first | rw [if_pos (by omega)] | rw [if_neg (by omega)] | rw [if_pos c_4] | rw [if_pos c_24] | rw [if_pos c_53]))]; unfold vWk; (repeat first | rw [if_pos (by omega)] | rw [if_neg (by omega)] | rw [if_pos c_4] | rw [if_pos c_24] | rw [if_pos c_53]); (try exact zb_t c_4); (try exact zb_t c_24); (try exact zb_t c_53)) (⟨(hf40.up (fun s h => by first | exact h.elim | omega | (simp at h ⊢; omega))), Or.inr ⟨(show (cWk G w i j) = 0 from by unfold cWk; (repeat first | rw [if_pos (by omega)] | rw [if_neg (by omega)] | rw [if_pos c_4] | rw [if_pos c_24] | rw [if_pos c_53])), ⟨_, _, _, _, _, hz41, hT42, hR43, hA44, hY45, hD46, hK47, hI48⟩⟩⟩)
            · skip
              refine z_tsw 3 134 O dX6_work_70 ⟨by omega, by omega⟩ (by omega) (by decide) rfl (by decide) ?_
              refine z_aload_n 1 O dX6_work_134 rfl ?_
              refine z_getf kF_X6_16 O dX6_work_135 hz41.1 rfl ?_
              refine z_iload_n 2 O dX6_work_138 rfl ?_
              refine z_iload_n 3 O dX6_work_139 rfl ?_
              refine z_iconst 3 O dX6_work_140 (by decide +kernel) ?_
              refine z_Si [.int (iI w), .int (iI i), .int (iI 3)] [.ref (Q 3)] kM_X6_73 O dX6_work_141 (c_X6_workAt hst) rfl rfl (by decide) (Nat.le_of_ble_eq_true rfl) (by omega) (by omega) (Nat.le_of_ble_eq_true rfl) zNx ?_
              have ea51 : wA w i 3 = 36 + 1350 * w + (5 + 13 * i + 3) := rfl
              refine z_iald O dX6_work_144 hA44.1 ⟨by omega, by omega⟩ (by omega) (by omega) ?_
              exact z_ireti O dX6_work_145 rfl (by omega) (by omega) hpo (by rw [if_pos (show (cWk G w i j) = 0 from by unfold cWk; (repeat first | rw [if_pos (by omega)] | rw [if_neg (by omega)] | rw [if_pos c_4] | rw [if_pos c_24] | rw [if_pos c_53]))]; unfold vWk; (repeat first | rw [if_pos (by omega)] | rw [if_neg (by omega)] | rw [if_pos c_4] | rw [if_pos c_24] | rw [if_pos c_53]); (try exact zb_t c_4); (try exact zb_t c_24); (try exact zb_t c_53)) (⟨(hf40.up (fun s h => by first | exact h.elim | omega | (simp at h ⊢; omega))), Or.inr ⟨(show (cWk G w i j) = 0 from by unfold cWk; (repeat first | rw [if_pos (by omega)] | rw [if_neg (by omega)] | rw [if_pos c_4] | rw [if_pos c_24] | rw [if_pos c_53])), ⟨_, _, _, _, _, hz41, hT42, hR43, hA44, hY45, hD46, hK47, hI48⟩⟩⟩)
            · skip
              refine z_tswO 146 O dX6_work_70 ⟨by omega, by omega⟩ c_70 (by decide) ?_
              refine z_aload_n 1 O dX6_work_146 rfl ?_
              refine z_getf kF_X6_16 O dX6_work_147 hz41.1 rfl ?_
              refine z_iload_n 2 O dX6_work_150 rfl ?_
              refine z_iload_n 3 O dX6_work_151 rfl ?_
              refine z_iconst 4 O dX6_work_152 (by decide +kernel) ?_
              refine z_Si [.int (iI w), .int (iI i), .int (iI 4)] [.ref (Q 3)] kM_X6_73 O dX6_work_153 (c_X6_workAt hst) rfl rfl (by decide) (Nat.le_of_ble_eq_true rfl) (by omega) (by omega) (Nat.le_of_ble_eq_true rfl) zNx ?_
              have ea52 : wA w i 4 = 36 + 1350 * w + (5 + 13 * i + 4) := rfl
              refine z_iald O dX6_work_156 hA44.1 ⟨by omega, by omega⟩ (by omega) (by omega) ?_
              exact z_ireti O dX6_work_157 rfl (by omega) (by omega) hpo (by rw [if_pos (show (cWk G w i j) = 0 from by unfold cWk; (repeat first | rw [if_pos (by omega)] | rw [if_neg (by omega)] | rw [if_pos c_4] | rw [if_pos c_24] | rw [if_pos c_53]))]; unfold vWk; (repeat first | rw [if_pos (by omega)] | rw [if_neg (by omega)] | rw [if_pos c_4] | rw [if_pos c_24] | rw [if_pos c_53]); (try exact zb_t c_4); (try exact zb_t c_24); (try exact zb_t c_53)) (⟨(hf40.up (fun s h => by first | exact h.elim | omega | (simp at h ⊢; omega))), Or.inr ⟨(show (cWk G w i j) = 0 from by unfold cWk; (repeat first | rw [if_pos (by omega)] | rw [if_neg (by omega)] | rw [if_pos c_4] | rw [if_pos c_24] | rw [if_pos c_53])), ⟨_, _, _, _, _, hz41, hT42, hR43, hA44, hY45, hD46, hK47, hI48⟩⟩⟩)
          · exfalso; omega
      · exfalso; omega

theorem c_X6_save {E : zE} (hst : E.1.stackTraces = false) {H : Heap} {r : zH} {q : Nat} {Q : Nat → Nat} {n : Int} {tx G : Int → Int} {fi ac : Int} {dd : Nat → Int → Int} {kp ik : Int → Int} {rf N : Int} {k : Int} (hM : zMs E H r q Q n tx G fi ac dd kp ik rf) (hOK : mOK n tx G fi ac ik N) (hk : zR k) : zC E yX6_save cX6_save 2 (some .int) 1 25 [.ref q, .int (iI k)] H 0 0 (zRi (if (cSl k) = 0 then (zSum 16 G) else 0) (fun H1 => zFr H r H1 r (fun s => 100000 ≤ s) ∧ (((cSl k) ≠ 0 ∧ zMs E H1 r q Q n tx G fi ac dd kp ik (cSl k)) ∨ ((cSl k) = 0 ∧ zMs E H1 r q Q n tx G fi ac dd (zCpy G kp 0 (4086 * k) 4086) (zU ik k 1) 0)))) zN := by
  refine zC.of (by decide) (Nat.le_of_ble_eq_true rfl) hst ?_
  intro x O hE hpo hpx
  subst hE
  change zG x H 0 0 0 [(0, .ref q), (1, .int (iI k))] []
  obtain ⟨sp, gd, lo, rd, tr, hO, hT, hR, hA, hY, hD, hK, hI⟩ := hM
  obtain ⟨hn, hx, hG, hN, hfi, hac, hik⟩ := hOK
  refine z_aload_n 0 O dX6_save_0 rfl ?_
  refine z_iload_n 1 O dX6_save_1 rfl ?_
  refine z_i2l O dX6_save_2 ⟨by omega, by omega⟩ ?_
  refine z_lconst 0 O dX6_save_3 (by decide +kernel) ?_
  refine z_lconst 1 O dX6_save_4 (by decide +kernel) ?_
  refine z_Si [.long (iL k), .long (iL 0), .long (iL 1)] [.ref q] kM_X6_92 O dX6_save_5 (c_X6_in hst ⟨by omega, by omega⟩ ⟨by omega, by omega⟩ ⟨by omega, by omega⟩) rfl rfl (by decide) (Nat.le_of_ble_eq_true rfl) (by omega) (by omega) (Nat.le_of_ble_eq_true rfl) zNx ?_
  refine z_ifb_eq 15 O dX6_save_8 (by decide) (fun c_8 => ?_) (fun c_8 => ?_)
  · skip
    have k_8 := sBt_f.mp c_8
    refine z_iconst 1 O dX6_save_15 (by decide +kernel) ?_
    refine z_Vim [.int (iI 1)] [] kM_X6_118 O dX6_save_16 (c_X6_refused hst hO ⟨by omega, by omega⟩) rfl rfl hO.1 (by decide) (Nat.le_of_ble_eq_true rfl) (by omega) (by omega) (Nat.le_of_ble_eq_true rfl) zNx (fun H1 hp2 hz3 => ?_)
    obtain ⟨hf4, hz5⟩ := hp2
    have hT6 := hT.fr hf4 (by first | exact zT1 (by omega) | (show ¬ (_ ∨ _); omega) | (show ¬ (_ ∧ _); omega))
    have hR7 := hR.fr hf4 (by first | exact zT1 (by omega) | (show ¬ (_ ∨ _); omega) | (show ¬ (_ ∧ _); omega))
    have hA8 := hA.fr hf4 (by first | exact zT1 (by omega) | (show ¬ (_ ∨ _); omega) | (show ¬ (_ ∧ _); omega))
    have hY9 := hY.fr hf4 (by first | exact zT1 (by omega) | (show ¬ (_ ∨ _); omega) | (show ¬ (_ ∧ _); omega))
    have hD10 := hD.fr hf4 (by first | exact zT1 (by omega) | (show ¬ (_ ∨ _); omega) | (show ¬ (_ ∧ _); omega)) (by first | exact zT1 (by omega) | (show ¬ (_ ∨ _); omega) | (show ¬ (_ ∧ _); omega)) (by first | exact zT1 (by omega) | (show ¬ (_ ∨ _); omega) | (show ¬ (_ ∧ _); omega)) (by first | exact zT1 (by omega) | (show ¬ (_ ∨ _); omega) | (show ¬ (_ ∧ _); omega))
    have hK11 := hK.fr hf4 (by first | exact zT1 (by omega) | (show ¬ (_ ∨ _); omega) | (show ¬ (_ ∧ _); omega))
    have hI12 := hI.fr hf4 (by first | exact zT1 (by omega) | (show ¬ (_ ∨ _); omega) | (show ¬ (_ ∧ _); omega))
    rw [show zb (decide ((0 : Int) < 1)) = 1 from rfl]
    refine z_if_eq 24 O dX6_save_19 (by decide) ⟨by omega, by omega⟩ (fun c_19 => ?_) (fun c_19 => ?_)
    · exfalso; omega
    · skip
      refine z_iconst 0 O dX6_save_22 (by decide +kernel) ?_
      exact z_ireti O dX6_save_23 rfl (by omega) (by omega) hpo (by rw [if_neg (by rw [show (cSl k) = 1 from by unfold cSl; (repeat first | rw [if_pos (by omega)] | rw [if_neg (by omega)] | rw [if_neg (by rw [c_8]; decide)])]; decide)]) (⟨(hf4.up (fun s h => by first | exact h.elim | omega | (simp at h ⊢; omega))), Or.inl ⟨(by rw [show (cSl k) = 1 from by unfold cSl; (repeat first | rw [if_pos (by omega)] | rw [if_neg (by omega)] | rw [if_neg (by rw [c_8]; decide)])]; decide), (by rw [show (cSl k) = 1 from by unfold cSl; (repeat first | rw [if_pos (by omega)] | rw [if_neg (by omega)] | rw [if_neg (by rw [c_8]; decide)])]; exact ⟨_, _, _, _, _, hz5, hT6, hR7, hA8, hY9, hD10, hK11, hI12⟩)⟩⟩)
  · skip
    have k_8 := sBt_t.mp c_8
    refine z_iconst 0 O dX6_save_11 (by decide +kernel) ?_
    refine z_goto 16 O dX6_save_12 (by decide) ?_
    refine z_Vim [.int (iI 0)] [] kM_X6_118 O dX6_save_16 (c_X6_refused hst hO ⟨by omega, by omega⟩) rfl rfl hO.1 (by decide) (Nat.le_of_ble_eq_true rfl) (by omega) (by omega) (Nat.le_of_ble_eq_true rfl) zNx (fun H13 hp14 hz15 => ?_)
    obtain ⟨hf16, hz17⟩ := hp14
    have hT18 := hT.fr hf16 (by first | exact zT1 (by omega) | (show ¬ (_ ∨ _); omega) | (show ¬ (_ ∧ _); omega))
    have hR19 := hR.fr hf16 (by first | exact zT1 (by omega) | (show ¬ (_ ∨ _); omega) | (show ¬ (_ ∧ _); omega))
    have hA20 := hA.fr hf16 (by first | exact zT1 (by omega) | (show ¬ (_ ∨ _); omega) | (show ¬ (_ ∧ _); omega))
    have hY21 := hY.fr hf16 (by first | exact zT1 (by omega) | (show ¬ (_ ∨ _); omega) | (show ¬ (_ ∧ _); omega))
    have hD22 := hD.fr hf16 (by first | exact zT1 (by omega) | (show ¬ (_ ∨ _); omega) | (show ¬ (_ ∧ _); omega)) (by first | exact zT1 (by omega) | (show ¬ (_ ∨ _); omega) | (show ¬ (_ ∧ _); omega)) (by first | exact zT1 (by omega) | (show ¬ (_ ∨ _); omega) | (show ¬ (_ ∧ _); omega)) (by first | exact zT1 (by omega) | (show ¬ (_ ∨ _); omega) | (show ¬ (_ ∧ _); omega))
    have hK23 := hK.fr hf16 (by first | exact zT1 (by omega) | (show ¬ (_ ∨ _); omega) | (show ¬ (_ ∧ _); omega))
    have hI24 := hI.fr hf16 (by first | exact zT1 (by omega) | (show ¬ (_ ∨ _); omega) | (show ¬ (_ ∧ _); omega))
    rw [show zb (decide ((0 : Int) < 0)) = 0 from rfl]
    refine z_if_eq 24 O dX6_save_19 (by decide) ⟨by omega, by omega⟩ (fun c_19 => ?_) (fun c_19 => ?_)
    · skip
      refine z_aload_n 0 O dX6_save_24 rfl ?_
      refine z_getf kF_X6_16 O dX6_save_25 hz17.1 rfl ?_
      refine z_iconst 0 O dX6_save_28 (by decide +kernel) ?_
      refine z_aload_n 0 O dX6_save_29 rfl ?_
      refine z_getf kF_X6_34 O dX6_save_30 hz17.1 rfl ?_
      refine z_sipush 4086 O dX6_save_33 (by decide +kernel) ?_
      refine z_iload_n 1 O dX6_save_36 rfl ?_
      refine z_imul O dX6_save_37 ?_
      refine z_sipush 4086 O dX6_save_38 (by decide +kernel) ?_
      refine z_Svm [.ref (Q 3), .int (iI 0), .ref (Q 9), .int (iI (4086 * k)), .int (iI 4086)] [] kM_X6_54 O dX6_save_41 (c_X6_copy hst hA20 hK23 (by decide) (by omega) (by omega) (by omega) (by omega) (by omega) (by omega)) rfl rfl (by decide) (Nat.le_of_ble_eq_true rfl) (by omega) (by omega) (Nat.le_of_ble_eq_true rfl) zNx (fun H25 hp26 hz27 => ?_)
      obtain ⟨hf28, ha29⟩ := hp26
      have hz30 := hz17.fr hf28 (by first | exact zT1 (by omega) | (show ¬ (_ ∨ _); omega) | (show ¬ (_ ∧ _); omega))
      have hT31 := hT18.fr hf28 (by first | exact zT1 (by omega) | (show ¬ (_ ∨ _); omega) | (show ¬ (_ ∧ _); omega))
      have hR32 := hR19.fr hf28 (by first | exact zT1 (by omega) | (show ¬ (_ ∨ _); omega) | (show ¬ (_ ∧ _); omega))
      have hA33 := hA20.fr hf28 (by first | exact zT1 (by omega) | (show ¬ (_ ∨ _); omega) | (show ¬ (_ ∧ _); omega))
      have hY34 := hY21.fr hf28 (by first | exact zT1 (by omega) | (show ¬ (_ ∨ _); omega) | (show ¬ (_ ∧ _); omega))
      have hD35 := hD22.fr hf28 (by first | exact zT1 (by omega) | (show ¬ (_ ∨ _); omega) | (show ¬ (_ ∧ _); omega)) (by first | exact zT1 (by omega) | (show ¬ (_ ∨ _); omega) | (show ¬ (_ ∧ _); omega)) (by first | exact zT1 (by omega) | (show ¬ (_ ∨ _); omega) | (show ¬ (_ ∧ _); omega)) (by first | exact zT1 (by omega) | (show ¬ (_ ∨ _); omega) | (show ¬ (_ ∧ _); omega))
      have hI36 := hI24.fr hf28 (by first | exact zT1 (by omega) | (show ¬ (_ ∨ _); omega) | (show ¬ (_ ∧ _); omega))
      refine z_aload_n 0 O dX6_save_44 rfl ?_
      refine z_getf kF_X6_37 O dX6_save_45 hz30.1 rfl ?_
      refine z_iload_n 1 O dX6_save_48 rfl ?_
      refine z_iconst 1 O dX6_save_49 (by decide +kernel) ?_
      refine z_zast O (by omega) dX6_save_50 hI36.1 ⟨by omega, by omega⟩ (by omega) (by omega) (fun H37 hA38 hC39 => ?_)
      have hf40 := hI36.ch hC39
      have ha41 : zZ (zEn x) H37 r 100010 (Q 10) 2 (zU ik k 1) := ⟨hA38, hI36.2⟩
      have hz42 := hz30.fr hf40 (zT1 (by omega))
      have hT43 := hT31.fr hf40 (zT1 (by omega))
      have hR44 := hR32.fr hf40 (zT1 (by omega))
      have hA45 := hA33.fr hf40 (zT1 (by omega))
      have hY46 := hY34.fr hf40 (zT1 (by omega))
      have hD47 := hD35.fr hf40 (zT1 (by omega)) (zT1 (by omega)) (zT1 (by omega)) (zT1 (by omega))
      have ha48 := ha29.fr hf40 (zT1 (by omega))
      refine z_aload_n 0 O dX6_save_51 rfl ?_
      refine z_getf kF_X6_16 O dX6_save_52 hz42.1 rfl ?_
      refine z_Si [.ref (Q 3)] [] kM_X6_209 O dX6_save_55 (c_X6_sum hst hA45) rfl rfl (by decide) (Nat.le_of_ble_eq_true rfl) (by omega) (by omega) (Nat.le_of_ble_eq_true rfl) zNx ?_
      exact z_ireti O dX6_save_58 rfl (by omega) (by omega) hpo (by rw [if_pos (show (cSl k) = 0 from by unfold cSl; (repeat first | rw [if_pos (by omega)] | rw [if_neg (by omega)] | rw [if_pos c_8]))]) (⟨(((((hf16.up (fun s h => by first | exact h.elim | omega | (simp at h ⊢; omega)))).tr (hf28.up (fun s h => by first | exact h.elim | omega | (simp at h ⊢; omega))))).tr (hf40.up (fun s h => by first | exact h.elim | omega | (simp at h ⊢; omega)))), Or.inr ⟨(show (cSl k) = 0 from by unfold cSl; (repeat first | rw [if_pos (by omega)] | rw [if_neg (by omega)] | rw [if_pos c_8])), ⟨_, _, _, _, _, hz42, hT43, hR44, hA45, hY46, hD47, ha48, ha41⟩⟩⟩)
    · exfalso; omega
