/-! the reference: its operations (written by program: wip/whole/gen/model5.py) -/
theorem c_X6_begin {E : zE} (hst : E.1.stackTraces = false) {H : Heap} {r : zH} {q : Nat} {Q : Nat → Nat} {n : Int} {tx G : Int → Int} {fi ac : Int} {dd : Nat → Int → Int} {kp ik : Int → Int} {rf N : Int} {w : Int} (hM : zMs E H r q Q n tx G fi ac dd kp ik rf) (hOK : mOK n tx G fi ac ik N) (hw : zR w) : zC E yX6_begin cX6_begin 3 (some .int) 5 107 [.ref q, .int (iI w)] H 0 0 (zRi (if (cBe G w) = 0 then (sBegin G w (at_ w 0)) else 0) (fun H1 => zFr H r H1 r (fun s => 100000 ≤ s) ∧ (((cBe G w) ≠ 0 ∧ zMs E H1 r q Q n tx G fi ac dd kp ik (cBe G w)) ∨ ((cBe G w) = 0 ∧ zMs E H1 r q Q n tx (sBegin G w) (mFi fi ac) (mAc ac) (zDw dd (mIx fi ac) G) kp ik 0)))) zN := by
  refine zC.of (by decide) (Nat.le_of_ble_eq_true rfl) hst ?_
  intro x O hE hpo hpx
  subst hE
  change zG x H 0 0 0 [(0, .ref q), (1, .int (iI w))] []
  obtain ⟨sp, gd, lo, rd, tr, hO, hT, hR, hA, hY, hD, hK, hI⟩ := hM
  obtain ⟨hn, hx, hG, hN, hfi, hac, hik⟩ := hOK
  refine z_iload_n 1 O dX6_begin_0 rfl ?_
  refine z_Si [.int (iI w)] [] kM_X6_232 O dX6_begin_1 (c_X6_isWorker hst ⟨by omega, by omega⟩) rfl rfl (by decide) (Nat.le_of_ble_eq_true rfl) (by omega) (by omega) (Nat.le_of_ble_eq_true rfl) zNx ?_
  refine z_istore_n [(2, .int (iI (zb (sBt w 0 2)))), (0, .ref q), (1, .int (iI w))] O dX6_begin_4 (by decide) rfl ?_
  refine z_aload_n 1 O dX6_begin_5 rfl ?_
  refine z_iload_n 0 O dX6_begin_6 rfl ?_
  refine z_ifb_ne 14 O dX6_begin_7 (by decide) (fun c_7 => ?_) (fun c_7 => ?_)
  · skip
    have k_7 := sBt_t.mp c_7
    refine z_aload_n 1 O dX6_begin_14 rfl ?_
    refine z_getf kF_X6_16 O dX6_begin_15 hO.1 rfl ?_
    refine z_iload_n 2 O dX6_begin_18 rfl ?_
    refine z_Si [.ref (Q 3), .int (iI w)] [.ref q] kM_X6_169 O dX6_begin_19 (c_X6_canBegin hst hA hG ⟨by omega, by omega⟩) rfl rfl (by decide) (Nat.le_of_ble_eq_true rfl) (by omega) (by omega) (Nat.le_of_ble_eq_true rfl) zNx ?_
    refine z_ifb_eq 29 O dX6_begin_22 (by decide) (fun c_22 => ?_) (fun c_22 => ?_)
    · skip
      have k_22 := sCb_f.mp c_22
      refine z_iconst 2 O dX6_begin_29 (by decide +kernel) ?_
      refine z_Vim [.int (iI 2)] [] kM_X6_118 O dX6_begin_30 (c_X6_refused hst hO ⟨by omega, by omega⟩) rfl rfl hO.1 (by decide) (Nat.le_of_ble_eq_true rfl) (by omega) (by omega) (Nat.le_of_ble_eq_true rfl) zNx (fun H1 hp2 hz3 => ?_)
      obtain ⟨hf4, hz5⟩ := hp2
      have hT6 := hT.fr hf4 (by first | exact zT1 (by omega) | (show ¬ (_ ∨ _); omega) | (show ¬ (_ ∧ _); omega))
      have hR7 := hR.fr hf4 (by first | exact zT1 (by omega) | (show ¬ (_ ∨ _); omega) | (show ¬ (_ ∧ _); omega))
      have hA8 := hA.fr hf4 (by first | exact zT1 (by omega) | (show ¬ (_ ∨ _); omega) | (show ¬ (_ ∧ _); omega))
      have hY9 := hY.fr hf4 (by first | exact zT1 (by omega) | (show ¬ (_ ∨ _); omega) | (show ¬ (_ ∧ _); omega))
      have hD10 := hD.fr hf4 (by first | exact zT1 (by omega) | (show ¬ (_ ∨ _); omega) | (show ¬ (_ ∧ _); omega)) (by first | exact zT1 (by omega) | (show ¬ (_ ∨ _); omega) | (show ¬ (_ ∧ _); omega)) (by first | exact zT1 (by omega) | (show ¬ (_ ∨ _); omega) | (show ¬ (_ ∧ _); omega)) (by first | exact zT1 (by omega) | (show ¬ (_ ∨ _); omega) | (show ¬ (_ ∧ _); omega))
      have hK11 := hK.fr hf4 (by first | exact zT1 (by omega) | (show ¬ (_ ∨ _); omega) | (show ¬ (_ ∧ _); omega))
      have hI12 := hI.fr hf4 (by first | exact zT1 (by omega) | (show ¬ (_ ∨ _); omega) | (show ¬ (_ ∧ _); omega))
      rw [show zb (decide ((0 : Int) < 2)) = 1 from rfl]
      refine z_if_eq 38 O dX6_begin_33 (by decide) ⟨by omega, by omega⟩ (fun c_33 => ?_) (fun c_33 => ?_)
      · exfalso; omega
      · skip
        refine z_iconst 0 O dX6_begin_36 (by decide +kernel) ?_
        exact z_ireti O dX6_begin_37 rfl (by omega) (by omega) hpo (by rw [if_neg (by rw [show (cBe G w) = 2 from by unfold cBe; (repeat first | rw [if_pos (by omega)] | rw [if_neg (by omega)] | rw [if_pos c_7] | rw [if_neg (by rw [c_22]; decide)])]; decide)]) (⟨(hf4.up (fun s h => by first | exact h.elim | omega | (simp at h ⊢; omega))), Or.inl ⟨(by rw [show (cBe G w) = 2 from by unfold cBe; (repeat first | rw [if_pos (by omega)] | rw [if_neg (by omega)] | rw [if_pos c_7] | rw [if_neg (by rw [c_22]; decide)])]; decide), (by rw [show (cBe G w) = 2 from by unfold cBe; (repeat first | rw [if_pos (by omega)] | rw [if_neg (by omega)] | rw [if_pos c_7] | rw [if_neg (by rw [c_22]; decide)])]; exact ⟨_, _, _, _, _, hz5, hT6, hR7, hA8, hY9, hD10, hK11, hI12⟩)⟩⟩)
    · skip
      have k_22 := sCb_t.mp c_22
      refine z_iconst 0 O dX6_begin_25 (by decide +kernel) ?_
      refine z_goto 30 O dX6_begin_26 (by decide) ?_
      refine z_Vim [.int (iI 0)] [] kM_X6_118 O dX6_begin_30 (c_X6_refused hst hO ⟨by omega, by omega⟩) rfl rfl hO.1 (by decide) (Nat.le_of_ble_eq_true rfl) (by omega) (by omega) (Nat.le_of_ble_eq_true rfl) zNx (fun H13 hp14 hz15 => ?_)
      obtain ⟨hf16, hz17⟩ := hp14
      have hT18 := hT.fr hf16 (by first | exact zT1 (by omega) | (show ¬ (_ ∨ _); omega) | (show ¬ (_ ∧ _); omega))
      have hR19 := hR.fr hf16 (by first | exact zT1 (by omega) | (show ¬ (_ ∨ _); omega) | (show ¬ (_ ∧ _); omega))
      have hA20 := hA.fr hf16 (by first | exact zT1 (by omega) | (show ¬ (_ ∨ _); omega) | (show ¬ (_ ∧ _); omega))
      have hY21 := hY.fr hf16 (by first | exact zT1 (by omega) | (show ¬ (_ ∨ _); omega) | (show ¬ (_ ∧ _); omega))
      have hD22 := hD.fr hf16 (by first | exact zT1 (by omega) | (show ¬ (_ ∨ _); omega) | (show ¬ (_ ∧ _); omega)) (by first | exact zT1 (by omega) | (show ¬ (_ ∨ _); omega) | (show ¬ (_ ∧ _); omega)) (by first | exact zT1 (by omega) | (show ¬ (_ ∨ _); omega) | (show ¬ (_ ∧ _); omega)) (by first | exact zT1 (by omega) | (show ¬ (_ ∨ _); omega) | (show ¬ (_ ∧ _); omega))
      have hK23 := hK.fr hf16 (by first | exact zT1 (by omega) | (show ¬ (_ ∨ _); omega) | (show ¬ (_ ∧ _); omega))
      have hI24 := hI.fr hf16 (by first | exact zT1 (by omega) | (show ¬ (_ ∨ _); omega) | (show ¬ (_ ∧ _); omega))
      rw [show zb (decide ((0 : Int) < 0)) = 0 from rfl]
      refine z_if_eq 38 O dX6_begin_33 (by decide) ⟨by omega, by omega⟩ (fun c_33 => ?_) (fun c_33 => ?_)
      · skip
        have hm := hG.m (w := w) ⟨by omega, by omega⟩
        have hl := hG.l (w := w) ⟨by omega, by omega⟩
        refine z_aload_n 1 O dX6_begin_38 rfl ?_
        refine z_Vvm [] [] kM_X6_239 O dX6_begin_39 (c_X6_remember hst hz17 hA20 hD22 hfi hac) rfl rfl hz17.1 (by decide) (Nat.le_of_ble_eq_true rfl) (by omega) (by omega) (Nat.le_of_ble_eq_true rfl) zNx (fun H25 hp26 hz27 => ?_)
        obtain ⟨hf28, hz29, hz30⟩ := hp26
        have hT31 := hT18.fr hf28 (by first | exact zT1 (by omega) | (show ¬ (_ ∨ _); omega) | (show ¬ (_ ∧ _); omega))
        have hR32 := hR19.fr hf28 (by first | exact zT1 (by omega) | (show ¬ (_ ∨ _); omega) | (show ¬ (_ ∧ _); omega))
        have hA33 := hA20.fr hf28 (by first | exact zT1 (by omega) | (show ¬ (_ ∨ _); omega) | (show ¬ (_ ∧ _); omega))
        have hY34 := hY21.fr hf28 (by first | exact zT1 (by omega) | (show ¬ (_ ∨ _); omega) | (show ¬ (_ ∧ _); omega))
        have hK35 := hK23.fr hf28 (by first | exact zT1 (by omega) | (show ¬ (_ ∨ _); omega) | (show ¬ (_ ∧ _); omega))
        have hI36 := hI24.fr hf28 (by first | exact zT1 (by omega) | (show ¬ (_ ∨ _); omega) | (show ¬ (_ ∧ _); omega))
        refine z_aload_n 1 O dX6_begin_42 rfl ?_
        refine z_getf kF_X6_16 O dX6_begin_43 hz29.1 rfl ?_
        refine z_iload_n 2 O dX6_begin_46 rfl ?_
        refine z_Svm [.ref (Q 3), .int (iI w)] [] kM_X6_175 O dX6_begin_47 (c_X6_beginIn hst hA33 ⟨by omega, by omega⟩ ⟨by omega, by omega⟩) rfl rfl (by decide) (Nat.le_of_ble_eq_true rfl) (by omega) (by omega) (Nat.le_of_ble_eq_true rfl) zNx (fun H37 hp38 hz39 => ?_)
        obtain ⟨hf40, ha41⟩ := hp38
        have hz42 := hz29.fr hf40 (zT1 (by omega))
        have hT43 := hT31.fr hf40 (zT1 (by omega))
        have hR44 := hR32.fr hf40 (zT1 (by omega))
        have hY45 := hY34.fr hf40 (zT1 (by omega))
        have hz46 := hz30.fr hf40 (zT1 (by omega)) (zT1 (by omega)) (zT1 (by omega)) (zT1 (by omega))
        have hK47 := hK35.fr hf40 (zT1 (by omega))
        have hI48 := hI36.fr hf40 (zT1 (by omega))
        refine z_aload_n 1 O dX6_begin_50 rfl ?_
        refine z_getf kF_X6_16 O dX6_begin_51 hz42.1 rfl ?_
        refine z_iload_n 2 O dX6_begin_54 rfl ?_
        refine z_Si [.ref (Q 3), .int (iI w)] [] kM_X6_69 O dX6_begin_55 (c_X6_many hst ha41 ⟨by omega, by omega⟩) rfl rfl (by decide) (Nat.le_of_ble_eq_true rfl) (by omega) (by omega) (Nat.le_of_ble_eq_true rfl) zNx ?_
        exact z_ireti O dX6_begin_58 rfl (by omega) (by omega) hpo (by rw [if_pos (show (cBe G w) = 0 from by unfold cBe; (repeat first | rw [if_pos (by omega)] | rw [if_neg (by omega)] | rw [if_pos c_7] | rw [if_pos c_22]))]) (⟨(((((hf16.up (fun s h => by first | exact h.elim | omega | (simp at h ⊢; omega)))).tr (hf28.up (fun s h => by first | exact h.elim | omega | (simp at h ⊢; omega))))).tr (hf40.up (fun s h => by first | exact h.elim | omega | (simp at h ⊢; omega)))), Or.inr ⟨(show (cBe G w) = 0 from by unfold cBe; (repeat first | rw [if_pos (by omega)] | rw [if_neg (by omega)] | rw [if_pos c_7] | rw [if_pos c_22])), ⟨_, _, _, _, _, hz42, hT43, hR44, ha41, hY45, hz46, hK47, hI48⟩⟩⟩)
      · exfalso; omega
  · skip
    have k_7 := sBt_f.mp c_7
    refine z_iconst 1 O dX6_begin_10 (by decide +kernel) ?_
    refine z_goto 30 O dX6_begin_11 (by decide) ?_
    refine z_Vim [.int (iI 1)] [] kM_X6_118 O dX6_begin_30 (c_X6_refused hst hO ⟨by omega, by omega⟩) rfl rfl hO.1 (by decide) (Nat.le_of_ble_eq_true rfl) (by omega) (by omega) (Nat.le_of_ble_eq_true rfl) zNx (fun H49 hp50 hz51 => ?_)
    obtain ⟨hf52, hz53⟩ := hp50
    have hT54 := hT.fr hf52 (by first | exact zT1 (by omega) | (show ¬ (_ ∨ _); omega) | (show ¬ (_ ∧ _); omega))
    have hR55 := hR.fr hf52 (by first | exact zT1 (by omega) | (show ¬ (_ ∨ _); omega) | (show ¬ (_ ∧ _); omega))
    have hA56 := hA.fr hf52 (by first | exact zT1 (by omega) | (show ¬ (_ ∨ _); omega) | (show ¬ (_ ∧ _); omega))
    have hY57 := hY.fr hf52 (by first | exact zT1 (by omega) | (show ¬ (_ ∨ _); omega) | (show ¬ (_ ∧ _); omega))
    have hD58 := hD.fr hf52 (by first | exact zT1 (by omega) | (show ¬ (_ ∨ _); omega) | (show ¬ (_ ∧ _); omega)) (by first | exact zT1 (by omega) | (show ¬ (_ ∨ _); omega) | (show ¬ (_ ∧ _); omega)) (by first | exact zT1 (by omega) | (show ¬ (_ ∨ _); omega) | (show ¬ (_ ∧ _); omega)) (by first | exact zT1 (by omega) | (show ¬ (_ ∨ _); omega) | (show ¬ (_ ∧ _); omega))
    have hK59 := hK.fr hf52 (by first | exact zT1 (by omega) | (show ¬ (_ ∨ _); omega) | (show ¬ (_ ∧ _); omega))
    have hI60 := hI.fr hf52 (by first | exact zT1 (by omega) | (show ¬ (_ ∨ _); omega) | (show ¬ (_ ∧ _); omega))
    rw [show zb (decide ((0 : Int) < 1)) = 1 from rfl]
    refine z_if_eq 38 O dX6_begin_33 (by decide) ⟨by omega, by omega⟩ (fun c_33 => ?_) (fun c_33 => ?_)
    · exfalso; omega
    · skip
      refine z_iconst 0 O dX6_begin_36 (by decide +kernel) ?_
      exact z_ireti O dX6_begin_37 rfl (by omega) (by omega) hpo (by rw [if_neg (by rw [show (cBe G w) = 1 from by unfold cBe; (repeat first | rw [if_pos (by omega)] | rw [if_neg (by omega)] | rw [if_neg (by rw [c_7]; decide)])]; decide)]) (⟨(hf52.up (fun s h => by first | exact h.elim | omega | (simp at h ⊢; omega))), Or.inl ⟨(by rw [show (cBe G w) = 1 from by unfold cBe; (repeat first | rw [if_pos (by omega)] | rw [if_neg (by omega)] | rw [if_neg (by rw [c_7]; decide)])]; decide), (by rw [show (cBe G w) = 1 from by unfold cBe; (repeat first | rw [if_pos (by omega)] | rw [if_neg (by omega)] | rw [if_neg (by rw [c_7]; decide)])]; exact ⟨_, _, _, _, _, hz53, hT54, hR55, hA56, hY57, hD58, hK59, hI60⟩)⟩⟩)
