/-! the reference: its operations that read, the text (written by program: wip/whole/gen/model5.py) -/
theorem c_X6_clearText {E : zE} (hst : E.1.stackTraces = false) {H : Heap} {r : zH} {q : Nat} {Q : Nat → Nat} {n : Int} {tx G : Int → Int} {fi ac : Int} {dd : Nat → Int → Int} {kp ik : Int → Int} {rf N : Int} (hM : zMs E H r q Q n tx G fi ac dd kp ik rf) (hOK : mOK n tx G fi ac ik N) : zC E yX6_clearText cX6_clearText 2 (some .int) 0 0 [.ref q] H 0 0 (zRi (if cNo = 0 then n else 0) (fun H1 => zFr H r H1 r (fun s => 100000 ≤ s) ∧ ((cNo ≠ 0 ∧ zMs E H1 r q Q n tx G fi ac dd kp ik cNo) ∨ (cNo = 0 ∧ zMs E H1 r q Q 0 tx G fi ac dd kp ik 0)))) zN := by
  refine zC.of (by decide) (Nat.le_of_ble_eq_true rfl) hst ?_
  intro x O hE hpo hpx
  subst hE
  change zG x H 0 0 0 [(0, .ref q)] []
  obtain ⟨sp, gd, lo, rd, tr, hO, hT, hR, hA, hY, hD, hK, hI⟩ := hM
  obtain ⟨hn, hx, hG, hN, hfi, hac, hik⟩ := hOK
  refine z_aload_n 0 O dX6_clearText_0 rfl ?_
  refine z_iconst 0 O dX6_clearText_1 (by decide +kernel) ?_
  refine z_putf kP_X6_45 O (fun h => nomatch h) dX6_clearText_2 hO.1 rfl rfl (Nat.le_of_ble_eq_true rfl) (fun H1 hO2 hC3 => ?_)
  have hf4 := hO.ch hC3
  have ho5 : zO (zEn x) H1 r 100000 q 6 [.int (iI 0), .ref (Q 1), .int (iI n), .int (iI sp), .int (iI (zb gd)), .int (iI lo), .ref (Q 2), .ref (Q 3), .ref (Q 4), .ref (Q 5), .ref (Q 6), .ref (Q 7), .ref (Q 8), .int (iI fi), .int (iI ac), .ref (Q 9), .ref (Q 10)] := ⟨hO2, hO.2⟩
  have hT6 := hT.fr hf4 (zT1 (by omega))
  have hR7 := hR.fr hf4 (zT1 (by omega))
  have hA8 := hA.fr hf4 (zT1 (by omega))
  have hY9 := hY.fr hf4 (zT1 (by omega))
  have hD10 := hD.fr hf4 (zT1 (by omega)) (zT1 (by omega)) (zT1 (by omega)) (zT1 (by omega))
  have hK11 := hK.fr hf4 (zT1 (by omega))
  have hI12 := hI.fr hf4 (zT1 (by omega))
  refine z_aload_n 0 O dX6_clearText_5 rfl ?_
  refine z_getf kF_X6_115 O dX6_clearText_6 ho5.1 rfl ?_
  refine z_istore_n [(1, .int (iI n)), (0, .ref q)] O dX6_clearText_9 (by decide) rfl ?_
  refine z_aload_n 1 O dX6_clearText_10 rfl ?_
  refine z_iconst 0 O dX6_clearText_11 (by decide +kernel) ?_
  refine z_putf kP_X6_115 O (fun h => nomatch h) dX6_clearText_12 ho5.1 rfl rfl (Nat.le_of_ble_eq_true rfl) (fun H13 hO14 hC15 => ?_)
  have hf16 := ho5.ch hC15
  have ho17 : zO (zEn x) H13 r 100000 q 6 [.int (iI 0), .ref (Q 1), .int (iI 0), .int (iI sp), .int (iI (zb gd)), .int (iI lo), .ref (Q 2), .ref (Q 3), .ref (Q 4), .ref (Q 5), .ref (Q 6), .ref (Q 7), .ref (Q 8), .int (iI fi), .int (iI ac), .ref (Q 9), .ref (Q 10)] := ⟨hO14, ho5.2⟩
  have hT18 := hT6.fr hf16 (zT1 (by omega))
  have hR19 := hR7.fr hf16 (zT1 (by omega))
  have hA20 := hA8.fr hf16 (zT1 (by omega))
  have hY21 := hY9.fr hf16 (zT1 (by omega))
  have hD22 := hD10.fr hf16 (zT1 (by omega)) (zT1 (by omega)) (zT1 (by omega)) (zT1 (by omega))
  have hK23 := hK11.fr hf16 (zT1 (by omega))
  have hI24 := hI12.fr hf16 (zT1 (by omega))
  refine z_iload_n 0 O dX6_clearText_15 rfl ?_
  exact z_ireti O dX6_clearText_16 rfl (by omega) (by omega) hpo (by rw [if_pos (show cNo = 0 from by rfl)]) (⟨(((hf4.up (fun s h => by first | exact h.elim | omega | (simp at h ⊢; omega)))).tr (hf16.up (fun s h => by first | exact h.elim | omega | (simp at h ⊢; omega)))), Or.inr ⟨(show cNo = 0 from by rfl), ⟨_, _, _, _, _, ho17, hT18, hR19, hA20, hY21, hD22, hK23, hI24⟩⟩⟩)

theorem c_X6_errorPosition {E : zE} (hst : E.1.stackTraces = false) {H : Heap} {r : zH} {q : Nat} {Q : Nat → Nat} {n : Int} {tx G : Int → Int} {fi ac : Int} {dd : Nat → Int → Int} {kp ik : Int → Int} {rf N : Int} (hM : zMs E H r q Q n tx G fi ac dd kp ik rf) (hOK : mOK n tx G fi ac ik N) : zC E yX6_errorPosition cX6_errorPosition 1 (some .int) 9 197 [.ref q] H 0 0 (zRi (if cNo = 0 then (tPos n tx) else 0) (fun H1 => zFr H r H1 r (fun s => 100000 ≤ s) ∧ ((cNo ≠ 0 ∧ zMs E H1 r q Q n tx G fi ac dd kp ik cNo) ∨ (cNo = 0 ∧ zMs E H1 r q Q n tx G fi ac dd kp ik 0)))) zN := by
  refine zC.of (by decide) (Nat.le_of_ble_eq_true rfl) hst ?_
  intro x O hE hpo hpx
  subst hE
  change zG x H 0 0 0 [(0, .ref q)] []
  obtain ⟨sp, gd, lo, rd, tr, hO, hT, hR, hA, hY, hD, hK, hI⟩ := hM
  obtain ⟨hn, hx, hG, hN, hfi, hac, hik⟩ := hOK
  refine z_aload_n 0 O dX6_errorPosition_0 rfl ?_
  refine z_iconst 0 O dX6_errorPosition_1 (by decide +kernel) ?_
  refine z_putf kP_X6_45 O (fun h => nomatch h) dX6_errorPosition_2 hO.1 rfl rfl (Nat.le_of_ble_eq_true rfl) (fun H1 hO2 hC3 => ?_)
  have hf4 := hO.ch hC3
  have ho5 : zO (zEn x) H1 r 100000 q 6 [.int (iI 0), .ref (Q 1), .int (iI n), .int (iI sp), .int (iI (zb gd)), .int (iI lo), .ref (Q 2), .ref (Q 3), .ref (Q 4), .ref (Q 5), .ref (Q 6), .ref (Q 7), .ref (Q 8), .int (iI fi), .int (iI ac), .ref (Q 9), .ref (Q 10)] := ⟨hO2, hO.2⟩
  have hT6 := hT.fr hf4 (zT1 (by omega))
  have hR7 := hR.fr hf4 (zT1 (by omega))
  have hA8 := hA.fr hf4 (zT1 (by omega))
  have hY9 := hY.fr hf4 (zT1 (by omega))
  have hD10 := hD.fr hf4 (zT1 (by omega)) (zT1 (by omega)) (zT1 (by omega)) (zT1 (by omega))
  have hK11 := hK.fr hf4 (zT1 (by omega))
  have hI12 := hI.fr hf4 (zT1 (by omega))
  refine z_aload_n 0 O dX6_errorPosition_5 rfl ?_
  refine z_Vim [] [] kM_X6_206 O dX6_errorPosition_6 (c_X6_readText hst ho5 hT6 hR7 hx hn) rfl rfl ho5.1 (by decide) (Nat.le_of_ble_eq_true rfl) (by omega) (by omega) (Nat.le_of_ble_eq_true rfl) zNx (fun H13 hp14 hz15 => ?_)
  obtain ⟨hf16, hz17, hz18⟩ := hp14
  have hT19 := hT6.fr hf16 (by first | exact zT1 (by omega) | (show ¬ (_ ∨ _); omega) | (show ¬ (_ ∧ _); omega))
  have hA20 := hA8.fr hf16 (by first | exact zT1 (by omega) | (show ¬ (_ ∨ _); omega) | (show ¬ (_ ∧ _); omega))
  have hY21 := hY9.fr hf16 (by first | exact zT1 (by omega) | (show ¬ (_ ∨ _); omega) | (show ¬ (_ ∧ _); omega))
  have hD22 := hD10.fr hf16 (by first | exact zT1 (by omega) | (show ¬ (_ ∨ _); omega) | (show ¬ (_ ∧ _); omega)) (by first | exact zT1 (by omega) | (show ¬ (_ ∨ _); omega) | (show ¬ (_ ∧ _); omega)) (by first | exact zT1 (by omega) | (show ¬ (_ ∨ _); omega) | (show ¬ (_ ∧ _); omega)) (by first | exact zT1 (by omega) | (show ¬ (_ ∨ _); omega) | (show ¬ (_ ∧ _); omega))
  have hK23 := hK11.fr hf16 (by first | exact zT1 (by omega) | (show ¬ (_ ∨ _); omega) | (show ¬ (_ ∧ _); omega))
  have hI24 := hI12.fr hf16 (by first | exact zT1 (by omega) | (show ¬ (_ ∨ _); omega) | (show ¬ (_ ∧ _); omega))
  rw [show (if (tAll n tx).1.1 = true then -1 else (tAll n tx).1.2) = tPos n tx from rfl]
  exact z_ireti O dX6_errorPosition_9 rfl (by omega) (by omega) hpo (by rw [if_pos (show cNo = 0 from by rfl)]) (⟨(((hf4.up (fun s h => by first | exact h.elim | omega | (simp at h ⊢; omega)))).tr (hf16.up (fun s h => by first | exact h.elim | omega | (simp at h ⊢; omega)))), Or.inr ⟨(show cNo = 0 from by rfl), ⟨_, _, _, _, _, hz17, hT19, hz18, hA20, hY21, hD22, hK23, hI24⟩⟩⟩)

theorem c_X6_load {E : zE} (hst : E.1.stackTraces = false) {H : Heap} {r : zH} {q : Nat} {Q : Nat → Nat} {n : Int} {tx G : Int → Int} {fi ac : Int} {dd : Nat → Int → Int} {kp ik : Int → Int} {rf N : Int} (hM : zMs E H r q Q n tx G fi ac dd kp ik rf) (hOK : mOK n tx G fi ac ik N) : zC E yX6_load cX6_load 1 (some .int) 9 197 [.ref q] H 0 0 (zRi (if (cLd n tx) = 0 then (tAll n tx).2.1 else 0) (fun H1 => zFr H r H1 r (fun s => 100000 ≤ s) ∧ (((cLd n tx) ≠ 0 ∧ zMs E H1 r q Q n tx G fi ac dd kp ik (cLd n tx)) ∨ ((cLd n tx) = 0 ∧ zMs E H1 r q Q n tx ((tAll n tx).2.2) fi 0 dd kp (fun _ => 0) 0)))) zN := by
  refine zC.of (by decide) (Nat.le_of_ble_eq_true rfl) hst ?_
  intro x O hE hpo hpx
  subst hE
  change zG x H 0 0 0 [(0, .ref q)] []
  obtain ⟨sp, gd, lo, rd, tr, hO, hT, hR, hA, hY, hD, hK, hI⟩ := hM
  obtain ⟨hn, hx, hG, hN, hfi, hac, hik⟩ := hOK
  refine z_aload_n 0 O dX6_load_0 rfl ?_
  refine z_aload_n 0 O dX6_load_1 rfl ?_
  refine z_Vim [] [.ref q] kM_X6_206 O dX6_load_2 (c_X6_readText hst hO hT hR hx hn) rfl rfl hO.1 (by decide) (Nat.le_of_ble_eq_true rfl) (by omega) (by omega) (Nat.le_of_ble_eq_true rfl) zNx (fun H1 hp2 hz3 => ?_)
  obtain ⟨hf4, hz5, hz6⟩ := hp2
  have hT7 := hT.fr hf4 (by first | exact zT1 (by omega) | (show ¬ (_ ∨ _); omega) | (show ¬ (_ ∧ _); omega))
  have hA8 := hA.fr hf4 (by first | exact zT1 (by omega) | (show ¬ (_ ∨ _); omega) | (show ¬ (_ ∧ _); omega))
  have hY9 := hY.fr hf4 (by first | exact zT1 (by omega) | (show ¬ (_ ∨ _); omega) | (show ¬ (_ ∧ _); omega))
  have hD10 := hD.fr hf4 (by first | exact zT1 (by omega) | (show ¬ (_ ∨ _); omega) | (show ¬ (_ ∧ _); omega)) (by first | exact zT1 (by omega) | (show ¬ (_ ∨ _); omega) | (show ¬ (_ ∧ _); omega)) (by first | exact zT1 (by omega) | (show ¬ (_ ∨ _); omega) | (show ¬ (_ ∧ _); omega)) (by first | exact zT1 (by omega) | (show ¬ (_ ∨ _); omega) | (show ¬ (_ ∧ _); omega))
  have hK11 := hK.fr hf4 (by first | exact zT1 (by omega) | (show ¬ (_ ∨ _); omega) | (show ¬ (_ ∧ _); omega))
  have hI12 := hI.fr hf4 (by first | exact zT1 (by omega) | (show ¬ (_ ∨ _); omega) | (show ¬ (_ ∧ _); omega))
  rw [show (if (tAll n tx).1.1 = true then -1 else (tAll n tx).1.2) = tPos n tx from rfl]
  have htp := tPos_R (n := n) (tx := tx) hn.1
  refine z_iconst (-1) O dX6_load_5 (by decide +kernel) ?_
  refine z_icmp_ne 13 O dX6_load_6 (by decide) ⟨by omega, by omega⟩ ⟨by omega, by omega⟩ (fun c_6 => ?_) (fun c_6 => ?_)
  · skip
    refine z_iconst 1 O dX6_load_13 (by decide +kernel) ?_
    refine z_Vim [.int (iI 1)] [] kM_X6_118 O dX6_load_14 (c_X6_refused hst hz5 ⟨by omega, by omega⟩) rfl rfl hz5.1 (by decide) (Nat.le_of_ble_eq_true rfl) (by omega) (by omega) (Nat.le_of_ble_eq_true rfl) zNx (fun H13 hp14 hz15 => ?_)
    obtain ⟨hf16, hz17⟩ := hp14
    have hT18 := hT7.fr hf16 (by first | exact zT1 (by omega) | (show ¬ (_ ∨ _); omega) | (show ¬ (_ ∧ _); omega))
    have hz19 := hz6.fr hf16 (by first | exact zT1 (by omega) | (show ¬ (_ ∨ _); omega) | (show ¬ (_ ∧ _); omega))
    have hA20 := hA8.fr hf16 (by first | exact zT1 (by omega) | (show ¬ (_ ∨ _); omega) | (show ¬ (_ ∧ _); omega))
    have hY21 := hY9.fr hf16 (by first | exact zT1 (by omega) | (show ¬ (_ ∨ _); omega) | (show ¬ (_ ∧ _); omega))
    have hD22 := hD10.fr hf16 (by first | exact zT1 (by omega) | (show ¬ (_ ∨ _); omega) | (show ¬ (_ ∧ _); omega)) (by first | exact zT1 (by omega) | (show ¬ (_ ∨ _); omega) | (show ¬ (_ ∧ _); omega)) (by first | exact zT1 (by omega) | (show ¬ (_ ∨ _); omega) | (show ¬ (_ ∧ _); omega)) (by first | exact zT1 (by omega) | (show ¬ (_ ∨ _); omega) | (show ¬ (_ ∧ _); omega))
    have hK23 := hK11.fr hf16 (by first | exact zT1 (by omega) | (show ¬ (_ ∨ _); omega) | (show ¬ (_ ∧ _); omega))
    have hI24 := hI12.fr hf16 (by first | exact zT1 (by omega) | (show ¬ (_ ∨ _); omega) | (show ¬ (_ ∧ _); omega))
    rw [show zb (decide ((0 : Int) < 1)) = 1 from rfl]
    refine z_if_eq 22 O dX6_load_17 (by decide) ⟨by omega, by omega⟩ (fun c_17 => ?_) (fun c_17 => ?_)
    · exfalso; omega
    · skip
      refine z_iconst 0 O dX6_load_20 (by decide +kernel) ?_
      exact z_ireti O dX6_load_21 rfl (by omega) (by omega) hpo (by rw [if_neg (by rw [show (cLd n tx) = 1 from by unfold cLd; (repeat first | rw [if_pos (by omega)] | rw [if_neg (by omega)])]; decide)]) (⟨(((hf4.up (fun s h => by first | exact h.elim | omega | (simp at h ⊢; omega)))).tr (hf16.up (fun s h => by first | exact h.elim | omega | (simp at h ⊢; omega)))), Or.inl ⟨(by rw [show (cLd n tx) = 1 from by unfold cLd; (repeat first | rw [if_pos (by omega)] | rw [if_neg (by omega)])]; decide), (by rw [show (cLd n tx) = 1 from by unfold cLd; (repeat first | rw [if_pos (by omega)] | rw [if_neg (by omega)])]; exact ⟨_, _, _, _, _, hz17, hT18, hz19, hA20, hY21, hD22, hK23, hI24⟩)⟩⟩)
  · skip
    refine z_iconst 0 O dX6_load_9 (by decide +kernel) ?_
    refine z_goto 14 O dX6_load_10 (by decide) ?_
    refine z_Vim [.int (iI 0)] [] kM_X6_118 O dX6_load_14 (c_X6_refused hst hz5 ⟨by omega, by omega⟩) rfl rfl hz5.1 (by decide) (Nat.le_of_ble_eq_true rfl) (by omega) (by omega) (Nat.le_of_ble_eq_true rfl) zNx (fun H25 hp26 hz27 => ?_)
    obtain ⟨hf28, hz29⟩ := hp26
    have hT30 := hT7.fr hf28 (by first | exact zT1 (by omega) | (show ¬ (_ ∨ _); omega) | (show ¬ (_ ∧ _); omega))
    have hz31 := hz6.fr hf28 (by first | exact zT1 (by omega) | (show ¬ (_ ∨ _); omega) | (show ¬ (_ ∧ _); omega))
    have hA32 := hA8.fr hf28 (by first | exact zT1 (by omega) | (show ¬ (_ ∨ _); omega) | (show ¬ (_ ∧ _); omega))
    have hY33 := hY9.fr hf28 (by first | exact zT1 (by omega) | (show ¬ (_ ∨ _); omega) | (show ¬ (_ ∧ _); omega))
    have hD34 := hD10.fr hf28 (by first | exact zT1 (by omega) | (show ¬ (_ ∨ _); omega) | (show ¬ (_ ∧ _); omega)) (by first | exact zT1 (by omega) | (show ¬ (_ ∨ _); omega) | (show ¬ (_ ∧ _); omega)) (by first | exact zT1 (by omega) | (show ¬ (_ ∨ _); omega) | (show ¬ (_ ∧ _); omega)) (by first | exact zT1 (by omega) | (show ¬ (_ ∨ _); omega) | (show ¬ (_ ∧ _); omega))
    have hK35 := hK11.fr hf28 (by first | exact zT1 (by omega) | (show ¬ (_ ∨ _); omega) | (show ¬ (_ ∧ _); omega))
    have hI36 := hI12.fr hf28 (by first | exact zT1 (by omega) | (show ¬ (_ ∨ _); omega) | (show ¬ (_ ∧ _); omega))
    rw [show zb (decide ((0 : Int) < 0)) = 0 from rfl]
    refine z_if_eq 22 O dX6_load_17 (by decide) ⟨by omega, by omega⟩ (fun c_17 => ?_) (fun c_17 => ?_)
    · skip
      refine z_aload_n 0 O dX6_load_22 rfl ?_
      refine z_getf kF_X6_13 O dX6_load_23 hz29.1 rfl ?_
      refine z_iconst 0 O dX6_load_26 (by decide +kernel) ?_
      refine z_aload_n 0 O dX6_load_27 rfl ?_
      refine z_getf kF_X6_16 O dX6_load_28 hz29.1 rfl ?_
      refine z_iconst 0 O dX6_load_31 (by decide +kernel) ?_
      refine z_sipush 4086 O dX6_load_32 (by decide +kernel) ?_
      refine z_Svm [.ref (Q 2), .int (iI 0), .ref (Q 3), .int (iI 0), .int (iI 4086)] [] kM_X6_54 O dX6_load_35 (c_X6_copy hst hz31 hA32 (by decide) (by omega) (by omega) (by omega) (by omega) (by omega) (by omega)) rfl rfl (by decide) (Nat.le_of_ble_eq_true rfl) (by omega) (by omega) (Nat.le_of_ble_eq_true rfl) zNx (fun H37 hp38 hz39 => ?_)
      obtain ⟨hf40, ha41⟩ := hp38
      have hz42 := hz29.fr hf40 (by first | exact zT1 (by omega) | (show ¬ (_ ∨ _); omega) | (show ¬ (_ ∧ _); omega))
      have hT43 := hT30.fr hf40 (by first | exact zT1 (by omega) | (show ¬ (_ ∨ _); omega) | (show ¬ (_ ∧ _); omega))
      have hz44 := hz31.fr hf40 (by first | exact zT1 (by omega) | (show ¬ (_ ∨ _); omega) | (show ¬ (_ ∧ _); omega))
      have hY45 := hY33.fr hf40 (by first | exact zT1 (by omega) | (show ¬ (_ ∨ _); omega) | (show ¬ (_ ∧ _); omega))
      have hD46 := hD34.fr hf40 (by first | exact zT1 (by omega) | (show ¬ (_ ∨ _); omega) | (show ¬ (_ ∧ _); omega)) (by first | exact zT1 (by omega) | (show ¬ (_ ∨ _); omega) | (show ¬ (_ ∧ _); omega)) (by first | exact zT1 (by omega) | (show ¬ (_ ∨ _); omega) | (show ¬ (_ ∧ _); omega)) (by first | exact zT1 (by omega) | (show ¬ (_ ∨ _); omega) | (show ¬ (_ ∧ _); omega))
      have hK47 := hK35.fr hf40 (by first | exact zT1 (by omega) | (show ¬ (_ ∨ _); omega) | (show ¬ (_ ∧ _); omega))
      have hI48 := hI36.fr hf40 (by first | exact zT1 (by omega) | (show ¬ (_ ∨ _); omega) | (show ¬ (_ ∧ _); omega))
      refine z_aload_n 0 O dX6_load_38 rfl ?_
      refine z_iconst 0 O dX6_load_39 (by decide +kernel) ?_
      refine z_putf kP_X6_58 O (fun h => nomatch h) dX6_load_40 hz42.1 rfl rfl (Nat.le_of_ble_eq_true rfl) (fun H49 hO50 hC51 => ?_)
      have hf52 := hz42.ch hC51
      have ho53 : zO (zEn x) H49 r 100000 q 6 [.int (iI 0), .ref (Q 1), .int (iI n), .int (iI ((tAll n tx).1.2)), .int (iI (zb (tAll n tx).1.1)), .int (iI ((tAll n tx).2.1)), .ref (Q 2), .ref (Q 3), .ref (Q 4), .ref (Q 5), .ref (Q 6), .ref (Q 7), .ref (Q 8), .int (iI fi), .int (iI 0), .ref (Q 9), .ref (Q 10)] := ⟨hO50, hz42.2⟩
      have hT54 := hT43.fr hf52 (zT1 (by omega))
      have hz55 := hz44.fr hf52 (zT1 (by omega))
      have ha56 := ha41.fr hf52 (zT1 (by omega))
      have hY57 := hY45.fr hf52 (zT1 (by omega))
      have hD58 := hD46.fr hf52 (zT1 (by omega)) (zT1 (by omega)) (zT1 (by omega)) (zT1 (by omega))
      have hK59 := hK47.fr hf52 (zT1 (by omega))
      have hI60 := hI48.fr hf52 (zT1 (by omega))
      refine z_aload_n 0 O dX6_load_43 rfl ?_
      refine z_getf kF_X6_37 O dX6_load_44 ho53.1 rfl ?_
      refine z_iconst 0 O dX6_load_47 (by decide +kernel) ?_
      refine z_iconst 0 O dX6_load_48 (by decide +kernel) ?_
      refine z_zast O (by omega) dX6_load_49 hI60.1 ⟨by omega, by omega⟩ (by omega) (by omega) (fun H61 hA62 hC63 => ?_)
      have hf64 := hI60.ch hC63
      have ha65 : zZ (zEn x) H61 r 100010 (Q 10) 2 (zU ik 0 0) := ⟨hA62, hI60.2⟩
      have ho66 := ho53.fr hf64 (zT1 (by omega))
      have hT67 := hT54.fr hf64 (zT1 (by omega))
      have hz68 := hz55.fr hf64 (zT1 (by omega))
      have ha69 := ha56.fr hf64 (zT1 (by omega))
      have hY70 := hY57.fr hf64 (zT1 (by omega))
      have hD71 := hD58.fr hf64 (zT1 (by omega)) (zT1 (by omega)) (zT1 (by omega)) (zT1 (by omega))
      have hK72 := hK59.fr hf64 (zT1 (by omega))
      refine z_aload_n 0 O dX6_load_50 rfl ?_
      refine z_getf kF_X6_37 O dX6_load_51 ho66.1 rfl ?_
      refine z_iconst 1 O dX6_load_54 (by decide +kernel) ?_
      refine z_iconst 0 O dX6_load_55 (by decide +kernel) ?_
      refine z_zast O (by omega) dX6_load_56 ha65.1 ⟨by omega, by omega⟩ (by omega) (by omega) (fun H73 hA74 hC75 => ?_)
      have hf76 := ha65.ch hC75
      have ha77 : zZ (zEn x) H73 r 100010 (Q 10) 2 (zU (zU ik 0 0) 1 0) := ⟨hA74, ha65.2⟩
      have ho78 := ho66.fr hf76 (zT1 (by omega))
      have hT79 := hT67.fr hf76 (zT1 (by omega))
      have hz80 := hz68.fr hf76 (zT1 (by omega))
      have ha81 := ha69.fr hf76 (zT1 (by omega))
      have hY82 := hY70.fr hf76 (zT1 (by omega))
      have hD83 := hD71.fr hf76 (zT1 (by omega)) (zT1 (by omega)) (zT1 (by omega)) (zT1 (by omega))
      have hK84 := hK72.fr hf76 (zT1 (by omega))
      refine z_aload_n 0 O dX6_load_57 rfl ?_
      refine z_getf kF_X6_138 O dX6_load_58 ho78.1 rfl ?_
      exact z_ireti O dX6_load_61 rfl (by omega) (by omega) hpo (by rw [if_pos (show (cLd n tx) = 0 from by unfold cLd; (repeat first | rw [if_pos (by omega)] | rw [if_neg (by omega)]))]) (⟨(((((((((((hf4.up (fun s h => by first | exact h.elim | omega | (simp at h ⊢; omega)))).tr (hf28.up (fun s h => by first | exact h.elim | omega | (simp at h ⊢; omega))))).tr (hf40.up (fun s h => by first | exact h.elim | omega | (simp at h ⊢; omega))))).tr (hf52.up (fun s h => by first | exact h.elim | omega | (simp at h ⊢; omega))))).tr (hf64.up (fun s h => by first | exact h.elim | omega | (simp at h ⊢; omega))))).tr (hf76.up (fun s h => by first | exact h.elim | omega | (simp at h ⊢; omega)))), Or.inr ⟨(show (cLd n tx) = 0 from by unfold cLd; (repeat first | rw [if_pos (by omega)] | rw [if_neg (by omega)])), ⟨_, _, _, _, _, ho78, hT79, hz80, ⟨ha81.1.to (fun j h1 h2 => zCpy_all h1 h2), ha81.2⟩, hY82, hD83, hK84, ⟨ha77.1.to (fun j h1 h2 => by unfold zU; split <;> first | rfl | (split <;> first | rfl | (exfalso; omega))), ha77.2⟩⟩⟩⟩)
    · exfalso; omega

theorem c_X6_about {E : zE} (hst : E.1.stackTraces = false) {H : Heap} {r : zH} {q : Nat} {Q : Nat → Nat} {n : Int} {tx G : Int → Int} {fi ac : Int} {dd : Nat → Int → Int} {kp ik : Int → Int} {rf N : Int} {k : Int} (hM : zMs E H r q Q n tx G fi ac dd kp ik rf) (hOK : mOK n tx G fi ac ik N) (hk : zR k) : zC E yX6_about cX6_about 2 (some .int) 5 108 [.ref q, .int (iI k)] H 0 0 (zRi (if cAb k = 0 then (vAb G k) else 0) (fun H1 => zFr H r H1 r (fun s => 100000 ≤ s) ∧ ((cAb k ≠ 0 ∧ zMs E H1 r q Q n tx G fi ac dd kp ik (cAb k)) ∨ (cAb k = 0 ∧ zMs E H1 r q Q n tx G fi ac dd kp ik 0)))) zN := by
  refine zC.of (by decide) (Nat.le_of_ble_eq_true rfl) hst ?_
  intro x O hE hpo hpx
  subst hE
  change zG x H 0 0 0 [(0, .ref q), (1, .int (iI k))] []
  obtain ⟨sp, gd, lo, rd, tr, hO, hT, hR, hA, hY, hD, hK, hI⟩ := hM
  obtain ⟨hn, hx, hG, hN, hfi, hac, hik⟩ := hOK
  refine z_aload_n 0 O dX6_about_0 rfl ?_
  refine z_iload_n 1 O dX6_about_1 rfl ?_
  refine z_i2l O dX6_about_2 ⟨by omega, by omega⟩ ?_
  refine z_lconst 0 O dX6_about_3 (by decide +kernel) ?_
  refine z_ldc2 (iL 9) O dX6_about_4 (List.mem_of_getElem? (i := 1017) (by decide +kernel)) ?_
  refine z_Si [.long (iL k), .long (iL 0), .long (iL 9)] [.ref q] kM_X6_92 O dX6_about_7 (c_X6_in hst ⟨by omega, by omega⟩ ⟨by omega, by omega⟩ ⟨by omega, by omega⟩) rfl rfl (by decide) (Nat.le_of_ble_eq_true rfl) (by omega) (by omega) (Nat.le_of_ble_eq_true rfl) zNx ?_
  refine z_ifb_eq 17 O dX6_about_10 (by decide) (fun c_10 => ?_) (fun c_10 => ?_)
  · skip
    have k_10 := sBt_f.mp c_10
    refine z_iconst 1 O dX6_about_17 (by decide +kernel) ?_
    refine z_Vim [.int (iI 1)] [] kM_X6_118 O dX6_about_18 (c_X6_refused hst hO ⟨by omega, by omega⟩) rfl rfl hO.1 (by decide) (Nat.le_of_ble_eq_true rfl) (by omega) (by omega) (Nat.le_of_ble_eq_true rfl) zNx (fun H1 hp2 hz3 => ?_)
    obtain ⟨hf4, hz5⟩ := hp2
    have hT6 := hT.fr hf4 (by first | exact zT1 (by omega) | (show ¬ (_ ∨ _); omega) | (show ¬ (_ ∧ _); omega))
    have hR7 := hR.fr hf4 (by first | exact zT1 (by omega) | (show ¬ (_ ∨ _); omega) | (show ¬ (_ ∧ _); omega))
    have hA8 := hA.fr hf4 (by first | exact zT1 (by omega) | (show ¬ (_ ∨ _); omega) | (show ¬ (_ ∧ _); omega))
    have hY9 := hY.fr hf4 (by first | exact zT1 (by omega) | (show ¬ (_ ∨ _); omega) | (show ¬ (_ ∧ _); omega))
    have hD10 := hD.fr hf4 (by first | exact zT1 (by omega) | (show ¬ (_ ∨ _); omega) | (show ¬ (_ ∧ _); omega)) (by first | exact zT1 (by omega) | (show ¬ (_ ∨ _); omega) | (show ¬ (_ ∧ _); omega)) (by first | exact zT1 (by omega) | (show ¬ (_ ∨ _); omega) | (show ¬ (_ ∧ _); omega)) (by first | exact zT1 (by omega) | (show ¬ (_ ∨ _); omega) | (show ¬ (_ ∧ _); omega))
    have hK11 := hK.fr hf4 (by first | exact zT1 (by omega) | (show ¬ (_ ∨ _); omega) | (show ¬ (_ ∧ _); omega))
    have hI12 := hI.fr hf4 (by first | exact zT1 (by omega) | (show ¬ (_ ∨ _); omega) | (show ¬ (_ ∧ _); omega))
    rw [show zb (decide ((0 : Int) < 1)) = 1 from rfl]
    refine z_if_eq 26 O dX6_about_21 (by decide) ⟨by omega, by omega⟩ (fun c_21 => ?_) (fun c_21 => ?_)
    · exfalso; omega
    · skip
      refine z_iconst 0 O dX6_about_24 (by decide +kernel) ?_
      exact z_ireti O dX6_about_25 rfl (by omega) (by omega) hpo (by rw [if_neg (by rw [show cAb k = 1 from by unfold cAb; (repeat first | rw [if_pos (by omega)] | rw [if_neg (by omega)] | rw [if_neg (by rw [c_10]; decide)])]; decide)]) (⟨(hf4.up (fun s h => by first | exact h.elim | omega | (simp at h ⊢; omega))), Or.inl ⟨(by rw [show cAb k = 1 from by unfold cAb; (repeat first | rw [if_pos (by omega)] | rw [if_neg (by omega)] | rw [if_neg (by rw [c_10]; decide)])]; decide), (by rw [show cAb k = 1 from by unfold cAb; (repeat first | rw [if_pos (by omega)] | rw [if_neg (by omega)] | rw [if_neg (by rw [c_10]; decide)])]; exact ⟨_, _, _, _, _, hz5, hT6, hR7, hA8, hY9, hD10, hK11, hI12⟩)⟩⟩)
  · skip
    have k_10 := sBt_t.mp c_10
    refine z_iconst 0 O dX6_about_13 (by decide +kernel) ?_
    refine z_goto 18 O dX6_about_14 (by decide) ?_
    refine z_Vim [.int (iI 0)] [] kM_X6_118 O dX6_about_18 (c_X6_refused hst hO ⟨by omega, by omega⟩) rfl rfl hO.1 (by decide) (Nat.le_of_ble_eq_true rfl) (by omega) (by omega) (Nat.le_of_ble_eq_true rfl) zNx (fun H13 hp14 hz15 => ?_)
    obtain ⟨hf16, hz17⟩ := hp14
    have hT18 := hT.fr hf16 (by first | exact zT1 (by omega) | (show ¬ (_ ∨ _); omega) | (show ¬ (_ ∧ _); omega))
    have hR19 := hR.fr hf16 (by first | exact zT1 (by omega) | (show ¬ (_ ∨ _); omega) | (show ¬ (_ ∧ _); omega))
    have hA20 := hA.fr hf16 (by first | exact zT1 (by omega) | (show ¬ (_ ∨ _); omega) | (show ¬ (_ ∧ _); omega))
    have hY21 := hY.fr hf16 (by first | exact zT1 (by omega) | (show ¬ (_ ∨ _); omega) | (show ¬ (_ ∧ _); omega))
    have hD22 := hD.fr hf16 (by first | exact zT1 (by omega) | (show ¬ (_ ∨ _); omega) | (show ¬ (_ ∧ _); omega)) (by first | exact zT1 (by omega) | (show ¬ (_ ∨ _); omega) | (show ¬ (_ ∧ _); omega)) (by first | exact zT1 (by omega) | (show ¬ (_ ∨ _); omega) | (show ¬ (_ ∧ _); omega)) (by first | exact zT1 (by omega) | (show ¬ (_ ∨ _); omega) | (show ¬ (_ ∧ _); omega))
    have hK23 := hK.fr hf16 (by first | exact zT1 (by omega) | (show ¬ (_ ∨ _); omega) | (show ¬ (_ ∧ _); omega))
    have hI24 := hI.fr hf16 (by first | exact zT1 (by omega) | (show ¬ (_ ∨ _); omega) | (show ¬ (_ ∧ _); omega))
    rw [show zb (decide ((0 : Int) < 0)) = 0 from rfl]
    refine z_if_eq 26 O dX6_about_21 (by decide) ⟨by omega, by omega⟩ (fun c_21 => ?_) (fun c_21 => ?_)
    · skip
      refine z_iload_n 1 O dX6_about_26 rfl ?_
      rcases (show k = 0 ∨ k = 1 ∨ k = 2 ∨ k = 3 ∨ k = 4 ∨ k = 5 ∨ k = 6 ∨ k = 7 ∨ k = 8 ∨ (k < 0 ∨ 8 < k) by omega) with c_27 | c_27 | c_27 | c_27 | c_27 | c_27 | c_27 | c_27 | c_27 | c_27
      · skip
        refine z_tsw 0 76 O dX6_about_27 ⟨by omega, by omega⟩ (by omega) (by decide) rfl (by decide) ?_
        refine z_aload_n 0 O dX6_about_76 rfl ?_
        refine z_getf kF_X6_16 O dX6_about_77 hz17.1 rfl ?_
        refine z_Si [.ref (Q 3)] [] kM_X6_209 O dX6_about_80 (c_X6_sum hst hA20) rfl rfl (by decide) (Nat.le_of_ble_eq_true rfl) (by omega) (by omega) (Nat.le_of_ble_eq_true rfl) zNx ?_
        exact z_ireti O dX6_about_83 rfl (by omega) (by omega) hpo (by rw [if_pos (show cAb k = 0 from by unfold cAb; (repeat first | rw [if_pos (by omega)] | rw [if_neg (by omega)] | rw [if_pos c_10]))]; unfold vAb; (repeat first | rw [if_pos (by omega)] | rw [if_neg (by omega)] | rw [if_pos c_10]); (try exact zb_t c_10)) (⟨(hf16.up (fun s h => by first | exact h.elim | omega | (simp at h ⊢; omega))), Or.inr ⟨(show cAb k = 0 from by unfold cAb; (repeat first | rw [if_pos (by omega)] | rw [if_neg (by omega)] | rw [if_pos c_10])), ⟨_, _, _, _, _, hz17, hT18, hR19, hA20, hY21, hD22, hK23, hI24⟩⟩⟩)
      · skip
        refine z_tsw 1 84 O dX6_about_27 ⟨by omega, by omega⟩ (by omega) (by decide) rfl (by decide) ?_
        refine z_aload_n 0 O dX6_about_84 rfl ?_
        refine z_getf kF_X6_16 O dX6_about_85 hz17.1 rfl ?_
        refine z_iconst (-1) O dX6_about_88 (by decide +kernel) ?_
        refine z_Si [.ref (Q 3), .int (iI (-1))] [] kM_X6_213 O dX6_about_89 (c_X6_locked hst hA20 (fun c h0 h1 => hG.2.2.1 c h0 h1) ⟨by omega, by omega⟩) rfl rfl (by decide) (Nat.le_of_ble_eq_true rfl) (by omega) (by omega) (Nat.le_of_ble_eq_true rfl) zNx ?_
        exact z_ireti O dX6_about_92 rfl (by omega) (by omega) hpo (by rw [if_pos (show cAb k = 0 from by unfold cAb; (repeat first | rw [if_pos (by omega)] | rw [if_neg (by omega)] | rw [if_pos c_10]))]; unfold vAb; (repeat first | rw [if_pos (by omega)] | rw [if_neg (by omega)] | rw [if_pos c_10]); (try exact zb_t c_10)) (⟨(hf16.up (fun s h => by first | exact h.elim | omega | (simp at h ⊢; omega))), Or.inr ⟨(show cAb k = 0 from by unfold cAb; (repeat first | rw [if_pos (by omega)] | rw [if_neg (by omega)] | rw [if_pos c_10])), ⟨_, _, _, _, _, hz17, hT18, hR19, hA20, hY21, hD22, hK23, hI24⟩⟩⟩)
      · skip
        refine z_tsw 2 93 O dX6_about_27 ⟨by omega, by omega⟩ (by omega) (by decide) rfl (by decide) ?_
        refine z_aload_n 0 O dX6_about_93 rfl ?_
        refine z_getf kF_X6_16 O dX6_about_94 hz17.1 rfl ?_
        refine z_iconst 0 O dX6_about_97 (by decide +kernel) ?_
        refine z_Si [.ref (Q 3), .int (iI 0)] [] kM_X6_216 O dX6_about_98 (c_X6_together hst hA20 ⟨by omega, by omega⟩) rfl rfl (by decide) (Nat.le_of_ble_eq_true rfl) (by omega) (by omega) (Nat.le_of_ble_eq_true rfl) zNx ?_
        exact z_ireti O dX6_about_101 rfl (by omega) (by omega) hpo (by rw [if_pos (show cAb k = 0 from by unfold cAb; (repeat first | rw [if_pos (by omega)] | rw [if_neg (by omega)] | rw [if_pos c_10]))]; unfold vAb; (repeat first | rw [if_pos (by omega)] | rw [if_neg (by omega)] | rw [if_pos c_10]); (try exact zb_t c_10)) (⟨(hf16.up (fun s h => by first | exact h.elim | omega | (simp at h ⊢; omega))), Or.inr ⟨(show cAb k = 0 from by unfold cAb; (repeat first | rw [if_pos (by omega)] | rw [if_neg (by omega)] | rw [if_pos c_10])), ⟨_, _, _, _, _, hz17, hT18, hR19, hA20, hY21, hD22, hK23, hI24⟩⟩⟩)
      · skip
        refine z_tsw 3 102 O dX6_about_27 ⟨by omega, by omega⟩ (by omega) (by decide) rfl (by decide) ?_
        refine z_aload_n 0 O dX6_about_102 rfl ?_
        refine z_getf kF_X6_16 O dX6_about_103 hz17.1 rfl ?_
        refine z_iconst 3 O dX6_about_106 (by decide +kernel) ?_
        refine z_Si [.ref (Q 3), .int (iI 3)] [] kM_X6_216 O dX6_about_107 (c_X6_together hst hA20 ⟨by omega, by omega⟩) rfl rfl (by decide) (Nat.le_of_ble_eq_true rfl) (by omega) (by omega) (Nat.le_of_ble_eq_true rfl) zNx ?_
        exact z_ireti O dX6_about_110 rfl (by omega) (by omega) hpo (by rw [if_pos (show cAb k = 0 from by unfold cAb; (repeat first | rw [if_pos (by omega)] | rw [if_neg (by omega)] | rw [if_pos c_10]))]; unfold vAb; (repeat first | rw [if_pos (by omega)] | rw [if_neg (by omega)] | rw [if_pos c_10]); (try exact zb_t c_10)) (⟨(hf16.up (fun s h => by first | exact h.elim | omega | (simp at h ⊢; omega))), Or.inr ⟨(show cAb k = 0 from by unfold cAb; (repeat first | rw [if_pos (by omega)] | rw [if_neg (by omega)] | rw [if_pos c_10])), ⟨_, _, _, _, _, hz17, hT18, hR19, hA20, hY21, hD22, hK23, hI24⟩⟩⟩)
      · skip
        refine z_tsw 4 111 O dX6_about_27 ⟨by omega, by omega⟩ (by omega) (by decide) rfl (by decide) ?_
        refine z_aload_n 0 O dX6_about_111 rfl ?_
        refine z_getf kF_X6_16 O dX6_about_112 hz17.1 rfl ?_
        refine z_iconst 4 O dX6_about_115 (by decide +kernel) ?_
        refine z_Si [.ref (Q 3), .int (iI 4)] [] kM_X6_216 O dX6_about_116 (c_X6_together hst hA20 ⟨by omega, by omega⟩) rfl rfl (by decide) (Nat.le_of_ble_eq_true rfl) (by omega) (by omega) (Nat.le_of_ble_eq_true rfl) zNx ?_
        exact z_ireti O dX6_about_119 rfl (by omega) (by omega) hpo (by rw [if_pos (show cAb k = 0 from by unfold cAb; (repeat first | rw [if_pos (by omega)] | rw [if_neg (by omega)] | rw [if_pos c_10]))]; unfold vAb; (repeat first | rw [if_pos (by omega)] | rw [if_neg (by omega)] | rw [if_pos c_10]); (try exact zb_t c_10)) (⟨(hf16.up (fun s h => by first | exact h.elim | omega | (simp at h ⊢; omega))), Or.inr ⟨(show cAb k = 0 from by unfold cAb; (repeat first | rw [if_pos (by omega)] | rw [if_neg (by omega)] | rw [if_pos c_10])), ⟨_, _, _, _, _, hz17, hT18, hR19, hA20, hY21, hD22, hK23, hI24⟩⟩⟩)
      · skip
        refine z_tsw 5 120 O dX6_about_27 ⟨by omega, by omega⟩ (by omega) (by decide) rfl (by decide) ?_
        refine z_aload_n 0 O dX6_about_120 rfl ?_
        refine z_getf kF_X6_16 O dX6_about_121 hz17.1 rfl ?_
        refine z_bipush 33 O dX6_about_124 (by decide +kernel) ?_
        refine z_iald O dX6_about_126 hA20.1 ⟨by omega, by omega⟩ (by omega) (by omega) ?_
        exact z_ireti O dX6_about_127 rfl (by omega) (by omega) hpo (by rw [if_pos (show cAb k = 0 from by unfold cAb; (repeat first | rw [if_pos (by omega)] | rw [if_neg (by omega)] | rw [if_pos c_10]))]; unfold vAb; (repeat first | rw [if_pos (by omega)] | rw [if_neg (by omega)] | rw [if_pos c_10]); (try exact zb_t c_10)) (⟨(hf16.up (fun s h => by first | exact h.elim | omega | (simp at h ⊢; omega))), Or.inr ⟨(show cAb k = 0 from by unfold cAb; (repeat first | rw [if_pos (by omega)] | rw [if_neg (by omega)] | rw [if_pos c_10])), ⟨_, _, _, _, _, hz17, hT18, hR19, hA20, hY21, hD22, hK23, hI24⟩⟩⟩)
      · skip
        refine z_tsw 6 128 O dX6_about_27 ⟨by omega, by omega⟩ (by omega) (by decide) rfl (by decide) ?_
        refine z_aload_n 0 O dX6_about_128 rfl ?_
        refine z_getf kF_X6_16 O dX6_about_129 hz17.1 rfl ?_
        refine z_Si [.ref (Q 3)] [] kM_X6_219 O dX6_about_132 (c_X6_spoiled hst hA20 hG) rfl rfl (by decide) (Nat.le_of_ble_eq_true rfl) (by omega) (by omega) (Nat.le_of_ble_eq_true rfl) zNx ?_
        exact z_ireti O dX6_about_135 rfl (by omega) (by omega) hpo (by rw [if_pos (show cAb k = 0 from by unfold cAb; (repeat first | rw [if_pos (by omega)] | rw [if_neg (by omega)] | rw [if_pos c_10]))]; unfold vAb; (repeat first | rw [if_pos (by omega)] | rw [if_neg (by omega)] | rw [if_pos c_10]); (try exact zb_t c_10)) (⟨(hf16.up (fun s h => by first | exact h.elim | omega | (simp at h ⊢; omega))), Or.inr ⟨(show cAb k = 0 from by unfold cAb; (repeat first | rw [if_pos (by omega)] | rw [if_neg (by omega)] | rw [if_pos c_10])), ⟨_, _, _, _, _, hz17, hT18, hR19, hA20, hY21, hD22, hK23, hI24⟩⟩⟩)
      · skip
        refine z_tsw 7 136 O dX6_about_27 ⟨by omega, by omega⟩ (by omega) (by decide) rfl (by decide) ?_
        refine z_aload_n 0 O dX6_about_136 rfl ?_
        refine z_getf kF_X6_16 O dX6_about_137 hz17.1 rfl ?_
        refine z_bipush 32 O dX6_about_140 (by decide +kernel) ?_
        refine z_iald O dX6_about_142 hA20.1 ⟨by omega, by omega⟩ (by omega) (by omega) ?_
        exact z_ireti O dX6_about_143 rfl (by omega) (by omega) hpo (by rw [if_pos (show cAb k = 0 from by unfold cAb; (repeat first | rw [if_pos (by omega)] | rw [if_neg (by omega)] | rw [if_pos c_10]))]; unfold vAb; (repeat first | rw [if_pos (by omega)] | rw [if_neg (by omega)] | rw [if_pos c_10]); (try exact zb_t c_10)) (⟨(hf16.up (fun s h => by first | exact h.elim | omega | (simp at h ⊢; omega))), Or.inr ⟨(show cAb k = 0 from by unfold cAb; (repeat first | rw [if_pos (by omega)] | rw [if_neg (by omega)] | rw [if_pos c_10])), ⟨_, _, _, _, _, hz17, hT18, hR19, hA20, hY21, hD22, hK23, hI24⟩⟩⟩)
      · skip
        refine z_tsw 8 144 O dX6_about_27 ⟨by omega, by omega⟩ (by omega) (by decide) rfl (by decide) ?_
        refine z_aload_n 0 O dX6_about_144 rfl ?_
        refine z_getf kF_X6_16 O dX6_about_145 hz17.1 rfl ?_
        refine z_bipush 34 O dX6_about_148 (by decide +kernel) ?_
        refine z_iald O dX6_about_150 hA20.1 ⟨by omega, by omega⟩ (by omega) (by omega) ?_
        exact z_ireti O dX6_about_151 rfl (by omega) (by omega) hpo (by rw [if_pos (show cAb k = 0 from by unfold cAb; (repeat first | rw [if_pos (by omega)] | rw [if_neg (by omega)] | rw [if_pos c_10]))]; unfold vAb; (repeat first | rw [if_pos (by omega)] | rw [if_neg (by omega)] | rw [if_pos c_10]); (try exact zb_t c_10)) (⟨(hf16.up (fun s h => by first | exact h.elim | omega | (simp at h ⊢; omega))), Or.inr ⟨(show cAb k = 0 from by unfold cAb; (repeat first | rw [if_pos (by omega)] | rw [if_neg (by omega)] | rw [if_pos c_10])), ⟨_, _, _, _, _, hz17, hT18, hR19, hA20, hY21, hD22, hK23, hI24⟩⟩⟩)
      · skip
        refine z_tswO 152 O dX6_about_27 ⟨by omega, by omega⟩ c_27 (by decide) ?_
        refine z_aload_n 0 O dX6_about_152 rfl ?_
        refine z_getf kF_X6_16 O dX6_about_153 hz17.1 rfl ?_
        refine z_bipush 35 O dX6_about_156 (by decide +kernel) ?_
        refine z_iald O dX6_about_158 hA20.1 ⟨by omega, by omega⟩ (by omega) (by omega) ?_
        exact z_ireti O dX6_about_159 rfl (by omega) (by omega) hpo (by rw [if_pos (show cAb k = 0 from by unfold cAb; (repeat first | rw [if_pos (by omega)] | rw [if_neg (by omega)] | rw [if_pos c_10]))]; unfold vAb; (repeat first | rw [if_pos (by omega)] | rw [if_neg (by omega)] | rw [if_pos c_10]); (try exact zb_t c_10)) (⟨(hf16.up (fun s h => by first | exact h.elim | omega | (simp at h ⊢; omega))), Or.inr ⟨(show cAb k = 0 from by unfold cAb; (repeat first | rw [if_pos (by omega)] | rw [if_neg (by omega)] | rw [if_pos c_10])), ⟨_, _, _, _, _, hz17, hT18, hR19, hA20, hY21, hD22, hK23, hI24⟩⟩⟩)
    · exfalso; omega

theorem c_X6_worker {E : zE} (hst : E.1.stackTraces = false) {H : Heap} {r : zH} {q : Nat} {Q : Nat → Nat} {n : Int} {tx G : Int → Int} {fi ac : Int} {dd : Nat → Int → Int} {kp ik : Int → Int} {rf N : Int} {w j : Int} (hM : zMs E H r q Q n tx G fi ac dd kp ik rf) (hOK : mOK n tx G fi ac ik N) (hw : zR w) (hj : zR j) : zC E yX6_worker cX6_worker 3 (some .int) 4 86 [.ref q, .int (iI w), .int (iI j)] H 0 0 (zRi (if cWo w j = 0 then (vWo G w j) else 0) (fun H1 => zFr H r H1 r (fun s => 100000 ≤ s) ∧ ((cWo w j ≠ 0 ∧ zMs E H1 r q Q n tx G fi ac dd kp ik (cWo w j)) ∨ (cWo w j = 0 ∧ zMs E H1 r q Q n tx G fi ac dd kp ik 0)))) zN := by
  refine zC.of (by decide) (Nat.le_of_ble_eq_true rfl) hst ?_
  intro x O hE hpo hpx
  subst hE
  change zG x H 0 0 0 [(0, .ref q), (1, .int (iI w)), (2, .int (iI j))] []
  obtain ⟨sp, gd, lo, rd, tr, hO, hT, hR, hA, hY, hD, hK, hI⟩ := hM
  obtain ⟨hn, hx, hG, hN, hfi, hac, hik⟩ := hOK
  refine z_aload_n 0 O dX6_worker_0 rfl ?_
  refine z_iload_n 1 O dX6_worker_1 rfl ?_
  refine z_Si [.int (iI w)] [.ref q] kM_X6_232 O dX6_worker_2 (c_X6_isWorker hst ⟨by omega, by omega⟩) rfl rfl (by decide) (Nat.le_of_ble_eq_true rfl) (by omega) (by omega) (Nat.le_of_ble_eq_true rfl) zNx ?_
  refine z_ifb_ne 12 O dX6_worker_5 (by decide) (fun c_5 => ?_) (fun c_5 => ?_)
  · skip
    have k_5 := sBt_t.mp c_5
    refine z_iload_n 2 O dX6_worker_12 rfl ?_
    refine z_i2l O dX6_worker_13 ⟨by omega, by omega⟩ ?_
    refine z_lconst 0 O dX6_worker_14 (by decide +kernel) ?_
    refine z_ldc2 (iL 5) O dX6_worker_15 (List.mem_of_getElem? (i := 1158) (by decide +kernel)) ?_
    refine z_Si [.long (iL j), .long (iL 0), .long (iL 5)] [.ref q] kM_X6_92 O dX6_worker_18 (c_X6_in hst ⟨by omega, by omega⟩ ⟨by omega, by omega⟩ ⟨by omega, by omega⟩) rfl rfl (by decide) (Nat.le_of_ble_eq_true rfl) (by omega) (by omega) (Nat.le_of_ble_eq_true rfl) zNx ?_
    refine z_ifb_eq 28 O dX6_worker_21 (by decide) (fun c_21 => ?_) (fun c_21 => ?_)
    · skip
      have k_21 := sBt_f.mp c_21
      refine z_iconst 2 O dX6_worker_28 (by decide +kernel) ?_
      refine z_Vim [.int (iI 2)] [] kM_X6_118 O dX6_worker_29 (c_X6_refused hst hO ⟨by omega, by omega⟩) rfl rfl hO.1 (by decide) (Nat.le_of_ble_eq_true rfl) (by omega) (by omega) (Nat.le_of_ble_eq_true rfl) zNx (fun H1 hp2 hz3 => ?_)
      obtain ⟨hf4, hz5⟩ := hp2
      have hT6 := hT.fr hf4 (by first | exact zT1 (by omega) | (show ¬ (_ ∨ _); omega) | (show ¬ (_ ∧ _); omega))
      have hR7 := hR.fr hf4 (by first | exact zT1 (by omega) | (show ¬ (_ ∨ _); omega) | (show ¬ (_ ∧ _); omega))
      have hA8 := hA.fr hf4 (by first | exact zT1 (by omega) | (show ¬ (_ ∨ _); omega) | (show ¬ (_ ∧ _); omega))
      have hY9 := hY.fr hf4 (by first | exact zT1 (by omega) | (show ¬ (_ ∨ _); omega) | (show ¬ (_ ∧ _); omega))
      have hD10 := hD.fr hf4 (by first | exact zT1 (by omega) | (show ¬ (_ ∨ _); omega) | (show ¬ (_ ∧ _); omega)) (by first | exact zT1 (by omega) | (show ¬ (_ ∨ _); omega) | (show ¬ (_ ∧ _); omega)) (by first | exact zT1 (by omega) | (show ¬ (_ ∨ _); omega) | (show ¬ (_ ∧ _); omega)) (by first | exact zT1 (by omega) | (show ¬ (_ ∨ _); omega) | (show ¬ (_ ∧ _); omega))
      have hK11 := hK.fr hf4 (by first | exact zT1 (by omega) | (show ¬ (_ ∨ _); omega) | (show ¬ (_ ∧ _); omega))
      have hI12 := hI.fr hf4 (by first | exact zT1 (by omega) | (show ¬ (_ ∨ _); omega) | (show ¬ (_ ∧ _); omega))
      rw [show zb (decide ((0 : Int) < 2)) = 1 from rfl]
      refine z_if_eq 37 O dX6_worker_32 (by decide) ⟨by omega, by omega⟩ (fun c_32 => ?_) (fun c_32 => ?_)
      · exfalso; omega
      · skip
        refine z_iconst 0 O dX6_worker_35 (by decide +kernel) ?_
        exact z_ireti O dX6_worker_36 rfl (by omega) (by omega) hpo (by rw [if_neg (by rw [show cWo w j = 2 from by unfold cWo; (repeat first | rw [if_pos (by omega)] | rw [if_neg (by omega)] | rw [if_pos c_5] | rw [if_neg (by rw [c_21]; decide)])]; decide)]) (⟨(hf4.up (fun s h => by first | exact h.elim | omega | (simp at h ⊢; omega))), Or.inl ⟨(by rw [show cWo w j = 2 from by unfold cWo; (repeat first | rw [if_pos (by omega)] | rw [if_neg (by omega)] | rw [if_pos c_5] | rw [if_neg (by rw [c_21]; decide)])]; decide), (by rw [show cWo w j = 2 from by unfold cWo; (repeat first | rw [if_pos (by omega)] | rw [if_neg (by omega)] | rw [if_pos c_5] | rw [if_neg (by rw [c_21]; decide)])]; exact ⟨_, _, _, _, _, hz5, hT6, hR7, hA8, hY9, hD10, hK11, hI12⟩)⟩⟩)
    · skip
      have k_21 := sBt_t.mp c_21
      refine z_iconst 0 O dX6_worker_24 (by decide +kernel) ?_
      refine z_goto 29 O dX6_worker_25 (by decide) ?_
      refine z_Vim [.int (iI 0)] [] kM_X6_118 O dX6_worker_29 (c_X6_refused hst hO ⟨by omega, by omega⟩) rfl rfl hO.1 (by decide) (Nat.le_of_ble_eq_true rfl) (by omega) (by omega) (Nat.le_of_ble_eq_true rfl) zNx (fun H13 hp14 hz15 => ?_)
      obtain ⟨hf16, hz17⟩ := hp14
      have hT18 := hT.fr hf16 (by first | exact zT1 (by omega) | (show ¬ (_ ∨ _); omega) | (show ¬ (_ ∧ _); omega))
      have hR19 := hR.fr hf16 (by first | exact zT1 (by omega) | (show ¬ (_ ∨ _); omega) | (show ¬ (_ ∧ _); omega))
      have hA20 := hA.fr hf16 (by first | exact zT1 (by omega) | (show ¬ (_ ∨ _); omega) | (show ¬ (_ ∧ _); omega))
      have hY21 := hY.fr hf16 (by first | exact zT1 (by omega) | (show ¬ (_ ∨ _); omega) | (show ¬ (_ ∧ _); omega))
      have hD22 := hD.fr hf16 (by first | exact zT1 (by omega) | (show ¬ (_ ∨ _); omega) | (show ¬ (_ ∧ _); omega)) (by first | exact zT1 (by omega) | (show ¬ (_ ∨ _); omega) | (show ¬ (_ ∧ _); omega)) (by first | exact zT1 (by omega) | (show ¬ (_ ∨ _); omega) | (show ¬ (_ ∧ _); omega)) (by first | exact zT1 (by omega) | (show ¬ (_ ∨ _); omega) | (show ¬ (_ ∧ _); omega))
      have hK23 := hK.fr hf16 (by first | exact zT1 (by omega) | (show ¬ (_ ∨ _); omega) | (show ¬ (_ ∧ _); omega))
      have hI24 := hI.fr hf16 (by first | exact zT1 (by omega) | (show ¬ (_ ∨ _); omega) | (show ¬ (_ ∧ _); omega))
      rw [show zb (decide ((0 : Int) < 0)) = 0 from rfl]
      refine z_if_eq 37 O dX6_worker_32 (by decide) ⟨by omega, by omega⟩ (fun c_32 => ?_) (fun c_32 => ?_)
      · skip
        refine z_iload_n 2 O dX6_worker_37 rfl ?_
        rcases (show j = 0 ∨ j = 1 ∨ j = 2 ∨ j = 3 ∨ j = 4 ∨ (j < 0 ∨ 4 < j) by omega) with c_38 | c_38 | c_38 | c_38 | c_38 | c_38
        · skip
          refine z_tsw 0 72 O dX6_worker_38 ⟨by omega, by omega⟩ (by omega) (by decide) rfl (by decide) ?_
          refine z_aload_n 0 O dX6_worker_72 rfl ?_
          refine z_getf kF_X6_16 O dX6_worker_73 hz17.1 rfl ?_
          refine z_iload_n 1 O dX6_worker_76 rfl ?_
          refine z_iconst 0 O dX6_worker_77 (by decide +kernel) ?_
          refine z_Si [.int (iI w), .int (iI 0)] [.ref (Q 3)] kM_X6_65 O dX6_worker_78 (c_X6_at hst) rfl rfl (by decide) (Nat.le_of_ble_eq_true rfl) (by omega) (by omega) (Nat.le_of_ble_eq_true rfl) zNx ?_
          have ea25 : at_ w 0 = 36 + 1350 * w + 0 := rfl
          refine z_iald O dX6_worker_81 hA20.1 ⟨by omega, by omega⟩ (by omega) (by omega) ?_
          exact z_ireti O dX6_worker_82 rfl (by omega) (by omega) hpo (by rw [if_pos (show cWo w j = 0 from by unfold cWo; (repeat first | rw [if_pos (by omega)] | rw [if_neg (by omega)] | rw [if_pos c_5] | rw [if_pos c_21]))]; unfold vWo; (repeat first | rw [if_pos (by omega)] | rw [if_neg (by omega)] | rw [if_pos c_5] | rw [if_pos c_21]); (try exact zb_t c_5); (try exact zb_t c_21)) (⟨(hf16.up (fun s h => by first | exact h.elim | omega | (simp at h ⊢; omega))), Or.inr ⟨(show cWo w j = 0 from by unfold cWo; (repeat first | rw [if_pos (by omega)] | rw [if_neg (by omega)] | rw [if_pos c_5] | rw [if_pos c_21])), ⟨_, _, _, _, _, hz17, hT18, hR19, hA20, hY21, hD22, hK23, hI24⟩⟩⟩)
        · skip
          refine z_tsw 1 83 O dX6_worker_38 ⟨by omega, by omega⟩ (by omega) (by decide) rfl (by decide) ?_
          refine z_aload_n 0 O dX6_worker_83 rfl ?_
          refine z_getf kF_X6_16 O dX6_worker_84 hz17.1 rfl ?_
          refine z_iload_n 1 O dX6_worker_87 rfl ?_
          refine z_iconst 1 O dX6_worker_88 (by decide +kernel) ?_
          refine z_Si [.int (iI w), .int (iI 1)] [.ref (Q 3)] kM_X6_65 O dX6_worker_89 (c_X6_at hst) rfl rfl (by decide) (Nat.le_of_ble_eq_true rfl) (by omega) (by omega) (Nat.le_of_ble_eq_true rfl) zNx ?_
          have ea26 : at_ w 1 = 36 + 1350 * w + 1 := rfl
          refine z_iald O dX6_worker_92 hA20.1 ⟨by omega, by omega⟩ (by omega) (by omega) ?_
          exact z_ireti O dX6_worker_93 rfl (by omega) (by omega) hpo (by rw [if_pos (show cWo w j = 0 from by unfold cWo; (repeat first | rw [if_pos (by omega)] | rw [if_neg (by omega)] | rw [if_pos c_5] | rw [if_pos c_21]))]; unfold vWo; (repeat first | rw [if_pos (by omega)] | rw [if_neg (by omega)] | rw [if_pos c_5] | rw [if_pos c_21]); (try exact zb_t c_5); (try exact zb_t c_21)) (⟨(hf16.up (fun s h => by first | exact h.elim | omega | (simp at h ⊢; omega))), Or.inr ⟨(show cWo w j = 0 from by unfold cWo; (repeat first | rw [if_pos (by omega)] | rw [if_neg (by omega)] | rw [if_pos c_5] | rw [if_pos c_21])), ⟨_, _, _, _, _, hz17, hT18, hR19, hA20, hY21, hD22, hK23, hI24⟩⟩⟩)
        · skip
          refine z_tsw 2 94 O dX6_worker_38 ⟨by omega, by omega⟩ (by omega) (by decide) rfl (by decide) ?_
          refine z_aload_n 0 O dX6_worker_94 rfl ?_
          refine z_getf kF_X6_16 O dX6_worker_95 hz17.1 rfl ?_
          refine z_iload_n 1 O dX6_worker_98 rfl ?_
          refine z_Si [.ref (Q 3), .int (iI w)] [] kM_X6_213 O dX6_worker_99 (c_X6_locked hst hA20 (fun c h0 h1 => hG.2.2.1 c h0 h1) ⟨by omega, by omega⟩) rfl rfl (by decide) (Nat.le_of_ble_eq_true rfl) (by omega) (by omega) (Nat.le_of_ble_eq_true rfl) zNx ?_
          exact z_ireti O dX6_worker_102 rfl (by omega) (by omega) hpo (by rw [if_pos (show cWo w j = 0 from by unfold cWo; (repeat first | rw [if_pos (by omega)] | rw [if_neg (by omega)] | rw [if_pos c_5] | rw [if_pos c_21]))]; unfold vWo; (repeat first | rw [if_pos (by omega)] | rw [if_neg (by omega)] | rw [if_pos c_5] | rw [if_pos c_21]); (try exact zb_t c_5); (try exact zb_t c_21)) (⟨(hf16.up (fun s h => by first | exact h.elim | omega | (simp at h ⊢; omega))), Or.inr ⟨(show cWo w j = 0 from by unfold cWo; (repeat first | rw [if_pos (by omega)] | rw [if_neg (by omega)] | rw [if_pos c_5] | rw [if_pos c_21])), ⟨_, _, _, _, _, hz17, hT18, hR19, hA20, hY21, hD22, hK23, hI24⟩⟩⟩)
        · skip
          refine z_tsw 3 103 O dX6_worker_38 ⟨by omega, by omega⟩ (by omega) (by decide) rfl (by decide) ?_
          refine z_aload_n 0 O dX6_worker_103 rfl ?_
          refine z_getf kF_X6_16 O dX6_worker_104 hz17.1 rfl ?_
          refine z_iload_n 1 O dX6_worker_107 rfl ?_
          refine z_iconst 3 O dX6_worker_108 (by decide +kernel) ?_
          refine z_Si [.int (iI w), .int (iI 3)] [.ref (Q 3)] kM_X6_65 O dX6_worker_109 (c_X6_at hst) rfl rfl (by decide) (Nat.le_of_ble_eq_true rfl) (by omega) (by omega) (Nat.le_of_ble_eq_true rfl) zNx ?_
          have ea27 : at_ w 3 = 36 + 1350 * w + 3 := rfl
          refine z_iald O dX6_worker_112 hA20.1 ⟨by omega, by omega⟩ (by omega) (by omega) ?_
          exact z_ireti O dX6_worker_113 rfl (by omega) (by omega) hpo (by rw [if_pos (show cWo w j = 0 from by unfold cWo; (repeat first | rw [if_pos (by omega)] | rw [if_neg (by omega)] | rw [if_pos c_5] | rw [if_pos c_21]))]; unfold vWo; (repeat first | rw [if_pos (by omega)] | rw [if_neg (by omega)] | rw [if_pos c_5] | rw [if_pos c_21]); (try exact zb_t c_5); (try exact zb_t c_21)) (⟨(hf16.up (fun s h => by first | exact h.elim | omega | (simp at h ⊢; omega))), Or.inr ⟨(show cWo w j = 0 from by unfold cWo; (repeat first | rw [if_pos (by omega)] | rw [if_neg (by omega)] | rw [if_pos c_5] | rw [if_pos c_21])), ⟨_, _, _, _, _, hz17, hT18, hR19, hA20, hY21, hD22, hK23, hI24⟩⟩⟩)
        · skip
          refine z_tsw 4 114 O dX6_worker_38 ⟨by omega, by omega⟩ (by omega) (by decide) rfl (by decide) ?_
          refine z_aload_n 0 O dX6_worker_114 rfl ?_
          refine z_getf kF_X6_16 O dX6_worker_115 hz17.1 rfl ?_
          refine z_iload_n 1 O dX6_worker_118 rfl ?_
          refine z_iconst 4 O dX6_worker_119 (by decide +kernel) ?_
          refine z_Si [.int (iI w), .int (iI 4)] [.ref (Q 3)] kM_X6_65 O dX6_worker_120 (c_X6_at hst) rfl rfl (by decide) (Nat.le_of_ble_eq_true rfl) (by omega) (by omega) (Nat.le_of_ble_eq_true rfl) zNx ?_
          have ea28 : at_ w 4 = 36 + 1350 * w + 4 := rfl
          refine z_iald O dX6_worker_123 hA20.1 ⟨by omega, by omega⟩ (by omega) (by omega) ?_
          exact z_ireti O dX6_worker_124 rfl (by omega) (by omega) hpo (by rw [if_pos (show cWo w j = 0 from by unfold cWo; (repeat first | rw [if_pos (by omega)] | rw [if_neg (by omega)] | rw [if_pos c_5] | rw [if_pos c_21]))]; unfold vWo; (repeat first | rw [if_pos (by omega)] | rw [if_neg (by omega)] | rw [if_pos c_5] | rw [if_pos c_21]); (try exact zb_t c_5); (try exact zb_t c_21)) (⟨(hf16.up (fun s h => by first | exact h.elim | omega | (simp at h ⊢; omega))), Or.inr ⟨(show cWo w j = 0 from by unfold cWo; (repeat first | rw [if_pos (by omega)] | rw [if_neg (by omega)] | rw [if_pos c_5] | rw [if_pos c_21])), ⟨_, _, _, _, _, hz17, hT18, hR19, hA20, hY21, hD22, hK23, hI24⟩⟩⟩)
        · skip
          refine z_tswO 125 O dX6_worker_38 ⟨by omega, by omega⟩ c_38 (by decide) ?_
          refine z_aload_n 0 O dX6_worker_125 rfl ?_
          refine z_getf kF_X6_16 O dX6_worker_126 hz17.1 rfl ?_
          refine z_iload_n 1 O dX6_worker_129 rfl ?_
          refine z_Si [.ref (Q 3), .int (iI w)] [] kM_X6_81 O dX6_worker_130 (c_X6_isSpoiled hst hA20 hG ⟨by omega, by omega⟩) rfl rfl (by decide) (Nat.le_of_ble_eq_true rfl) (by omega) (by omega) (Nat.le_of_ble_eq_true rfl) zNx ?_
          refine z_ifb_eq 140 O dX6_worker_133 (by decide) (fun c_133 => ?_) (fun c_133 => ?_)
          · skip
            have k_133 := sSp_f.mp c_133
            refine z_iconst 0 O dX6_worker_140 (by decide +kernel) ?_
            exact z_ireti O dX6_worker_141 rfl (by omega) (by omega) hpo (by rw [if_pos (show cWo w j = 0 from by unfold cWo; (repeat first | rw [if_pos (by omega)] | rw [if_neg (by omega)] | rw [if_pos c_5] | rw [if_pos c_21] | rw [if_neg (by rw [c_133]; decide)]))]; unfold vWo; (repeat first | rw [if_pos (by omega)] | rw [if_neg (by omega)] | rw [if_pos c_5] | rw [if_pos c_21] | rw [if_neg (by rw [c_133]; decide)]); (try exact zb_t c_5); (try exact zb_t c_21); (try exact zb_f c_133)) (⟨(hf16.up (fun s h => by first | exact h.elim | omega | (simp at h ⊢; omega))), Or.inr ⟨(show cWo w j = 0 from by unfold cWo; (repeat first | rw [if_pos (by omega)] | rw [if_neg (by omega)] | rw [if_pos c_5] | rw [if_pos c_21] | rw [if_neg (by rw [c_133]; decide)])), ⟨_, _, _, _, _, hz17, hT18, hR19, hA20, hY21, hD22, hK23, hI24⟩⟩⟩)
          · skip
            have k_133 := sSp_t.mp c_133
            refine z_iconst 1 O dX6_worker_136 (by decide +kernel) ?_
            refine z_goto 141 O dX6_worker_137 (by decide) ?_
            exact z_ireti O dX6_worker_141 rfl (by omega) (by omega) hpo (by rw [if_pos (show cWo w j = 0 from by unfold cWo; (repeat first | rw [if_pos (by omega)] | rw [if_neg (by omega)] | rw [if_pos c_5] | rw [if_pos c_21] | rw [if_pos c_133]))]; unfold vWo; (repeat first | rw [if_pos (by omega)] | rw [if_neg (by omega)] | rw [if_pos c_5] | rw [if_pos c_21] | rw [if_pos c_133]); (try exact zb_t c_5); (try exact zb_t c_21); (try exact zb_t c_133)) (⟨(hf16.up (fun s h => by first | exact h.elim | omega | (simp at h ⊢; omega))), Or.inr ⟨(show cWo w j = 0 from by unfold cWo; (repeat first | rw [if_pos (by omega)] | rw [if_neg (by omega)] | rw [if_pos c_5] | rw [if_pos c_21] | rw [if_pos c_133])), ⟨_, _, _, _, _, hz17, hT18, hR19, hA20, hY21, hD22, hK23, hI24⟩⟩⟩)
      · exfalso; omega
  · skip
    have k_5 := sBt_f.mp c_5
    refine z_iconst 1 O dX6_worker_8 (by decide +kernel) ?_
    refine z_goto 29 O dX6_worker_9 (by decide) ?_
    refine z_Vim [.int (iI 1)] [] kM_X6_118 O dX6_worker_29 (c_X6_refused hst hO ⟨by omega, by omega⟩) rfl rfl hO.1 (by decide) (Nat.le_of_ble_eq_true rfl) (by omega) (by omega) (Nat.le_of_ble_eq_true rfl) zNx (fun H29 hp30 hz31 => ?_)
    obtain ⟨hf32, hz33⟩ := hp30
    have hT34 := hT.fr hf32 (by first | exact zT1 (by omega) | (show ¬ (_ ∨ _); omega) | (show ¬ (_ ∧ _); omega))
    have hR35 := hR.fr hf32 (by first | exact zT1 (by omega) | (show ¬ (_ ∨ _); omega) | (show ¬ (_ ∧ _); omega))
    have hA36 := hA.fr hf32 (by first | exact zT1 (by omega) | (show ¬ (_ ∨ _); omega) | (show ¬ (_ ∧ _); omega))
    have hY37 := hY.fr hf32 (by first | exact zT1 (by omega) | (show ¬ (_ ∨ _); omega) | (show ¬ (_ ∧ _); omega))
    have hD38 := hD.fr hf32 (by first | exact zT1 (by omega) | (show ¬ (_ ∨ _); omega) | (show ¬ (_ ∧ _); omega)) (by first | exact zT1 (by omega) | (show ¬ (_ ∨ _); omega) | (show ¬ (_ ∧ _); omega)) (by first | exact zT1 (by omega) | (show ¬ (_ ∨ _); omega) | (show ¬ (_ ∧ _); omega)) (by first | exact zT1 (by omega) | (show ¬ (_ ∨ _); omega) | (show ¬ (_ ∧ _); omega))
    have hK39 := hK.fr hf32 (by first | exact zT1 (by omega) | (show ¬ (_ ∨ _); omega) | (show ¬ (_ ∧ _); omega))
    have hI40 := hI.fr hf32 (by first | exact zT1 (by omega) | (show ¬ (_ ∨ _); omega) | (show ¬ (_ ∧ _); omega))
    rw [show zb (decide ((0 : Int) < 1)) = 1 from rfl]
    refine z_if_eq 37 O dX6_worker_32 (by decide) ⟨by omega, by omega⟩ (fun c_32 => ?_) (fun c_32 => ?_)
    · exfalso; omega
    · skip
      refine z_iconst 0 O dX6_worker_35 (by decide +kernel) ?_
      exact z_ireti O dX6_worker_36 rfl (by omega) (by omega) hpo (by rw [if_neg (by rw [show cWo w j = 1 from by unfold cWo; (repeat first | rw [if_pos (by omega)] | rw [if_neg (by omega)] | rw [if_neg (by rw [c_5]; decide)])]; decide)]) (⟨(hf32.up (fun s h => by first | exact h.elim | omega | (simp at h ⊢; omega))), Or.inl ⟨(by rw [show cWo w j = 1 from by unfold cWo; (repeat first | rw [if_pos (by omega)] | rw [if_neg (by omega)] | rw [if_neg (by rw [c_5]; decide)])]; decide), (by rw [show cWo w j = 1 from by unfold cWo; (repeat first | rw [if_pos (by omega)] | rw [if_neg (by omega)] | rw [if_neg (by rw [c_5]; decide)])]; exact ⟨_, _, _, _, _, hz33, hT34, hR35, hA36, hY37, hD38, hK39, hI40⟩)⟩⟩)
