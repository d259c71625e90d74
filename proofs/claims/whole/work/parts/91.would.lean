/-! the class: what would be (written by program: wip/whole/gen/class18.py) -/
theorem zWkr.ph {E : zE} {H : Heap} {r : zH} {a : Nat → Nat} {t : Nat} {w : Int} {G : Int → Int} (h : zWkr E H r a t w G) : r.2 (t + 3) ≤ 1024 ∧ r.2 (t + 5) ≤ 1024 ∧ r.2 (t + 7) ≤ 20 ∧ r.2 (t + 9) ≤ 20 := by
  obtain ⟨np, f1, f2, V, -, -, h3, h4, h5, h6, -⟩ := h
  exact ⟨h3.cap.1, h4.cap.1, h5.cap.1, h6.cap.1⟩
theorem zSt.ph {E : zE} {H : Heap} {r : zH} {a : Nat → Nat} {t : Nat} {G : Int → Int} (h : zSt E H r a t G) : zPh t r ≤ 6264 := by
  have h0 := (h.2.2.2.2 0 (by omega)).ph
  have h1 := (h.2.2.2.2 1 (by omega)).ph
  have h2 := (h.2.2.2.2 2 (by omega)).ph
  unfold zPh
  simp only [Nat.mul_zero, Nat.mul_one, Nat.add_zero, Nat.add_assoc, Nat.reduceMul, Nat.reduceAdd] at h0 h1 h2 ⊢
  omega
theorem zCm.ph {E : zE} {H : Heap} {r : zH} {a : Nat → Nat} {n : Int} {tx G : Int → Int} {fi ac : Int} {dd : Nat → Int → Int} {kp ik : Int → Int} (h : zCm E H r a n tx G fi ac dd kp ik) : zPs r ≤ 12528 := by
  obtain ⟨nx, fl, F, sf, KS, ⟨-, -, -, h1, ⟨S, h2⟩, -⟩, -⟩ := h
  have a1 := h1.ph
  have a2 := h2.ph
  unfold zPs
  omega
theorem atT_w {K : Int → Int} {k w u v : Int} (hw : 0 ≤ w ∧ w ≤ 2) : atT K k w u v = alD K k w u v := by unfold atT; rw [sBt_t.mpr hw]; rfl
theorem atT_n {K : Int → Int} {k w u v : Int} (hw : ¬ (0 ≤ w ∧ w ≤ 2)) : atT K k w u v = false := by unfold atT; rw [sBt_f.mpr hw]; rfl
theorem sFs_0 {K : Int → Int} {w : Int} (h : ¬ 0 < K (at_ w 0)) : ∀ n : Nat, sFs n K w = K
  | 0 => rfl
  | n + 1 => if_neg h
theorem at_fail {K : Int → Int} {w : Int} (hw : 0 ≤ w ∧ w ≤ 2) : atR K 2 w 0 0 = if 0 < K (at_ w 0) then sFail K w else K := by
  unfold atR
  rw [atT_w hw]
  show sIf (decide (0 < K (at_ w 0))) (sFail K w) K = _
  by_cases h : 0 < K (at_ w 0)
  · rw [if_pos h, decide_eq_true h]; rfl
  · rw [if_neg h, decide_eq_false h]; rfl
theorem c_X5_changes {E : zE} (hst : E.1.stackTraces = false) {H : Heap} {r : zH} {a : Nat → Nat} {n : Int} {tx G : Int → Int} {fi ac : Int} {dd : Nat → Int → Int} {kp ik : Int → Int} {N : Int} {w : Int} (h : zCm E H r a n tx G fi ac dd kp ik) (hOK : cOK n tx G fi ac dd kp ik N) (hzw : zR w) : zC E yX5_changes cX5_changes 2 (some .int) 7 189 [.ref (a 1200), .int (iI w)] H 1038 26776 (zRi (vCh G w) (fun H1 => cWw w = 0 ∧ zCp E H r a n tx G fi ac dd kp ik H1)) (zXc (cWw w) xB "" "" H) := by
  refine zC.of2 (by decide) (Nat.le_of_ble_eq_true rfl) hst ?_
  intro x O hE hpo hpx hH
  subst hE
  change zG x H 0 0 0 [(0, .ref (a 1200)), (1, .int (iI w))] []
  have hOK9 := hOK
  obtain ⟨nx, fl, F, sf, KS, hfw, hhr, hkr⟩ := id h
  obtain ⟨fO, fT, fcap, fS, ⟨S, fC⟩, fH, fQ, fL, fZ⟩ := id hfw
  obtain ⟨⟨hn, hx, hG, hN, hfi, hac, hik⟩, hdd, hkk⟩ := hOK
  refine z_aload_n 0 O dX5_changes_0 rfl ?_
  refine z_iload_n 1 O dX5_changes_1 rfl ?_
  by_cases hd1 : 0 ≤ w ∧ w ≤ 2
  · skip
    have hw : 0 ≤ w ∧ w ≤ 2 := hd1
    refine z_Vr [.int (iI w)] [] kM_X5_140 O dX5_changes_2 (c_X5_existingWorkerY hst fO fS hG hzw hw) rfl rfl fO.1 (by decide) (Nat.le_of_ble_eq_true rfl) (by omega) (by omega) (Nat.le_of_ble_eq_true rfl) zNx ?_
    refine z_pop O dX5_changes_5 rfl ?_
    refine z_aload_n 0 O dX5_changes_6 rfl ?_
    refine z_getf kF_X5_25 O dX5_changes_7 fO.1 rfl ?_
    refine z_aload_n 0 O dX5_changes_10 rfl ?_
    refine z_getf kF_X5_21 O dX5_changes_11 fO.1 rfl ?_
    obtain ⟨hsO2, _⟩ := id fC
    refine z_Vvm [.ref (a 0)] [] kM_X5_221 O dX5_changes_14 (c_X2_copyFrom hst fC fS hG (by decide)) rfl rfl hsO2.1 (by decide) (Nat.le_of_ble_eq_true rfl) (by omega) (by omega) (Nat.le_of_ble_eq_true rfl) zNx (fun H3 hp4 hz5 => ?_)
    obtain ⟨r6, hf7, fC8, hmo9⟩ := hp4
    have fO10 := fO.fr hf7 (by first | exact (fun h => h) | exact zT1 (by omega) | (show ¬ (_ ∨ _); omega) | (show ¬ (_ ∧ _); omega))
    have fT11 := fT.fr hf7 (by first | exact (fun h => h) | exact zT1 (by omega) | (show ¬ (_ ∨ _); omega) | (show ¬ (_ ∧ _); omega)) (by first | exact (fun h => h) | exact zT1 (by omega) | (show ¬ (_ ∨ _); omega) | (show ¬ (_ ∧ _); omega))
    have fS12 := fS.fr hf7 (fun s h1 h2 => by first | exact (fun h => h) | exact zT1 (by omega) | (show ¬ (_ ∨ _); omega) | (show ¬ (_ ∧ _); omega) | (show ¬ (_ < _); omega))
    have fH13 := fH.fr hf7 (fun s h1 => by first | exact (fun h => h) | exact zT1 (by omega) | (show ¬ (_ ∨ _); omega) | (show ¬ (_ ∧ _); omega) | (show ¬ (_ < _); omega))
    have fQ14 := fQ.fr hf7 (by first | exact (fun h => h) | exact zT1 (by omega) | (show ¬ (_ ∨ _); omega) | (show ¬ (_ ∧ _); omega))
    have fL15 := fL.fr hf7 (fun s h1 h2 => by first | exact (fun h => h) | exact zT1 (by omega) | (show ¬ (_ ∨ _); omega) | (show ¬ (_ ∧ _); omega) | (show ¬ (_ < _); omega))
    have fZ16 := fZ.fr hf7 (by first | exact (fun h => h) | exact zT1 (by omega) | (show ¬ (_ ∨ _); omega) | (show ¬ (_ ∧ _); omega))
    have fcap17 := (hf7.2.2.2 1203 (by first | exact (fun h => h) | exact zT1 (by omega) | (show ¬ (_ ∨ _); omega) | (show ¬ (_ ∧ _); omega))).trans fcap
    have hp0 := zPh_le (t := 0) hmo9
    have hp6 := zPh_le (t := 64) hmo9
    refine z_meter (fun hb1 hb2 => ?_)
    rw [hH] at hb1 hb2
    refine z_aload_n 0 O dX5_changes_17 rfl ?_
    refine z_getf kF_X5_25 O dX5_changes_18 fO10.1 rfl ?_
    refine z_iconst 2 O dX5_changes_21 (by decide +kernel) ?_
    refine z_iload_n 1 O dX5_changes_22 rfl ?_
    refine z_iconst 0 O dX5_changes_23 (by decide +kernel) ?_
    refine z_iconst 0 O dX5_changes_24 (by decide +kernel) ?_
    obtain ⟨hO18, _⟩ := id fC8
    refine z_Vim [.int (iI 2), .int (iI w), .int (iI 0), .int (iI 0)] [] kM_X5_224 O dX5_changes_25 (c_X2_attempt hst fC8 hG hN hzw (by decide) ⟨by omega, by omega⟩ ⟨by omega, by omega⟩) rfl rfl hO18.1 (by decide) (Nat.le_of_ble_eq_true rfl) (by omega) (by omega) (Nat.le_of_ble_eq_true rfl) zNx (fun H19 hp20 hz21 => ?_)
    obtain ⟨r22, hf23, hg24, fC25⟩ := hp20
    have fO26 := fO10.fr hf23 (by first | exact (fun h => h) | exact zT1 (by omega) | (show ¬ (_ ∨ _); omega) | (show ¬ (_ ∧ _); omega))
    have fT27 := fT11.fr hf23 (by first | exact (fun h => h) | exact zT1 (by omega) | (show ¬ (_ ∨ _); omega) | (show ¬ (_ ∧ _); omega)) (by first | exact (fun h => h) | exact zT1 (by omega) | (show ¬ (_ ∨ _); omega) | (show ¬ (_ ∧ _); omega))
    have fS28 := fS12.fr hf23 (fun s h1 h2 => by first | exact (fun h => h) | exact zT1 (by omega) | (show ¬ (_ ∨ _); omega) | (show ¬ (_ ∧ _); omega) | (show ¬ (_ < _); omega))
    have fH29 := fH13.fr hf23 (fun s h1 => by first | exact (fun h => h) | exact zT1 (by omega) | (show ¬ (_ ∨ _); omega) | (show ¬ (_ ∧ _); omega) | (show ¬ (_ < _); omega))
    have fQ30 := fQ14.fr hf23 (by first | exact (fun h => h) | exact zT1 (by omega) | (show ¬ (_ ∨ _); omega) | (show ¬ (_ ∧ _); omega))
    have fL31 := fL15.fr hf23 (fun s h1 h2 => by first | exact (fun h => h) | exact zT1 (by omega) | (show ¬ (_ ∨ _); omega) | (show ¬ (_ ∧ _); omega) | (show ¬ (_ < _); omega))
    have fZ32 := fZ16.fr hf23 (by first | exact (fun h => h) | exact zT1 (by omega) | (show ¬ (_ ∨ _); omega) | (show ¬ (_ ∧ _); omega))
    have fcap33 := (hf23.2.2.2 1203 (by first | exact (fun h => h) | exact zT1 (by omega) | (show ¬ (_ ∨ _); omega) | (show ¬ (_ ∧ _); omega))).trans fcap17
    have hg1 := hg24.1
    have hg2 := hg24.2
    have hq0 := zPh_fr (t := 0) hf23 (fun s p q => by show ¬ (_ ∧ _); omega)
    refine z_ifb_eq 45 O dX5_changes_28 (by decide) (fun c_28 => ?_) (fun c_28 => ?_)
    · skip
      have hpos : ¬ 0 < G (at_ w 0) := fun q => by have q2 := c_28; rw [atT_w hw] at q2; rw [show alD G 2 w 0 0 = decide (0 < G (at_ w 0)) from rfl, decide_eq_true q] at q2; exact absurd q2 (by decide)
      have hmm := hG.m hw
      refine z_iconst (-1) O dX5_changes_45 (by decide +kernel) ?_
      have hgv : zGv H r H19 r22 := by unfold zGv zPs; omega
      exact z_ireti O dX5_changes_46 rfl (by omega) (by omega) hpo (by unfold vCh; exact (if_pos (by omega)).symm) (⟨(by unfold cWw; (repeat first | rw [if_pos (by omega)] | rw [if_neg (by omega)] | rw [if_neg (by rw [c_28]; decide)])), r22, a, rfl, (((hf7.up (fun s h => by first | exact h.elim | (show _ < _; omega) | omega | (simp at h ⊢; omega)))).tr (hf23.up (fun s h => by first | exact h.elim | (show _ < _; omega) | omega | (simp at h ⊢; omega)))), hgv, nx, fl, F, sf, KS, (zFw.mk (fun _ _ => rfl) fO26 fT27 fcap33 fS28 fC25 fH29 fQ30 fL31 fZ32), hhr, hkr⟩)
    · skip
      have hpos : 0 < G (at_ w 0) := by have q := c_28; rw [atT_w hw] at q; exact of_decide_eq_true q
      refine z_aload_n 0 O dX5_changes_31 rfl ?_
      refine z_getf kF_X5_21 O dX5_changes_32 fO26.1 rfl ?_
      refine z_aload_n 0 O dX5_changes_35 rfl ?_
      refine z_getf kF_X5_25 O dX5_changes_36 fO26.1 rfl ?_
      have hT9 : (atR G 2 w 0 0) = (sFail G w) := (by rw [at_fail hw]; exact if_pos hpos)
      have fC34 := fC25
      rw [hT9] at fC34
      obtain ⟨hO35, _⟩ := id fS28
      refine z_Vi [.ref (a 64)] [] kM_X5_228 O dX5_changes_39 (c_X2_countDifferent hst fS28 fC34 hG.2.1 (hG.fail hw hpos).2.1) rfl rfl hO35.1 (by decide) (Nat.le_of_ble_eq_true rfl) (by omega) (by omega) (Nat.le_of_ble_eq_true rfl) zNx ?_
      refine z_goto 46 O dX5_changes_42 (by decide) ?_
      have hgv : zGv H r H19 r22 := by unfold zGv zPs; omega
      exact z_ireti O dX5_changes_46 rfl (by omega) (by omega) hpo (by unfold vCh; exact (if_neg (by omega)).symm) (⟨(by unfold cWw; (repeat first | rw [if_pos (by omega)] | rw [if_neg (by omega)] | rw [if_pos c_28])), r22, a, rfl, (((hf7.up (fun s h => by first | exact h.elim | (show _ < _; omega) | omega | (simp at h ⊢; omega)))).tr (hf23.up (fun s h => by first | exact h.elim | (show _ < _; omega) | omega | (simp at h ⊢; omega)))), hgv, nx, fl, F, sf, KS, (zFw.mk (fun _ _ => rfl) fO26 fT27 fcap33 fS28 fC34 fH29 fQ30 fL31 fZ32), hhr, hkr⟩)
  · skip
    exact z_Vrm [.int (iI w)] [] kM_X5_140 O dX5_changes_2 ((c_X5_existingWorkerN hst fO fS hG hzw hd1).to (post' := zRr none (fun _ => False)) (fun _ _ hh => hh.elim) (fun _ _ hh => hh)) rfl rfl fO.1 (by decide) (Nat.le_of_ble_eq_true rfl) (by omega) (by omega) (Nat.le_of_ble_eq_true rfl) (fun X H1 hh => by rw [hpx]; exact ⟨Or.inl ⟨(by unfold cWw; (repeat first | rw [if_pos (by omega)] | rw [if_neg (by omega)])), hh.1⟩, hh.2⟩) (fun H1 hp hz => hp.elim)

theorem c_X5_lost {E : zE} (hst : E.1.stackTraces = false) {H : Heap} {r : zH} {a : Nat → Nat} {n : Int} {tx G : Int → Int} {fi ac : Int} {dd : Nat → Int → Int} {kp ik : Int → Int} {N : Int} {w i : Int} (h : zCm E H r a n tx G fi ac dd kp ik) (hOK : cOK n tx G fi ac dd kp ik N) (hzw : zR w) (hzi : zR i) : zC E yX5_lost cX5_lost 4 (some .int) 7 117 [.ref (a 1200), .int (iI w), .int (iI i)] H 14 6296 (zRi (zSum 16 (sDf (sBack G w i) G)) (fun H1 => cLo G w i = 0 ∧ zCp E H r a n tx G fi ac dd kp ik H1)) (zXc (cLo G w i) xB "" "" H) := by
  refine zC.of2 (by decide) (Nat.le_of_ble_eq_true rfl) hst ?_
  intro x O hE hpo hpx hH
  subst hE
  change zG x H 0 0 0 [(0, .ref (a 1200)), (1, .int (iI w)), (2, .int (iI i))] []
  have hOK9 := hOK
  obtain ⟨nx, fl, F, sf, KS, hfw, hhr, hkr⟩ := id h
  obtain ⟨fO, fT, fcap, fS, ⟨S, fC⟩, fH, fQ, fL, fZ⟩ := id hfw
  obtain ⟨⟨hn, hx, hG, hN, hfi, hac, hik⟩, hdd, hkk⟩ := hOK
  refine z_aload_n 0 O dX5_lost_0 rfl ?_
  refine z_iload_n 1 O dX5_lost_1 rfl ?_
  by_cases hd1 : 0 ≤ w ∧ w ≤ 2
  · skip
    have hw : 0 ≤ w ∧ w ≤ 2 := hd1
    refine z_Vr [.int (iI w)] [] kM_X5_140 O dX5_lost_2 (c_X5_existingWorkerY hst fO fS hG hzw hw) rfl rfl fO.1 (by decide) (Nat.le_of_ble_eq_true rfl) (by omega) (by omega) (Nat.le_of_ble_eq_true rfl) zNx ?_
    refine z_iload_n 2 O dX5_lost_5 rfl ?_
    by_cases hd2 : sHp G w i = true
    · skip
      refine z_Sv [.ref (a (0 + 6 + 16 * w.toNat)), .int (iI i)] [] kM_X5_193 O dX5_lost_6 (c_X5_requirePointY hst (zSt_w fS.2.2.2.2 hw).1 hG hw hzi hd2) rfl rfl (by decide) (Nat.le_of_ble_eq_true rfl) (by omega) (by omega) (Nat.le_of_ble_eq_true rfl) zNx ?_
      refine z_aload_n 0 O dX5_lost_9 rfl ?_
      refine z_getf kF_X5_25 O dX5_lost_10 fO.1 rfl ?_
      refine z_aload_n 0 O dX5_lost_13 rfl ?_
      refine z_getf kF_X5_21 O dX5_lost_14 fO.1 rfl ?_
      obtain ⟨hsO3, _⟩ := id fC
      refine z_Vvm [.ref (a 0)] [] kM_X5_221 O dX5_lost_17 (c_X2_copyFrom hst fC fS hG (by decide)) rfl rfl hsO3.1 (by decide) (Nat.le_of_ble_eq_true rfl) (by omega) (by omega) (Nat.le_of_ble_eq_true rfl) zNx (fun H4 hp5 hz6 => ?_)
      obtain ⟨r7, hf8, fC9, hmo10⟩ := hp5
      have fO11 := fO.fr hf8 (by first | exact (fun h => h) | exact zT1 (by omega) | (show ¬ (_ ∨ _); omega) | (show ¬ (_ ∧ _); omega))
      have fT12 := fT.fr hf8 (by first | exact (fun h => h) | exact zT1 (by omega) | (show ¬ (_ ∨ _); omega) | (show ¬ (_ ∧ _); omega)) (by first | exact (fun h => h) | exact zT1 (by omega) | (show ¬ (_ ∨ _); omega) | (show ¬ (_ ∧ _); omega))
      have fS13 := fS.fr hf8 (fun s h1 h2 => by first | exact (fun h => h) | exact zT1 (by omega) | (show ¬ (_ ∨ _); omega) | (show ¬ (_ ∧ _); omega) | (show ¬ (_ < _); omega))
      have fH14 := fH.fr hf8 (fun s h1 => by first | exact (fun h => h) | exact zT1 (by omega) | (show ¬ (_ ∨ _); omega) | (show ¬ (_ ∧ _); omega) | (show ¬ (_ < _); omega))
      have fQ15 := fQ.fr hf8 (by first | exact (fun h => h) | exact zT1 (by omega) | (show ¬ (_ ∨ _); omega) | (show ¬ (_ ∧ _); omega))
      have fL16 := fL.fr hf8 (fun s h1 h2 => by first | exact (fun h => h) | exact zT1 (by omega) | (show ¬ (_ ∨ _); omega) | (show ¬ (_ ∧ _); omega) | (show ¬ (_ < _); omega))
      have fZ17 := fZ.fr hf8 (by first | exact (fun h => h) | exact zT1 (by omega) | (show ¬ (_ ∨ _); omega) | (show ¬ (_ ∧ _); omega))
      have fcap18 := (hf8.2.2.2 1203 (by first | exact (fun h => h) | exact zT1 (by omega) | (show ¬ (_ ∨ _); omega) | (show ¬ (_ ∧ _); omega))).trans fcap
      have hp0 := zPh_le (t := 0) hmo10
      have hp6 := zPh_le (t := 64) hmo10
      refine z_meter (fun hb1 hb2 => ?_)
      rw [hH] at hb1 hb2
      refine z_aload_n 0 O dX5_lost_20 rfl ?_
      refine z_getf kF_X5_25 O dX5_lost_21 fO11.1 rfl ?_
      refine z_iload_n 1 O dX5_lost_24 rfl ?_
      obtain ⟨hO19, _⟩ := id fC9
      refine z_Vr [.int (iI w)] [] kM_X5_232 O dX5_lost_25 (by have c := c_X2_workerAt hst fC9 hG hzw; rw [if_pos (by omega)] at c; exact c) rfl rfl hO19.1 (by decide) (Nat.le_of_ble_eq_true rfl) (by omega) (by omega) (Nat.le_of_ble_eq_true rfl) zNx ?_
      refine z_astore_n [(3, .ref (a (64 + 6 + 16 * w.toNat))), (0, .ref (a 1200)), (1, .int (iI w)), (2, .int (iI i))] O dX5_lost_28 (by decide) rfl ?_
      refine z_aload_n 0 O dX5_lost_29 rfl ?_
      refine z_ifnull O dX5_lost_30 ?_
      refine z_aload_n 1 O dX5_lost_33 rfl ?_
      refine z_getf kF_X5_25 O dX5_lost_34 fO11.1 rfl ?_
      refine z_aload_n 0 O dX5_lost_37 rfl ?_
      refine z_iload_n 3 O dX5_lost_38 rfl ?_
      obtain ⟨hO20, _⟩ := id fC9
      refine z_Vim [.ref (a (64 + 6 + 16 * w.toNat)), .int (iI i)] [] kM_X5_235 O dX5_lost_39 (c_X2_goBack hst fC9 hG hw hd2 hzi) rfl rfl hO20.1 (by decide) (Nat.le_of_ble_eq_true rfl) (by omega) (by omega) (Nat.le_of_ble_eq_true rfl) zNx (fun H21 hp22 hz23 => ?_)
      obtain ⟨hf24, fC25⟩ := hp22
      have fO26 := fO11.fr hf24 (by first | exact (fun h => h) | exact zT1 (by omega) | (show ¬ (_ ∨ _); omega) | (show ¬ (_ ∧ _); omega))
      have fT27 := fT12.fr hf24 (by first | exact (fun h => h) | exact zT1 (by omega) | (show ¬ (_ ∨ _); omega) | (show ¬ (_ ∧ _); omega)) (by first | exact (fun h => h) | exact zT1 (by omega) | (show ¬ (_ ∨ _); omega) | (show ¬ (_ ∧ _); omega))
      have fS28 := fS13.fr hf24 (fun s h1 h2 => by first | exact (fun h => h) | exact zT1 (by omega) | (show ¬ (_ ∨ _); omega) | (show ¬ (_ ∧ _); omega) | (show ¬ (_ < _); omega))
      have fH29 := fH14.fr hf24 (fun s h1 => by first | exact (fun h => h) | exact zT1 (by omega) | (show ¬ (_ ∨ _); omega) | (show ¬ (_ ∧ _); omega) | (show ¬ (_ < _); omega))
      have fQ30 := fQ15.fr hf24 (by first | exact (fun h => h) | exact zT1 (by omega) | (show ¬ (_ ∨ _); omega) | (show ¬ (_ ∧ _); omega))
      have fL31 := fL16.fr hf24 (fun s h1 h2 => by first | exact (fun h => h) | exact zT1 (by omega) | (show ¬ (_ ∨ _); omega) | (show ¬ (_ ∧ _); omega) | (show ¬ (_ < _); omega))
      have fZ32 := fZ17.fr hf24 (by first | exact (fun h => h) | exact zT1 (by omega) | (show ¬ (_ ∨ _); omega) | (show ¬ (_ ∧ _); omega))
      have fcap33 := (hf24.2.2.2 1203 (by first | exact (fun h => h) | exact zT1 (by omega) | (show ¬ (_ ∨ _); omega) | (show ¬ (_ ∧ _); omega))).trans fcap18
      refine z_meter (fun hc1 hc2 => ?_)
      rw [hH] at hc1 hc2
      refine z_pop O dX5_lost_42 rfl ?_
      refine z_aload_n 1 O dX5_lost_43 rfl ?_
      refine z_getf kF_X5_21 O dX5_lost_44 fO26.1 rfl ?_
      refine z_aload_n 1 O dX5_lost_47 rfl ?_
      refine z_getf kF_X5_25 O dX5_lost_48 fO26.1 rfl ?_
      obtain ⟨hO34, _⟩ := id fS28
      refine z_Vi [.ref (a 64)] [] kM_X5_228 O dX5_lost_51 (c_X2_countDifferent hst fS28 fC25 hG.2.1 (hG.back hw (sHp_t.mp hd2).1 ⟨(sHp_t.mp hd2).2.1, by have := (sHp_t.mp hd2).2.2; omega⟩).2.1) rfl rfl hO34.1 (by decide) (Nat.le_of_ble_eq_true rfl) (by omega) (by omega) (Nat.le_of_ble_eq_true rfl) zNx ?_
      have hgv : zGv H r H21 r7 := by unfold zGv zPs; omega
      exact z_ireti O dX5_lost_54 rfl (by omega) (by omega) hpo (by rfl) (⟨(by unfold cLo; (repeat first | rw [if_pos (by omega)] | rw [if_neg (by omega)] | rw [if_pos hd2])), r7, a, rfl, (((hf8.up (fun s h => by first | exact h.elim | (show _ < _; omega) | omega | (simp at h ⊢; omega)))).tr (hf24.up (fun s h => by first | exact h.elim | (show _ < _; omega) | omega | (simp at h ⊢; omega)))), hgv, nx, fl, F, sf, KS, (zFw.mk (fun _ _ => rfl) fO26 fT27 fcap33 fS28 fC25 fH29 fQ30 fL31 fZ32), hhr, hkr⟩)
    · skip
      exact z_Svm [.ref (a (0 + 6 + 16 * w.toNat)), .int (iI i)] [] kM_X5_193 O dX5_lost_6 ((c_X5_requirePointN hst (zSt_w fS.2.2.2.2 hw).1 hG hw hzi (Bool.eq_false_iff.mpr hd2)).to (post' := zRv (fun _ => False)) (fun _ _ hh => hh.elim) (fun _ _ hh => hh)) rfl rfl (by decide) (Nat.le_of_ble_eq_true rfl) (by omega) (by omega) (Nat.le_of_ble_eq_true rfl) (fun X H1 hh => by rw [hpx]; exact ⟨Or.inl ⟨(by unfold cLo; (repeat first | rw [if_pos (by omega)] | rw [if_neg (by omega)] | rw [if_neg hd2])), hh.1⟩, hh.2⟩) (fun H1 hp hz => hp.elim)
  · skip
    exact z_Vrm [.int (iI w)] [] kM_X5_140 O dX5_lost_2 ((c_X5_existingWorkerN hst fO fS hG hzw hd1).to (post' := zRr none (fun _ => False)) (fun _ _ hh => hh.elim) (fun _ _ hh => hh)) rfl rfl fO.1 (by decide) (Nat.le_of_ble_eq_true rfl) (by omega) (by omega) (Nat.le_of_ble_eq_true rfl) (fun X H1 hh => by rw [hpx]; exact ⟨Or.inl ⟨(by unfold cLo; (repeat first | rw [if_pos (by omega)] | rw [if_neg (by omega)])), hh.1⟩, hh.2⟩) (fun H1 hp hz => hp.elim)

theorem c_X5_failed {E : zE} (hst : E.1.stackTraces = false) {H : Heap} {r : zH} {a : Nat → Nat} {n : Int} {tx G : Int → Int} {fi ac : Int} {dd : Nat → Int → Int} {kp ik : Int → Int} {N : Int} {w c k : Int} (h : zCm E H r a n tx G fi ac dd kp ik) (hOK : cOK n tx G fi ac dd kp ik N) (hzw : zR w) (hzc : zR c) (hzk : zR k) : zC E yX5_failed cX5_failed 5 (some .int) 7 189 [.ref (a 1200), .int (iI w), .int (iI c), .int (iI k)] H 13566 277336 (zRi (sFs k.toNat G w c) (fun H1 => cFd w c k = 0 ∧ zCp E H r a n tx G fi ac dd kp ik H1)) (zXc (cFd w c k) xB xA "" H) := by
  refine zC.of2 (by decide) (Nat.le_of_ble_eq_true rfl) hst ?_
  intro x O hE hpo hpx hH
  subst hE
  change zG x H 0 0 0 [(0, .ref (a 1200)), (1, .int (iI w)), (2, .int (iI c)), (3, .int (iI k))] []
  have hOK9 := hOK
  obtain ⟨nx, fl, F, sf, KS, hfw, hhr, hkr⟩ := id h
  obtain ⟨fO, fT, fcap, fS, ⟨S, fC⟩, fH, fQ, fL, fZ⟩ := id hfw
  obtain ⟨⟨hn, hx, hG, hN, hfi, hac, hik⟩, hdd, hkk⟩ := hOK
  refine z_aload_n 0 O dX5_failed_0 rfl ?_
  refine z_iload_n 1 O dX5_failed_1 rfl ?_
  by_cases hd1 : 0 ≤ w ∧ w ≤ 2
  · skip
    have hw : 0 ≤ w ∧ w ≤ 2 := hd1
    refine z_Vr [.int (iI w)] [] kM_X5_140 O dX5_failed_2 (c_X5_existingWorkerY hst fO fS hG hzw hw) rfl rfl fO.1 (by decide) (Nat.le_of_ble_eq_true rfl) (by omega) (by omega) (Nat.le_of_ble_eq_true rfl) zNx ?_
    refine z_pop O dX5_failed_5 rfl ?_
    refine z_iload_n 2 O dX5_failed_6 rfl ?_
    by_cases hd2 : 0 ≤ c ∧ c ≤ 15
    · skip
      refine z_Sv [.int (iI c)] [] kM_X5_126 O dX5_failed_7 (c_X5_requireCellY hst hzc hd2) rfl rfl (by decide) (Nat.le_of_ble_eq_true rfl) (by omega) (by omega) (Nat.le_of_ble_eq_true rfl) zNx ?_
      refine z_iload_n 3 O dX5_failed_10 rfl ?_
      refine z_if_lt 19 O dX5_failed_11 (by decide) ⟨by omega, by omega⟩ (fun c_11 => ?_) (fun c_11 => ?_)
      · skip
        exact z_throwX kT_43_219_47 O dX5_failed_19 dX5_failed_22 dX5_failed_23 dX5_failed_25 dX5_failed_28 (by decide) (Nat.le_of_ble_eq_true rfl) (by omega) (by omega) (fun H1 hs1 hz1 hz2 => by rw [hH] at hz1 hz2; rw [hpx]; exact ⟨Or.inr (Or.inl ⟨(by unfold cFd; (repeat first | rw [if_pos (by omega)] | rw [if_neg (by omega)])), rfl⟩), hs1, hz1, hz2⟩)
      · skip
        refine z_iload_n 3 O dX5_failed_14 rfl ?_
        refine z_iconst 5 O dX5_failed_15 (by decide +kernel) ?_
        refine z_icmp_le 29 O dX5_failed_16 (by decide) ⟨by omega, by omega⟩ ⟨by omega, by omega⟩ (fun c_16 => ?_) (fun c_16 => ?_)
        · skip
          refine z_aload_n 0 O dX5_failed_29 rfl ?_
          refine z_getf kF_X5_25 O dX5_failed_30 fO.1 rfl ?_
          refine z_aload_n 0 O dX5_failed_33 rfl ?_
          refine z_getf kF_X5_21 O dX5_failed_34 fO.1 rfl ?_
          obtain ⟨hsO3, _⟩ := id fC
          refine z_Vvm [.ref (a 0)] [] kM_X5_221 O dX5_failed_37 (c_X2_copyFrom hst fC fS hG (by decide)) rfl rfl hsO3.1 (by decide) (Nat.le_of_ble_eq_true rfl) (by omega) (by omega) (Nat.le_of_ble_eq_true rfl) zNx (fun H4 hp5 hz6 => ?_)
          obtain ⟨r7, hf8, fC9, hmo10⟩ := hp5
          have fO11 := fO.fr hf8 (by first | exact (fun h => h) | exact zT1 (by omega) | (show ¬ (_ ∨ _); omega) | (show ¬ (_ ∧ _); omega))
          have fT12 := fT.fr hf8 (by first | exact (fun h => h) | exact zT1 (by omega) | (show ¬ (_ ∨ _); omega) | (show ¬ (_ ∧ _); omega)) (by first | exact (fun h => h) | exact zT1 (by omega) | (show ¬ (_ ∨ _); omega) | (show ¬ (_ ∧ _); omega))
          have fS13 := fS.fr hf8 (fun s h1 h2 => by first | exact (fun h => h) | exact zT1 (by omega) | (show ¬ (_ ∨ _); omega) | (show ¬ (_ ∧ _); omega) | (show ¬ (_ < _); omega))
          have fH14 := fH.fr hf8 (fun s h1 => by first | exact (fun h => h) | exact zT1 (by omega) | (show ¬ (_ ∨ _); omega) | (show ¬ (_ ∧ _); omega) | (show ¬ (_ < _); omega))
          have fQ15 := fQ.fr hf8 (by first | exact (fun h => h) | exact zT1 (by omega) | (show ¬ (_ ∨ _); omega) | (show ¬ (_ ∧ _); omega))
          have fL16 := fL.fr hf8 (fun s h1 h2 => by first | exact (fun h => h) | exact zT1 (by omega) | (show ¬ (_ ∨ _); omega) | (show ¬ (_ ∧ _); omega) | (show ¬ (_ < _); omega))
          have fZ17 := fZ.fr hf8 (by first | exact (fun h => h) | exact zT1 (by omega) | (show ¬ (_ ∨ _); omega) | (show ¬ (_ ∧ _); omega))
          have fcap18 := (hf8.2.2.2 1203 (by first | exact (fun h => h) | exact zT1 (by omega) | (show ¬ (_ ∨ _); omega) | (show ¬ (_ ∧ _); omega))).trans fcap
          have hp0 := zPh_le (t := 0) hmo10
          have hp6 := zPh_le (t := 64) hmo10
          refine z_meter (fun hb1 hb2 => ?_)
          rw [hH] at hb1 hb2
          refine z_iconst 0 O dX5_failed_40 (by decide +kernel) ?_
          refine z_istore [(4, .int (iI 0)), (0, .ref (a 1200)), (1, .int (iI w)), (2, .int (iI c)), (3, .int (iI k))] O dX5_failed_41 (by decide) rfl ?_
          have loop43 : ∀ (d : Nat) (i : Int) (K : Int → Int) (H' : Heap) (r' : zH), (0 ≤ i) → (i + (d : Int) = k) → (sW K N) → (sFs d K w = sFs k.toNat G w) → (H'.size + zPs r ≤ H.size + zPs r' + 14) → (zSz H' + 20 * zPs r ≤ zSz H + 20 * zPs r' + 6296) → (r'.2 1203 = 120) → (zFr H r H' r' (fun s => s < 1300)) → (zO (zEn x) H' r' 1200 (a 1200) 5 [.ref (a 1202), .ref (a 0), .ref (a 64), .ref (a 1204), .ref (a 1206), .ref (a 1207)]) → (zRow (zEn x) H' r' 1202 (a 1202) 120 n tx) → (zSt (zEn x) H' r' a 0 G) → (zSt (zEn x) H' r' a 64 K) → (zHy (zEn x) H' r' a nx ac fl F) → (zQr (zEn x) H' r' 1206 (a 1206) 2 2 (zOp sf (fun i => a (1024 + 64 * i.toNat)))) → (zSl (zEn x) H' r' a sf KS) → (zZ (zEn x) H' r' 1207 (a 1207) 2 ik) → zG x H' (14 + (zPs r' - zPs r)) (6296 + 20 * (zPs r' - zPs r)) 43 [(4, .int (iI i)), (0, .ref (a 1200)), (1, .int (iI w)), (2, .int (iI c)), (3, .int (iI k))] [] := by
            intro d
            induction d with
            | zero =>
              intro i K H' r' hi0 hid hKG hRR hs1 hs2 fcap' hf' y0' y1' y2' y3' y4' y5' y6' y7'
              refine z_iload 0 O dX5_failed_43 rfl ?_
              refine z_iload_n 4 O dX5_failed_45 rfl ?_
              refine z_icmp_ge 67 O dX5_failed_46 (by decide) ⟨by omega, by omega⟩ ⟨by omega, by omega⟩ (fun c_46 => ?_) (fun c_46 => ?_)
              · skip
                have hb0 := y2'.ph
                have hb6 := y3'.ph
                have hbs : zPs r' ≤ 12528 := by unfold zPs; omega
                refine z_aload_n 1 O dX5_failed_67 rfl ?_
                refine z_getf kF_X5_25 O dX5_failed_68 y0'.1 rfl ?_
                obtain ⟨hO19, _⟩ := id y3'
                refine z_getf kF_X5_129 O dX5_failed_71 hO19.1 rfl ?_
                refine z_iload_n 3 O dX5_failed_74 rfl ?_
                obtain ⟨it20, hRo21⟩ := y3'.2.2.1.o
                refine z_Vi [.int (iI c)] [] kM_X5_66 O dX5_failed_75 (c_X1_get hst y3'.2.2.1 ⟨by omega, by omega⟩) rfl rfl hRo21.1 (by decide) (Nat.le_of_ble_eq_true rfl) (by omega) (by omega) (Nat.le_of_ble_eq_true rfl) zNx ?_
                rw [show zRg 16 K c = K c from (by unfold zRg; exact if_pos ⟨by omega, by omega⟩)]
                have hgv : zGv H r H' r' := by unfold zGv; omega
                exact z_ireti O dX5_failed_78 rfl (by omega) (by omega) hpo (by rw [show K = sFs k.toNat G w from hRR]) (⟨(by unfold cFd; (repeat first | rw [if_pos (by omega)] | rw [if_neg (by omega)])), r', a, rfl, (hf'.up (fun s h => by first | exact h.elim | (show _ < _; omega) | omega | (simp at h ⊢; omega))), hgv, nx, fl, F, sf, KS, (zFw.mk (fun _ _ => rfl) y0' y1' fcap' y2' y3' y4' y5' y6' y7'), hhr, hkr⟩)
              · exfalso; omega
            | succ d ih =>
              intro i K H' r' hi0 hid hKG hRR hs1 hs2 fcap' hf' y0' y1' y2' y3' y4' y5' y6' y7'
              refine z_iload 0 O dX5_failed_43 rfl ?_
              refine z_iload_n 4 O dX5_failed_45 rfl ?_
              refine z_icmp_ge 67 O dX5_failed_46 (by decide) ⟨by omega, by omega⟩ ⟨by omega, by omega⟩ (fun c_46 => ?_) (fun c_46 => ?_)
              · exfalso; omega
              · skip
                refine z_aload_n 1 O dX5_failed_49 rfl ?_
                refine z_getf kF_X5_25 O dX5_failed_50 y0'.1 rfl ?_
                refine z_iconst 2 O dX5_failed_53 (by decide +kernel) ?_
                refine z_iload_n 2 O dX5_failed_54 rfl ?_
                refine z_iconst 0 O dX5_failed_55 (by decide +kernel) ?_
                refine z_iconst 0 O dX5_failed_56 (by decide +kernel) ?_
                have hb0 := y2'.ph
                have hb6 := y3'.ph
                have hbs : zPs r' ≤ 12528 := by unfold zPs; omega
                obtain ⟨hO22, _⟩ := id y3'
                refine z_Vim [.int (iI 2), .int (iI w), .int (iI 0), .int (iI 0)] [] kM_X5_224 O dX5_failed_57 (c_X2_attempt hst y3' hKG hN hzw (by decide) ⟨by omega, by omega⟩ ⟨by omega, by omega⟩) rfl rfl hO22.1 (by decide) (Nat.le_of_ble_eq_true rfl) (by omega) (by omega) (Nat.le_of_ble_eq_true rfl) zNx (fun H23 hp24 hz25 => ?_)
                obtain ⟨r26, hf27, hg28, fC29⟩ := hp24
                have y0'30 := y0'.fr hf27 (by first | exact (fun h => h) | exact zT1 (by omega) | (show ¬ (_ ∨ _); omega) | (show ¬ (_ ∧ _); omega))
                have y1'31 := y1'.fr hf27 (by first | exact (fun h => h) | exact zT1 (by omega) | (show ¬ (_ ∨ _); omega) | (show ¬ (_ ∧ _); omega)) (by first | exact (fun h => h) | exact zT1 (by omega) | (show ¬ (_ ∨ _); omega) | (show ¬ (_ ∧ _); omega))
                have y2'32 := y2'.fr hf27 (fun s h1 h2 => by first | exact (fun h => h) | exact zT1 (by omega) | (show ¬ (_ ∨ _); omega) | (show ¬ (_ ∧ _); omega) | (show ¬ (_ < _); omega))
                have y4'33 := y4'.fr hf27 (fun s h1 => by first | exact (fun h => h) | exact zT1 (by omega) | (show ¬ (_ ∨ _); omega) | (show ¬ (_ ∧ _); omega) | (show ¬ (_ < _); omega))
                have y5'34 := y5'.fr hf27 (by first | exact (fun h => h) | exact zT1 (by omega) | (show ¬ (_ ∨ _); omega) | (show ¬ (_ ∧ _); omega))
                have y6'35 := y6'.fr hf27 (fun s h1 h2 => by first | exact (fun h => h) | exact zT1 (by omega) | (show ¬ (_ ∨ _); omega) | (show ¬ (_ ∧ _); omega) | (show ¬ (_ < _); omega))
                have y7'36 := y7'.fr hf27 (by first | exact (fun h => h) | exact zT1 (by omega) | (show ¬ (_ ∨ _); omega) | (show ¬ (_ ∧ _); omega))
                have fcap37 := (hf27.2.2.2 1203 (by first | exact (fun h => h) | exact zT1 (by omega) | (show ¬ (_ ∨ _); omega) | (show ¬ (_ ∧ _); omega))).trans fcap'
                have hg1 := hg28.1
                have hg2 := hg28.2
                have hq0 := zPh_fr (t := 0) hf27 (fun s p q => by show ¬ (_ ∧ _); omega)
                refine z_pop O dX5_failed_60 rfl ?_
                refine z_iinc 0 [(4, .int (iI (i + 1))), (0, .ref (a 1200)), (1, .int (iI w)), (2, .int (iI c)), (3, .int (iI k))] O dX5_failed_61 (by decide) rfl rfl ?_
                refine z_goto 43 O dX5_failed_64 (by decide) ?_
                have hs3 : H23.size + zPs r ≤ H.size + zPs r26 + 14 := by unfold zPs at *; omega
                have hs4 : zSz H23 + 20 * zPs r ≤ zSz H + 20 * zPs r26 + 6296 := by unfold zPs at *; omega
                refine z_tight (a' := 14 + (zPs r26 - zPs r)) (b' := 6296 + 20 * (zPs r26 - zPs r)) (by rw [hH]; omega) (by rw [hH]; omega) ?_
                have hK9 : sW (atR K 2 w 0 0) N := by rw [at_fail hw]; split; (· next q => exact hKG.fail hw q); (· exact hKG)
                have hR9 : sFs d (atR K 2 w 0 0) w = sFs k.toNat G w := by rw [← hRR, at_fail hw]; show _ = (if 0 < K (at_ w 0) then sFs d (sFail K w) w else K); by_cases q : 0 < K (at_ w 0); (· rw [if_pos q, if_pos q]); (· rw [if_neg q, if_neg q]; exact sFs_0 q d)
                exact ih (i + 1) (atR K 2 w 0 0) H23 r26 (by omega) (by omega) hK9 hR9 hs3 hs4 fcap37 (((hf'.up (fun s h => by first | exact h.elim | (show _ < _; omega) | omega | (simp at h ⊢; omega)))).tr (hf27.up (fun s h => by first | exact h.elim | (show _ < _; omega) | omega | (simp at h ⊢; omega)))) y0'30 y1'31 y2'32 fC29 y4'33 y5'34 y6'35 y7'36
          have hs3 : H4.size + zPs r ≤ H.size + zPs r7 + 14 := by unfold zPs; omega
          have hs4 : zSz H4 + 20 * zPs r ≤ zSz H + 20 * zPs r7 + 6296 := by unfold zPs; omega
          refine z_tight (a' := 14 + (zPs r7 - zPs r)) (b' := 6296 + 20 * (zPs r7 - zPs r)) (by rw [hH]; omega) (by rw [hH]; omega) ?_
          exact loop43 k.toNat 0 G H4 r7 (by omega) (by omega) hG rfl hs3 hs4 fcap18 (hf8.up (fun s h => by first | exact h.elim | (show _ < _; omega) | omega | (simp at h ⊢; omega))) fO11 fT12 fS13 fC9 fH14 fQ15 fL16 fZ17
        · skip
          exact z_throwX kT_43_219_47 O dX5_failed_19 dX5_failed_22 dX5_failed_23 dX5_failed_25 dX5_failed_28 (by decide) (Nat.le_of_ble_eq_true rfl) (by omega) (by omega) (fun H1 hs1 hz1 hz2 => by rw [hH] at hz1 hz2; rw [hpx]; exact ⟨Or.inr (Or.inl ⟨(by unfold cFd; (repeat first | rw [if_pos (by omega)] | rw [if_neg (by omega)])), rfl⟩), hs1, hz1, hz2⟩)
    · skip
      exact z_Svm [.int (iI c)] [] kM_X5_126 O dX5_failed_7 ((c_X5_requireCellN hst hzc hd2).to (post' := zRv (fun _ => False)) (fun _ _ hh => hh.elim) (fun _ _ hh => hh)) rfl rfl (by decide) (Nat.le_of_ble_eq_true rfl) (by omega) (by omega) (Nat.le_of_ble_eq_true rfl) (fun X H1 hh => by rw [hpx]; exact ⟨Or.inl ⟨(by unfold cFd; (repeat first | rw [if_pos (by omega)] | rw [if_neg (by omega)])), hh.1⟩, hh.2⟩) (fun H1 hp hz => hp.elim)
  · skip
    exact z_Vrm [.int (iI w)] [] kM_X5_140 O dX5_failed_2 ((c_X5_existingWorkerN hst fO fS hG hzw hd1).to (post' := zRr none (fun _ => False)) (fun _ _ hh => hh.elim) (fun _ _ hh => hh)) rfl rfl fO.1 (by decide) (Nat.le_of_ble_eq_true rfl) (by omega) (by omega) (Nat.le_of_ble_eq_true rfl) (fun X H1 hh => by rw [hpx]; exact ⟨Or.inl ⟨(by unfold cFd; (repeat first | rw [if_pos (by omega)] | rw [if_neg (by omega)])), hh.1⟩, hh.2⟩) (fun H1 hp hz => hp.elim)

