/-! the class: its actions (written by program: wip/whole/gen/class16.py) -/
theorem c_X5_begin {E : zE} (hst : E.1.stackTraces = false) {H : Heap} {r : zH} {a : Nat → Nat} {n : Int} {tx G : Int → Int} {fi ac : Int} {dd : Nat → Int → Int} {kp ik : Int → Int} {N : Int} {w : Int} (h : zCm E H r a n tx G fi ac dd kp ik) (hOK : cOK n tx G fi ac dd kp ik N) (hzw : zR w) : zC E yX5_begin cX5_begin 2 (some .int) 7 188 [.ref (a 1200), .int (iI w)] H 1089 27157 (zRi (sBegin G w (at_ w 0)) (fun H1 => cBe G w = 0 ∧ zCp E H r a n tx (sBegin G w) (mFi fi ac) (mAc ac) (zDw dd (mIx fi ac) G) kp ik H1)) (zXc (cBe G w) xB xS "" H) := by
  refine zC.of2 (by decide) (Nat.le_of_ble_eq_true rfl) hst ?_
  intro x O hE hpo hpx hH
  subst hE
  change zG x H 0 0 0 [(0, .ref (a 1200)), (1, .int (iI w))] []
  have hOK9 := hOK
  obtain ⟨nx, fl, F, sf, KS, hfw, hhr, hkr⟩ := id h
  obtain ⟨fO, fT, fcap, fS, ⟨S, fC⟩, fH, fQ, fL, fZ⟩ := id hfw
  obtain ⟨⟨hn, hx, hG, hN, hfi, hac, hik⟩, hdd, hkk⟩ := hOK
  refine z_aload_n 0 O dX5_begin_0 rfl ?_
  refine z_iconst 0 O dX5_begin_1 (by decide +kernel) ?_
  refine z_aload_n 0 O dX5_begin_2 rfl ?_
  refine z_iload_n 1 O dX5_begin_3 rfl ?_
  by_cases hd1 : 0 ≤ w ∧ w ≤ 2
  · skip
    have hw : 0 ≤ w ∧ w ≤ 2 := hd1
    refine z_Vr [.int (iI w)] [.int (iI 0), .ref (a 1200)] kM_X5_140 O dX5_begin_4 (c_X5_existingWorkerY hst fO fS hG hzw hw) rfl rfl fO.1 (by decide) (Nat.le_of_ble_eq_true rfl) (by omega) (by omega) (Nat.le_of_ble_eq_true rfl) zNx ?_
    refine z_iconst 0 O dX5_begin_7 (by decide +kernel) ?_
    refine z_iconst 0 O dX5_begin_8 (by decide +kernel) ?_
    by_cases hd2 : sCb G w = true
    · skip
      refine z_Vim [.int (iI 0), .ref (a (0 + 6 + 16 * w.toNat)), .int (iI 0), .int (iI 0)] [] kM_X5_184 O dX5_begin_9 (by have c9 := c_X5_actY hst h hOK9 hw (k := 0) (u := 0) (v := 0) (by omega) ⟨by omega, by omega⟩ ⟨by omega, by omega⟩ hd2; rw [show opD G 0 w 0 0 = sBegin G w from rfl, show vlD G 0 w 0 0 = sBegin G w (at_ w 0) from (sBegin_at hw.1 ⟨(hG.m hw).1, (sCb_t.mp hd2).1⟩).1.symm] at c9; exact c9) rfl rfl fO.1 (by decide) (Nat.le_of_ble_eq_true rfl) (by omega) (by omega) (Nat.le_of_ble_eq_true rfl) zNx (fun H3 hp4 hz5 => ?_)
      exact z_ireti O dX5_begin_12 rfl (by omega) (by omega) hpo (by rfl) (⟨(by unfold cBe; (repeat first | rw [if_pos (by omega)] | rw [if_neg (by omega)] | rw [if_pos hd2])), hp4⟩)
    · skip
      exact z_Vim [.int (iI 0), .ref (a (0 + 6 + 16 * w.toNat)), .int (iI 0), .int (iI 0)] [] kM_X5_184 O dX5_begin_9 (((c_X5_actN hst h hOK9 hw (k := 0) (u := 0) (v := 0) (by omega) ⟨by omega, by omega⟩ ⟨by omega, by omega⟩ (Bool.eq_false_iff.mpr hd2))).to (post' := zRi 0 (fun _ => False)) (fun _ _ hh => hh.elim) (fun _ _ hh => hh)) rfl rfl fO.1 (by decide) (Nat.le_of_ble_eq_true rfl) (by omega) (by omega) (Nat.le_of_ble_eq_true rfl) (fun X H1 hh => by rw [hpx]; exact ⟨Or.inr (Or.inl ⟨(by unfold cBe; (repeat first | rw [if_pos (by omega)] | rw [if_neg (by omega)] | rw [if_neg hd2])), hh.1⟩), hh.2⟩) (fun H1 hp hz => hp.elim)
  · skip
    exact z_Vrm [.int (iI w)] [.int (iI 0), .ref (a 1200)] kM_X5_140 O dX5_begin_4 ((c_X5_existingWorkerN hst fO fS hG hzw hd1).to (post' := zRr none (fun _ => False)) (fun _ _ hh => hh.elim) (fun _ _ hh => hh)) rfl rfl fO.1 (by decide) (Nat.le_of_ble_eq_true rfl) (by omega) (by omega) (Nat.le_of_ble_eq_true rfl) (fun X H1 hh => by rw [hpx]; exact ⟨Or.inl ⟨(by unfold cBe; (repeat first | rw [if_pos (by omega)] | rw [if_neg (by omega)])), hh.1⟩, hh.2⟩) (fun H1 hp hz => hp.elim)

theorem c_X5_point {E : zE} (hst : E.1.stackTraces = false) {H : Heap} {r : zH} {a : Nat → Nat} {n : Int} {tx G : Int → Int} {fi ac : Int} {dd : Nat → Int → Int} {kp ik : Int → Int} {N : Int} {w : Int} (h : zCm E H r a n tx G fi ac dd kp ik) (hOK : cOK n tx G fi ac dd kp ik N) (hzw : zR w) : zC E yX5_point cX5_point 2 (some .int) 7 188 [.ref (a 1200), .int (iI w)] H 1089 27157 (zRi (G (sIn G w 2)) (fun H1 => cPo G w = 0 ∧ zCp E H r a n tx (sPoint G w) (mFi fi ac) (mAc ac) (zDw dd (mIx fi ac) G) kp ik H1)) (zXc (cPo G w) xB xS "" H) := by
  refine zC.of2 (by decide) (Nat.le_of_ble_eq_true rfl) hst ?_
  intro x O hE hpo hpx hH
  subst hE
  change zG x H 0 0 0 [(0, .ref (a 1200)), (1, .int (iI w))] []
  have hOK9 := hOK
  obtain ⟨nx, fl, F, sf, KS, hfw, hhr, hkr⟩ := id h
  obtain ⟨fO, fT, fcap, fS, ⟨S, fC⟩, fH, fQ, fL, fZ⟩ := id hfw
  obtain ⟨⟨hn, hx, hG, hN, hfi, hac, hik⟩, hdd, hkk⟩ := hOK
  refine z_aload_n 0 O dX5_point_0 rfl ?_
  refine z_iconst 3 O dX5_point_1 (by decide +kernel) ?_
  refine z_aload_n 0 O dX5_point_2 rfl ?_
  refine z_iload_n 1 O dX5_point_3 rfl ?_
  by_cases hd1 : 0 ≤ w ∧ w ≤ 2
  · skip
    have hw : 0 ≤ w ∧ w ≤ 2 := hd1
    refine z_Vr [.int (iI w)] [.int (iI 3), .ref (a 1200)] kM_X5_140 O dX5_point_4 (c_X5_existingWorkerY hst fO fS hG hzw hw) rfl rfl fO.1 (by decide) (Nat.le_of_ble_eq_true rfl) (by omega) (by omega) (Nat.le_of_ble_eq_true rfl) zNx ?_
    refine z_iconst 0 O dX5_point_7 (by decide +kernel) ?_
    refine z_iconst 0 O dX5_point_8 (by decide +kernel) ?_
    by_cases hd2 : sCp G w = true
    · skip
      refine z_Vim [.int (iI 3), .ref (a (0 + 6 + 16 * w.toNat)), .int (iI 0), .int (iI 0)] [] kM_X5_184 O dX5_point_9 (by have c9 := c_X5_actY hst h hOK9 hw (k := 3) (u := 0) (v := 0) (by omega) ⟨by omega, by omega⟩ ⟨by omega, by omega⟩ hd2; rw [show opD G 3 w 0 0 = sPoint G w from rfl, show vlD G 3 w 0 0 = G (sIn G w 2) from rfl] at c9; exact c9) rfl rfl fO.1 (by decide) (Nat.le_of_ble_eq_true rfl) (by omega) (by omega) (Nat.le_of_ble_eq_true rfl) zNx (fun H3 hp4 hz5 => ?_)
      exact z_ireti O dX5_point_12 rfl (by omega) (by omega) hpo (by rfl) (⟨(by unfold cPo; (repeat first | rw [if_pos (by omega)] | rw [if_neg (by omega)] | rw [if_pos hd2])), hp4⟩)
    · skip
      exact z_Vim [.int (iI 3), .ref (a (0 + 6 + 16 * w.toNat)), .int (iI 0), .int (iI 0)] [] kM_X5_184 O dX5_point_9 (((c_X5_actN hst h hOK9 hw (k := 3) (u := 0) (v := 0) (by omega) ⟨by omega, by omega⟩ ⟨by omega, by omega⟩ (Bool.eq_false_iff.mpr hd2))).to (post' := zRi 0 (fun _ => False)) (fun _ _ hh => hh.elim) (fun _ _ hh => hh)) rfl rfl fO.1 (by decide) (Nat.le_of_ble_eq_true rfl) (by omega) (by omega) (Nat.le_of_ble_eq_true rfl) (fun X H1 hh => by rw [hpx]; exact ⟨Or.inr (Or.inl ⟨(by unfold cPo; (repeat first | rw [if_pos (by omega)] | rw [if_neg (by omega)] | rw [if_neg hd2])), hh.1⟩), hh.2⟩) (fun H1 hp hz => hp.elim)
  · skip
    exact z_Vrm [.int (iI w)] [.int (iI 3), .ref (a 1200)] kM_X5_140 O dX5_point_4 ((c_X5_existingWorkerN hst fO fS hG hzw hd1).to (post' := zRr none (fun _ => False)) (fun _ _ hh => hh.elim) (fun _ _ hh => hh)) rfl rfl fO.1 (by decide) (Nat.le_of_ble_eq_true rfl) (by omega) (by omega) (Nat.le_of_ble_eq_true rfl) (fun X H1 hh => by rw [hpx]; exact ⟨Or.inl ⟨(by unfold cPo; (repeat first | rw [if_pos (by omega)] | rw [if_neg (by omega)])), hh.1⟩, hh.2⟩) (fun H1 hp hz => hp.elim)

theorem c_X5_done {E : zE} (hst : E.1.stackTraces = false) {H : Heap} {r : zH} {a : Nat → Nat} {n : Int} {tx G : Int → Int} {fi ac : Int} {dd : Nat → Int → Int} {kp ik : Int → Int} {N : Int} {w : Int} (h : zCm E H r a n tx G fi ac dd kp ik) (hOK : cOK n tx G fi ac dd kp ik N) (hzw : zR w) : zC E yX5_done cX5_done 2 (some .int) 7 188 [.ref (a 1200), .int (iI w)] H 1089 27157 (zRi (G (at_ w 0) - 1) (fun H1 => cDo G w = 0 ∧ zCp E H r a n tx (sDone G w) (mFi fi ac) (mAc ac) (zDw dd (mIx fi ac) G) kp ik H1)) (zXc (cDo G w) xB xS "" H) := by
  refine zC.of2 (by decide) (Nat.le_of_ble_eq_true rfl) hst ?_
  intro x O hE hpo hpx hH
  subst hE
  change zG x H 0 0 0 [(0, .ref (a 1200)), (1, .int (iI w))] []
  have hOK9 := hOK
  obtain ⟨nx, fl, F, sf, KS, hfw, hhr, hkr⟩ := id h
  obtain ⟨fO, fT, fcap, fS, ⟨S, fC⟩, fH, fQ, fL, fZ⟩ := id hfw
  obtain ⟨⟨hn, hx, hG, hN, hfi, hac, hik⟩, hdd, hkk⟩ := hOK
  refine z_aload_n 0 O dX5_done_0 rfl ?_
  refine z_iconst 1 O dX5_done_1 (by decide +kernel) ?_
  refine z_aload_n 0 O dX5_done_2 rfl ?_
  refine z_iload_n 1 O dX5_done_3 rfl ?_
  by_cases hd1 : 0 ≤ w ∧ w ≤ 2
  · skip
    have hw : 0 ≤ w ∧ w ≤ 2 := hd1
    refine z_Vr [.int (iI w)] [.int (iI 1), .ref (a 1200)] kM_X5_140 O dX5_done_4 (c_X5_existingWorkerY hst fO fS hG hzw hw) rfl rfl fO.1 (by decide) (Nat.le_of_ble_eq_true rfl) (by omega) (by omega) (Nat.le_of_ble_eq_true rfl) zNx ?_
    refine z_iconst 0 O dX5_done_7 (by decide +kernel) ?_
    refine z_iconst 0 O dX5_done_8 (by decide +kernel) ?_
    by_cases hd2 : sOp G w = true
    · skip
      refine z_Vim [.int (iI 1), .ref (a (0 + 6 + 16 * w.toNat)), .int (iI 0), .int (iI 0)] [] kM_X5_184 O dX5_done_9 (by have c9 := c_X5_actY hst h hOK9 hw (k := 1) (u := 0) (v := 0) (by omega) ⟨by omega, by omega⟩ ⟨by omega, by omega⟩ hd2; rw [show opD G 1 w 0 0 = sDone G w from rfl, show vlD G 1 w 0 0 = G (at_ w 0) - 1 from rfl] at c9; exact c9) rfl rfl fO.1 (by decide) (Nat.le_of_ble_eq_true rfl) (by omega) (by omega) (Nat.le_of_ble_eq_true rfl) zNx (fun H3 hp4 hz5 => ?_)
      exact z_ireti O dX5_done_12 rfl (by omega) (by omega) hpo (by rfl) (⟨(by unfold cDo; (repeat first | rw [if_pos (by omega)] | rw [if_neg (by omega)] | rw [if_pos hd2])), hp4⟩)
    · skip
      exact z_Vim [.int (iI 1), .ref (a (0 + 6 + 16 * w.toNat)), .int (iI 0), .int (iI 0)] [] kM_X5_184 O dX5_done_9 (((c_X5_actN hst h hOK9 hw (k := 1) (u := 0) (v := 0) (by omega) ⟨by omega, by omega⟩ ⟨by omega, by omega⟩ (Bool.eq_false_iff.mpr hd2))).to (post' := zRi 0 (fun _ => False)) (fun _ _ hh => hh.elim) (fun _ _ hh => hh)) rfl rfl fO.1 (by decide) (Nat.le_of_ble_eq_true rfl) (by omega) (by omega) (Nat.le_of_ble_eq_true rfl) (fun X H1 hh => by rw [hpx]; exact ⟨Or.inr (Or.inl ⟨(by unfold cDo; (repeat first | rw [if_pos (by omega)] | rw [if_neg (by omega)] | rw [if_neg hd2])), hh.1⟩), hh.2⟩) (fun H1 hp hz => hp.elim)
  · skip
    exact z_Vrm [.int (iI w)] [.int (iI 1), .ref (a 1200)] kM_X5_140 O dX5_done_4 ((c_X5_existingWorkerN hst fO fS hG hzw hd1).to (post' := zRr none (fun _ => False)) (fun _ _ hh => hh.elim) (fun _ _ hh => hh)) rfl rfl fO.1 (by decide) (Nat.le_of_ble_eq_true rfl) (by omega) (by omega) (Nat.le_of_ble_eq_true rfl) (fun X H1 hh => by rw [hpx]; exact ⟨Or.inl ⟨(by unfold cDo; (repeat first | rw [if_pos (by omega)] | rw [if_neg (by omega)])), hh.1⟩, hh.2⟩) (fun H1 hp hz => hp.elim)

theorem c_X5_fail {E : zE} (hst : E.1.stackTraces = false) {H : Heap} {r : zH} {a : Nat → Nat} {n : Int} {tx G : Int → Int} {fi ac : Int} {dd : Nat → Int → Int} {kp ik : Int → Int} {N : Int} {w : Int} (h : zCm E H r a n tx G fi ac dd kp ik) (hOK : cOK n tx G fi ac dd kp ik N) (hzw : zR w) : zC E yX5_fail cX5_fail 2 (some .int) 7 188 [.ref (a 1200), .int (iI w)] H 1089 27157 (zRi (sFailR G w) (fun H1 => cFa G w = 0 ∧ zCp E H r a n tx (sFail G w) (mFi fi ac) (mAc ac) (zDw dd (mIx fi ac) G) kp ik H1)) (zXc (cFa G w) xB xS "" H) := by
  refine zC.of2 (by decide) (Nat.le_of_ble_eq_true rfl) hst ?_
  intro x O hE hpo hpx hH
  subst hE
  change zG x H 0 0 0 [(0, .ref (a 1200)), (1, .int (iI w))] []
  have hOK9 := hOK
  obtain ⟨nx, fl, F, sf, KS, hfw, hhr, hkr⟩ := id h
  obtain ⟨fO, fT, fcap, fS, ⟨S, fC⟩, fH, fQ, fL, fZ⟩ := id hfw
  obtain ⟨⟨hn, hx, hG, hN, hfi, hac, hik⟩, hdd, hkk⟩ := hOK
  refine z_aload_n 0 O dX5_fail_0 rfl ?_
  refine z_iconst 2 O dX5_fail_1 (by decide +kernel) ?_
  refine z_aload_n 0 O dX5_fail_2 rfl ?_
  refine z_iload_n 1 O dX5_fail_3 rfl ?_
  by_cases hd1 : 0 ≤ w ∧ w ≤ 2
  · skip
    have hw : 0 ≤ w ∧ w ≤ 2 := hd1
    refine z_Vr [.int (iI w)] [.int (iI 2), .ref (a 1200)] kM_X5_140 O dX5_fail_4 (c_X5_existingWorkerY hst fO fS hG hzw hw) rfl rfl fO.1 (by decide) (Nat.le_of_ble_eq_true rfl) (by omega) (by omega) (Nat.le_of_ble_eq_true rfl) zNx ?_
    refine z_iconst 0 O dX5_fail_7 (by decide +kernel) ?_
    refine z_iconst 0 O dX5_fail_8 (by decide +kernel) ?_
    by_cases hd2 : 0 < G (at_ w 0)
    · skip
      refine z_Vim [.int (iI 2), .ref (a (0 + 6 + 16 * w.toNat)), .int (iI 0), .int (iI 0)] [] kM_X5_184 O dX5_fail_9 (by have c9 := c_X5_actY hst h hOK9 hw (k := 2) (u := 0) (v := 0) (by omega) ⟨by omega, by omega⟩ ⟨by omega, by omega⟩ (decide_eq_true hd2); rw [show opD G 2 w 0 0 = sFail G w from rfl, show vlD G 2 w 0 0 = sFailR G w from rfl] at c9; exact c9) rfl rfl fO.1 (by decide) (Nat.le_of_ble_eq_true rfl) (by omega) (by omega) (Nat.le_of_ble_eq_true rfl) zNx (fun H3 hp4 hz5 => ?_)
      exact z_ireti O dX5_fail_12 rfl (by omega) (by omega) hpo (by rfl) (⟨(by unfold cFa; (repeat first | rw [if_pos (by omega)] | rw [if_neg (by omega)] | rw [if_pos hd2])), hp4⟩)
    · skip
      exact z_Vim [.int (iI 2), .ref (a (0 + 6 + 16 * w.toNat)), .int (iI 0), .int (iI 0)] [] kM_X5_184 O dX5_fail_9 (((c_X5_actN hst h hOK9 hw (k := 2) (u := 0) (v := 0) (by omega) ⟨by omega, by omega⟩ ⟨by omega, by omega⟩ (decide_eq_false hd2))).to (post' := zRi 0 (fun _ => False)) (fun _ _ hh => hh.elim) (fun _ _ hh => hh)) rfl rfl fO.1 (by decide) (Nat.le_of_ble_eq_true rfl) (by omega) (by omega) (Nat.le_of_ble_eq_true rfl) (fun X H1 hh => by rw [hpx]; exact ⟨Or.inr (Or.inl ⟨(by unfold cFa; (repeat first | rw [if_pos (by omega)] | rw [if_neg (by omega)] | rw [if_neg hd2])), hh.1⟩), hh.2⟩) (fun H1 hp hz => hp.elim)
  · skip
    exact z_Vrm [.int (iI w)] [.int (iI 2), .ref (a 1200)] kM_X5_140 O dX5_fail_4 ((c_X5_existingWorkerN hst fO fS hG hzw hd1).to (post' := zRr none (fun _ => False)) (fun _ _ hh => hh.elim) (fun _ _ hh => hh)) rfl rfl fO.1 (by decide) (Nat.le_of_ble_eq_true rfl) (by omega) (by omega) (Nat.le_of_ble_eq_true rfl) (fun X H1 hh => by rw [hpx]; exact ⟨Or.inl ⟨(by unfold cFa; (repeat first | rw [if_pos (by omega)] | rw [if_neg (by omega)])), hh.1⟩, hh.2⟩) (fun H1 hp hz => hp.elim)

theorem c_X5_write {E : zE} (hst : E.1.stackTraces = false) {H : Heap} {r : zH} {a : Nat → Nat} {n : Int} {tx G : Int → Int} {fi ac : Int} {dd : Nat → Int → Int} {kp ik : Int → Int} {N : Int} {w c v : Int} (h : zCm E H r a n tx G fi ac dd kp ik) (hOK : cOK n tx G fi ac dd kp ik N) (hzw : zR w) (hzc : zR c) (hzv : zR v) : zC E yX5_write cX5_write 5 (some .int) 7 188 [.ref (a 1200), .int (iI w), .int (iI c), .int (iI v)] H 1089 27157 (zRi (G c) (fun H1 => cWr G w c v = 0 ∧ zCp E H r a n tx (sWrite G w c v) (mFi fi ac) (mAc ac) (zDw dd (mIx fi ac) G) kp ik H1)) (zXc (cWr G w c v) xB xA xS H) := by
  refine zC.of2 (by decide) (Nat.le_of_ble_eq_true rfl) hst ?_
  intro x O hE hpo hpx hH
  subst hE
  change zG x H 0 0 0 [(0, .ref (a 1200)), (1, .int (iI w)), (2, .int (iI c)), (3, .int (iI v))] []
  have hOK9 := hOK
  obtain ⟨nx, fl, F, sf, KS, hfw, hhr, hkr⟩ := id h
  obtain ⟨fO, fT, fcap, fS, ⟨S, fC⟩, fH, fQ, fL, fZ⟩ := id hfw
  obtain ⟨⟨hn, hx, hG, hN, hfi, hac, hik⟩, hdd, hkk⟩ := hOK
  refine z_aload_n 0 O dX5_write_0 rfl ?_
  refine z_iload_n 1 O dX5_write_1 rfl ?_
  by_cases hd1 : 0 ≤ w ∧ w ≤ 2
  · skip
    have hw : 0 ≤ w ∧ w ≤ 2 := hd1
    refine z_Vr [.int (iI w)] [] kM_X5_140 O dX5_write_2 (c_X5_existingWorkerY hst fO fS hG hzw hw) rfl rfl fO.1 (by decide) (Nat.le_of_ble_eq_true rfl) (by omega) (by omega) (Nat.le_of_ble_eq_true rfl) zNx ?_
    refine z_astore [(4, .ref (a (0 + 6 + 16 * w.toNat))), (0, .ref (a 1200)), (1, .int (iI w)), (2, .int (iI c)), (3, .int (iI v))] O dX5_write_5 (by decide) rfl ?_
    refine z_iload_n 3 O dX5_write_7 rfl ?_
    by_cases hd2 : 0 ≤ c ∧ c ≤ 15
    · skip
      refine z_Sv [.int (iI c)] [] kM_X5_126 O dX5_write_8 (c_X5_requireCellY hst hzc hd2) rfl rfl (by decide) (Nat.le_of_ble_eq_true rfl) (by omega) (by omega) (Nat.le_of_ble_eq_true rfl) zNx ?_
      refine z_iload_n 4 O dX5_write_11 rfl ?_
      refine z_Si [.int (iI v)] [] kM_X5_188 O dX5_write_12 (c_X5_isValue hst ⟨by omega, by omega⟩) rfl rfl (by decide) (Nat.le_of_ble_eq_true rfl) (by omega) (by omega) (Nat.le_of_ble_eq_true rfl) zNx ?_
      refine z_ifb_ne 28 O dX5_write_15 (by decide) (fun c_15 => ?_) (fun c_15 => ?_)
      · skip
        have hvb := sBt_t.mp c_15
        refine z_aload_n 1 O dX5_write_28 rfl ?_
        refine z_bipush 6 O dX5_write_29 (by decide +kernel) ?_
        refine z_aload 0 O dX5_write_31 rfl ?_
        refine z_iload_n 3 O dX5_write_33 rfl ?_
        refine z_iload_n 4 O dX5_write_34 rfl ?_
        by_cases hd3 : sRe G w c = 0
        · skip
          refine z_Vim [.int (iI 6), .ref (a (0 + 6 + 16 * w.toNat)), .int (iI c), .int (iI v)] [] kM_X5_184 O dX5_write_35 (by have c9 := c_X5_actY hst h hOK9 hw (k := 6) (u := c) (v := v) (by omega) ⟨by omega, by omega⟩ ⟨by omega, by omega⟩ (by show (sBt c 0 15 && (sBt v 0 99 && decide (sRe G w c = 0))) = true; rw [sBt_t.mpr ⟨by omega, by omega⟩, c_15, decide_eq_true hd3]; rfl); rw [show opD G 6 w c v = sWrite G w c v from rfl, show vlD G 6 w c v = G c from rfl] at c9; exact c9) rfl rfl fO.1 (by decide) (Nat.le_of_ble_eq_true rfl) (by omega) (by omega) (Nat.le_of_ble_eq_true rfl) zNx (fun H4 hp5 hz6 => ?_)
          exact z_ireti O dX5_write_38 rfl (by omega) (by omega) hpo (by rfl) (⟨(by unfold cWr; (repeat first | rw [if_pos (by omega)] | rw [if_neg (by omega)] | rw [if_pos c_15] | rw [if_pos hd3])), hp5⟩)
        · skip
          exact z_Vim [.int (iI 6), .ref (a (0 + 6 + 16 * w.toNat)), .int (iI c), .int (iI v)] [] kM_X5_184 O dX5_write_35 (((c_X5_actN hst h hOK9 hw (k := 6) (u := c) (v := v) (by omega) ⟨by omega, by omega⟩ ⟨by omega, by omega⟩ (by show (sBt c 0 15 && (sBt v 0 99 && decide (sRe G w c = 0))) = false; rw [decide_eq_false hd3]; simp))).to (post' := zRi 0 (fun _ => False)) (fun _ _ hh => hh.elim) (fun _ _ hh => hh)) rfl rfl fO.1 (by decide) (Nat.le_of_ble_eq_true rfl) (by omega) (by omega) (Nat.le_of_ble_eq_true rfl) (fun X H1 hh => by rw [hpx]; exact ⟨Or.inr (Or.inr ⟨(by unfold cWr; (repeat first | rw [if_pos (by omega)] | rw [if_neg (by omega)] | rw [if_pos c_15] | rw [if_neg hd3])), hh.1⟩), hh.2⟩) (fun H1 hp hz => hp.elim)
      · skip
        have hvb := sBt_f.mp c_15
        exact z_throwX kT_43_191_47 O dX5_write_18 dX5_write_21 dX5_write_22 dX5_write_24 dX5_write_27 (by decide) (Nat.le_of_ble_eq_true rfl) (by omega) (by omega) (fun H1 hs1 hz1 hz2 => by rw [hH] at hz1 hz2; rw [hpx]; exact ⟨Or.inr (Or.inl ⟨(by unfold cWr; (repeat first | rw [if_pos (by omega)] | rw [if_neg (by omega)] | rw [if_neg (by rw [c_15]; decide)])), rfl⟩), hs1, hz1, hz2⟩)
    · skip
      exact z_Svm [.int (iI c)] [] kM_X5_126 O dX5_write_8 ((c_X5_requireCellN hst hzc hd2).to (post' := zRv (fun _ => False)) (fun _ _ hh => hh.elim) (fun _ _ hh => hh)) rfl rfl (by decide) (Nat.le_of_ble_eq_true rfl) (by omega) (by omega) (Nat.le_of_ble_eq_true rfl) (fun X H1 hh => by rw [hpx]; exact ⟨Or.inl ⟨(by unfold cWr; (repeat first | rw [if_pos (by omega)] | rw [if_neg (by omega)])), hh.1⟩, hh.2⟩) (fun H1 hp hz => hp.elim)
  · skip
    exact z_Vrm [.int (iI w)] [] kM_X5_140 O dX5_write_2 ((c_X5_existingWorkerN hst fO fS hG hzw hd1).to (post' := zRr none (fun _ => False)) (fun _ _ hh => hh.elim) (fun _ _ hh => hh)) rfl rfl fO.1 (by decide) (Nat.le_of_ble_eq_true rfl) (by omega) (by omega) (Nat.le_of_ble_eq_true rfl) (fun X H1 hh => by rw [hpx]; exact ⟨Or.inl ⟨(by unfold cWr; (repeat first | rw [if_pos (by omega)] | rw [if_neg (by omega)])), hh.1⟩, hh.2⟩) (fun H1 hp hz => hp.elim)

theorem c_X5_regret {E : zE} (hst : E.1.stackTraces = false) {H : Heap} {r : zH} {a : Nat → Nat} {n : Int} {tx G : Int → Int} {fi ac : Int} {dd : Nat → Int → Int} {kp ik : Int → Int} {N : Int} {w c v : Int} (h : zCm E H r a n tx G fi ac dd kp ik) (hOK : cOK n tx G fi ac dd kp ik N) (hzw : zR w) (hzc : zR c) (hzv : zR v) : zC E yX5_regret cX5_regret 5 (some .int) 7 188 [.ref (a 1200), .int (iI w), .int (iI c), .int (iI v)] H 1089 27157 (zRi (sRg (sRegret G w c v) w (G (at_ w 0) - 1)) (fun H1 => cRg G w c v = 0 ∧ zCp E H r a n tx (sRegret G w c v) (mFi fi ac) (mAc ac) (zDw dd (mIx fi ac) G) kp ik H1)) (zXc (cRg G w c v) xB xA xS H) := by
  refine zC.of2 (by decide) (Nat.le_of_ble_eq_true rfl) hst ?_
  intro x O hE hpo hpx hH
  subst hE
  change zG x H 0 0 0 [(0, .ref (a 1200)), (1, .int (iI w)), (2, .int (iI c)), (3, .int (iI v))] []
  have hOK9 := hOK
  obtain ⟨nx, fl, F, sf, KS, hfw, hhr, hkr⟩ := id h
  obtain ⟨fO, fT, fcap, fS, ⟨S, fC⟩, fH, fQ, fL, fZ⟩ := id hfw
  obtain ⟨⟨hn, hx, hG, hN, hfi, hac, hik⟩, hdd, hkk⟩ := hOK
  refine z_aload_n 0 O dX5_regret_0 rfl ?_
  refine z_iload_n 1 O dX5_regret_1 rfl ?_
  by_cases hd1 : 0 ≤ w ∧ w ≤ 2
  · skip
    have hw : 0 ≤ w ∧ w ≤ 2 := hd1
    refine z_Vr [.int (iI w)] [] kM_X5_140 O dX5_regret_2 (c_X5_existingWorkerY hst fO fS hG hzw hw) rfl rfl fO.1 (by decide) (Nat.le_of_ble_eq_true rfl) (by omega) (by omega) (Nat.le_of_ble_eq_true rfl) zNx ?_
    refine z_astore [(4, .ref (a (0 + 6 + 16 * w.toNat))), (0, .ref (a 1200)), (1, .int (iI w)), (2, .int (iI c)), (3, .int (iI v))] O dX5_regret_5 (by decide) rfl ?_
    refine z_iload_n 3 O dX5_regret_7 rfl ?_
    by_cases hd2 : 0 ≤ c ∧ c ≤ 15
    · skip
      refine z_Sv [.int (iI c)] [] kM_X5_126 O dX5_regret_8 (c_X5_requireCellY hst hzc hd2) rfl rfl (by decide) (Nat.le_of_ble_eq_true rfl) (by omega) (by omega) (Nat.le_of_ble_eq_true rfl) zNx ?_
      refine z_iload_n 4 O dX5_regret_11 rfl ?_
      refine z_Si [.int (iI v)] [] kM_X5_197 O dX5_regret_12 (c_X5_isRegretNumber hst ⟨by omega, by omega⟩) rfl rfl (by decide) (Nat.le_of_ble_eq_true rfl) (by omega) (by omega) (Nat.le_of_ble_eq_true rfl) zNx ?_
      refine z_ifb_ne 28 O dX5_regret_15 (by decide) (fun c_15 => ?_) (fun c_15 => ?_)
      · skip
        have hvb := sBt_t.mp c_15
        refine z_aload_n 1 O dX5_regret_28 rfl ?_
        refine z_iconst 5 O dX5_regret_29 (by decide +kernel) ?_
        refine z_aload 0 O dX5_regret_30 rfl ?_
        refine z_iload_n 3 O dX5_regret_32 rfl ?_
        refine z_iload_n 4 O dX5_regret_33 rfl ?_
        by_cases hd3 : sCr G w c = true
        · skip
          refine z_Vim [.int (iI 5), .ref (a (0 + 6 + 16 * w.toNat)), .int (iI c), .int (iI v)] [] kM_X5_184 O dX5_regret_34 (by have c9 := c_X5_actY hst h hOK9 hw (k := 5) (u := c) (v := v) (by omega) ⟨by omega, by omega⟩ ⟨by omega, by omega⟩ (by show (sBt c 0 15 && (sBt v 1 99 && sCr G w c)) = true; rw [sBt_t.mpr ⟨by omega, by omega⟩, c_15, hd3]; rfl); rw [show opD G 5 w c v = sRegret G w c v from rfl, show vlD G 5 w c v = sRg (sRegret G w c v) w (G (at_ w 0) - 1) from rfl] at c9; exact c9) rfl rfl fO.1 (by decide) (Nat.le_of_ble_eq_true rfl) (by omega) (by omega) (Nat.le_of_ble_eq_true rfl) zNx (fun H4 hp5 hz6 => ?_)
          exact z_ireti O dX5_regret_37 rfl (by omega) (by omega) hpo (by rfl) (⟨(by unfold cRg; (repeat first | rw [if_pos (by omega)] | rw [if_neg (by omega)] | rw [if_pos c_15] | rw [if_pos hd3])), hp5⟩)
        · skip
          exact z_Vim [.int (iI 5), .ref (a (0 + 6 + 16 * w.toNat)), .int (iI c), .int (iI v)] [] kM_X5_184 O dX5_regret_34 (((c_X5_actN hst h hOK9 hw (k := 5) (u := c) (v := v) (by omega) ⟨by omega, by omega⟩ ⟨by omega, by omega⟩ (by show (sBt c 0 15 && (sBt v 1 99 && sCr G w c)) = false; rw [Bool.eq_false_iff.mpr hd3]; simp))).to (post' := zRi 0 (fun _ => False)) (fun _ _ hh => hh.elim) (fun _ _ hh => hh)) rfl rfl fO.1 (by decide) (Nat.le_of_ble_eq_true rfl) (by omega) (by omega) (Nat.le_of_ble_eq_true rfl) (fun X H1 hh => by rw [hpx]; exact ⟨Or.inr (Or.inr ⟨(by unfold cRg; (repeat first | rw [if_pos (by omega)] | rw [if_neg (by omega)] | rw [if_pos c_15] | rw [if_neg hd3])), hh.1⟩), hh.2⟩) (fun H1 hp hz => hp.elim)
      · skip
        have hvb := sBt_f.mp c_15
        exact z_throwX kT_43_200_47 O dX5_regret_18 dX5_regret_21 dX5_regret_22 dX5_regret_24 dX5_regret_27 (by decide) (Nat.le_of_ble_eq_true rfl) (by omega) (by omega) (fun H1 hs1 hz1 hz2 => by rw [hH] at hz1 hz2; rw [hpx]; exact ⟨Or.inr (Or.inl ⟨(by unfold cRg; (repeat first | rw [if_pos (by omega)] | rw [if_neg (by omega)] | rw [if_neg (by rw [c_15]; decide)])), rfl⟩), hs1, hz1, hz2⟩)
    · skip
      exact z_Svm [.int (iI c)] [] kM_X5_126 O dX5_regret_8 ((c_X5_requireCellN hst hzc hd2).to (post' := zRv (fun _ => False)) (fun _ _ hh => hh.elim) (fun _ _ hh => hh)) rfl rfl (by decide) (Nat.le_of_ble_eq_true rfl) (by omega) (by omega) (Nat.le_of_ble_eq_true rfl) (fun X H1 hh => by rw [hpx]; exact ⟨Or.inl ⟨(by unfold cRg; (repeat first | rw [if_pos (by omega)] | rw [if_neg (by omega)])), hh.1⟩, hh.2⟩) (fun H1 hp hz => hp.elim)
  · skip
    exact z_Vrm [.int (iI w)] [] kM_X5_140 O dX5_regret_2 ((c_X5_existingWorkerN hst fO fS hG hzw hd1).to (post' := zRr none (fun _ => False)) (fun _ _ hh => hh.elim) (fun _ _ hh => hh)) rfl rfl fO.1 (by decide) (Nat.le_of_ble_eq_true rfl) (by omega) (by omega) (Nat.le_of_ble_eq_true rfl) (fun X H1 hh => by rw [hpx]; exact ⟨Or.inl ⟨(by unfold cRg; (repeat first | rw [if_pos (by omega)] | rw [if_neg (by omega)])), hh.1⟩, hh.2⟩) (fun H1 hp hz => hp.elim)

theorem c_X5_back {E : zE} (hst : E.1.stackTraces = false) {H : Heap} {r : zH} {a : Nat → Nat} {n : Int} {tx G : Int → Int} {fi ac : Int} {dd : Nat → Int → Int} {kp ik : Int → Int} {N : Int} {w i : Int} (h : zCm E H r a n tx G fi ac dd kp ik) (hOK : cOK n tx G fi ac dd kp ik N) (hzw : zR w) (hzi : zR i) : zC E yX5_back cX5_back 4 (some .int) 7 188 [.ref (a 1200), .int (iI w), .int (iI i)] H 1089 27157 (zRi (G (at_ w 1) - G (sIn G w (5 + i))) (fun H1 => cBk G w i = 0 ∧ zCp E H r a n tx (sBack G w i) (mFi fi ac) (mAc ac) (zDw dd (mIx fi ac) G) kp ik H1)) (zXc (cBk G w i) xB xS "" H) := by
  refine zC.of2 (by decide) (Nat.le_of_ble_eq_true rfl) hst ?_
  intro x O hE hpo hpx hH
  subst hE
  change zG x H 0 0 0 [(0, .ref (a 1200)), (1, .int (iI w)), (2, .int (iI i))] []
  have hOK9 := hOK
  obtain ⟨nx, fl, F, sf, KS, hfw, hhr, hkr⟩ := id h
  obtain ⟨fO, fT, fcap, fS, ⟨S, fC⟩, fH, fQ, fL, fZ⟩ := id hfw
  obtain ⟨⟨hn, hx, hG, hN, hfi, hac, hik⟩, hdd, hkk⟩ := hOK
  refine z_aload_n 0 O dX5_back_0 rfl ?_
  refine z_iload_n 1 O dX5_back_1 rfl ?_
  by_cases hd1 : 0 ≤ w ∧ w ≤ 2
  · skip
    have hw : 0 ≤ w ∧ w ≤ 2 := hd1
    refine z_Vr [.int (iI w)] [] kM_X5_140 O dX5_back_2 (c_X5_existingWorkerY hst fO fS hG hzw hw) rfl rfl fO.1 (by decide) (Nat.le_of_ble_eq_true rfl) (by omega) (by omega) (Nat.le_of_ble_eq_true rfl) zNx ?_
    refine z_astore_n [(3, .ref (a (0 + 6 + 16 * w.toNat))), (0, .ref (a 1200)), (1, .int (iI w)), (2, .int (iI i))] O dX5_back_5 (by decide) rfl ?_
    refine z_aload_n 0 O dX5_back_6 rfl ?_
    refine z_iload_n 3 O dX5_back_7 rfl ?_
    by_cases hd2 : sHp G w i = true
    · skip
      refine z_Sv [.ref (a (0 + 6 + 16 * w.toNat)), .int (iI i)] [] kM_X5_193 O dX5_back_8 (c_X5_requirePointY hst (zSt_w fS.2.2.2.2 hw).1 hG hw hzi hd2) rfl rfl (by decide) (Nat.le_of_ble_eq_true rfl) (by omega) (by omega) (Nat.le_of_ble_eq_true rfl) zNx ?_
      refine z_aload_n 1 O dX5_back_11 rfl ?_
      refine z_iconst 4 O dX5_back_12 (by decide +kernel) ?_
      refine z_aload_n 0 O dX5_back_13 rfl ?_
      refine z_iload_n 3 O dX5_back_14 rfl ?_
      refine z_iconst 0 O dX5_back_15 (by decide +kernel) ?_
      by_cases hd3 : sSp G w = true
      · skip
        exact z_Vim [.int (iI 4), .ref (a (0 + 6 + 16 * w.toNat)), .int (iI i), .int (iI 0)] [] kM_X5_184 O dX5_back_16 (((c_X5_actN hst h hOK9 hw (k := 4) (u := i) (v := 0) (by omega) ⟨by omega, by omega⟩ ⟨by omega, by omega⟩ (by show gT G w i = false; unfold gT; rw [hd3]; simp))).to (post' := zRi 0 (fun _ => False)) (fun _ _ hh => hh.elim) (fun _ _ hh => hh)) rfl rfl fO.1 (by decide) (Nat.le_of_ble_eq_true rfl) (by omega) (by omega) (Nat.le_of_ble_eq_true rfl) (fun X H1 hh => by rw [hpx]; exact ⟨Or.inr (Or.inl ⟨(by unfold cBk; (repeat first | rw [if_pos (by omega)] | rw [if_neg (by omega)] | rw [if_pos hd2] | rw [if_pos hd3])), hh.1⟩), hh.2⟩) (fun H1 hp hz => hp.elim)
      · skip
        refine z_Vim [.int (iI 4), .ref (a (0 + 6 + 16 * w.toNat)), .int (iI i), .int (iI 0)] [] kM_X5_184 O dX5_back_16 (by have c9 := c_X5_actY hst h hOK9 hw (k := 4) (u := i) (v := 0) (by omega) ⟨by omega, by omega⟩ ⟨by omega, by omega⟩ (by show gT G w i = true; unfold gT; rw [hd2, Bool.eq_false_iff.mpr hd3]; rfl); rw [show opD G 4 w i 0 = sBack G w i from rfl, show vlD G 4 w i 0 = G (at_ w 1) - G (sIn G w (5 + i)) from rfl] at c9; exact c9) rfl rfl fO.1 (by decide) (Nat.le_of_ble_eq_true rfl) (by omega) (by omega) (Nat.le_of_ble_eq_true rfl) zNx (fun H4 hp5 hz6 => ?_)
        exact z_ireti O dX5_back_19 rfl (by omega) (by omega) hpo (by rfl) (⟨(by unfold cBk; (repeat first | rw [if_pos (by omega)] | rw [if_neg (by omega)] | rw [if_pos hd2] | rw [if_neg hd3])), hp5⟩)
    · skip
      exact z_Svm [.ref (a (0 + 6 + 16 * w.toNat)), .int (iI i)] [] kM_X5_193 O dX5_back_8 ((c_X5_requirePointN hst (zSt_w fS.2.2.2.2 hw).1 hG hw hzi (Bool.eq_false_iff.mpr hd2)).to (post' := zRv (fun _ => False)) (fun _ _ hh => hh.elim) (fun _ _ hh => hh)) rfl rfl (by decide) (Nat.le_of_ble_eq_true rfl) (by omega) (by omega) (Nat.le_of_ble_eq_true rfl) (fun X H1 hh => by rw [hpx]; exact ⟨Or.inl ⟨(by unfold cBk; (repeat first | rw [if_pos (by omega)] | rw [if_neg (by omega)] | rw [if_neg hd2])), hh.1⟩, hh.2⟩) (fun H1 hp hz => hp.elim)
  · skip
    exact z_Vrm [.int (iI w)] [] kM_X5_140 O dX5_back_2 ((c_X5_existingWorkerN hst fO fS hG hzw hd1).to (post' := zRr none (fun _ => False)) (fun _ _ hh => hh.elim) (fun _ _ hh => hh)) rfl rfl fO.1 (by decide) (Nat.le_of_ble_eq_true rfl) (by omega) (by omega) (Nat.le_of_ble_eq_true rfl) (fun X H1 hh => by rw [hpx]; exact ⟨Or.inl ⟨(by unfold cBk; (repeat first | rw [if_pos (by omega)] | rw [if_neg (by omega)])), hh.1⟩, hh.2⟩) (fun H1 hp hz => hp.elim)

theorem c_X5_setMercy {E : zE} (hst : E.1.stackTraces = false) {H : Heap} {r : zH} {a : Nat → Nat} {n : Int} {tx G : Int → Int} {fi ac : Int} {dd : Nat → Int → Int} {kp ik : Int → Int} {N : Int} {v : Int} (h : zCm E H r a n tx G fi ac dd kp ik) (hOK : cOK n tx G fi ac dd kp ik N) (hzv : zR v) : zC E yX5_setMercy cX5_setMercy 3 (some .int) 6 139 [.ref (a 1200), .int (iI v)] H 1089 27157 (zRi (G 32) (fun H1 => cMe v = 0 ∧ zCp E H r a n tx (zU G 32 v) (mFi fi ac) (mAc ac) (zDw dd (mIx fi ac) G) kp ik H1)) (zXc (cMe v) xA "" "" H) := by
  refine zC.of2 (by decide) (Nat.le_of_ble_eq_true rfl) hst ?_
  intro x O hE hpo hpx hH
  subst hE
  change zG x H 0 0 0 [(0, .ref (a 1200)), (1, .int (iI v))] []
  obtain ⟨nx, fl, F, sf, KS, hfw, hhr, hkr⟩ := id h
  obtain ⟨fO, fT, fcap, fS, ⟨S, fC⟩, fH, fQ, fL, fZ⟩ := id hfw
  obtain ⟨⟨hn, hx, hG, hN, hfi, hac, hik⟩, hdd, hkk⟩ := hOK
  have hm1 : mAc ac = min 14 (ac + 1) := by unfold mAc; split <;> omega
  refine z_iload_n 1 O dX5_setMercy_0 rfl ?_
  refine z_if_lt 9 O dX5_setMercy_1 (by decide) ⟨by omega, by omega⟩ (fun c_1 => ?_) (fun c_1 => ?_)
  · skip
    exact z_throwX kT_43_202_47 O dX5_setMercy_9 dX5_setMercy_12 dX5_setMercy_13 dX5_setMercy_15 dX5_setMercy_18 (by decide) (Nat.le_of_ble_eq_true rfl) (by omega) (by omega) (fun H1 hs1 hz1 hz2 => by rw [hH] at hz1 hz2; rw [hpx]; exact ⟨Or.inl ⟨(by unfold cMe; (repeat first | rw [if_pos (by omega)] | rw [if_neg (by omega)])), rfl⟩, hs1, hz1, hz2⟩)
  · skip
    refine z_iload_n 1 O dX5_setMercy_4 rfl ?_
    refine z_iconst 3 O dX5_setMercy_5 (by decide +kernel) ?_
    refine z_icmp_le 19 O dX5_setMercy_6 (by decide) ⟨by omega, by omega⟩ ⟨by omega, by omega⟩ (fun c_6 => ?_) (fun c_6 => ?_)
    · skip
      refine z_aload_n 0 O dX5_setMercy_19 rfl ?_
      refine z_getf kF_X5_31 O dX5_setMercy_20 fO.1 rfl ?_
      refine z_aload_n 0 O dX5_setMercy_23 rfl ?_
      refine z_getf kF_X5_21 O dX5_setMercy_24 fO.1 rfl ?_
      obtain ⟨hO1, _⟩ := id fH
      refine z_Vvm [.ref (a 0)] [] kM_X5_204 O dX5_setMercy_27 (c_X0_remember hst fH fS hG (by decide)) rfl rfl hO1.1 (by decide) (Nat.le_of_ble_eq_true rfl) (by omega) (by omega) (Nat.le_of_ble_eq_true rfl) zNx (fun H2 hp3 hz4 => ?_)
      obtain ⟨r5, a1, ha1, hf6, fH7⟩ := hp3
      have fO8 := fO.fr hf6 (by first | exact (fun h => h) | exact zT1 (by omega) | (show ¬ (_ ∨ _); omega) | (show ¬ (_ ∧ _); omega))
      have fT9 := fT.fr hf6 (by first | exact (fun h => h) | exact zT1 (by omega) | (show ¬ (_ ∨ _); omega) | (show ¬ (_ ∧ _); omega)) (by first | exact (fun h => h) | exact zT1 (by omega) | (show ¬ (_ ∨ _); omega) | (show ¬ (_ ∧ _); omega))
      have fS10 := fS.fr hf6 (fun s h1 h2 => by first | exact (fun h => h) | exact zT1 (by omega) | (show ¬ (_ ∨ _); omega) | (show ¬ (_ ∧ _); omega) | (show ¬ (_ < _); omega))
      have fC11 := fC.fr hf6 (fun s h1 h2 => by first | exact (fun h => h) | exact zT1 (by omega) | (show ¬ (_ ∨ _); omega) | (show ¬ (_ ∧ _); omega) | (show ¬ (_ < _); omega))
      have fQ12 := fQ.fr hf6 (by first | exact (fun h => h) | exact zT1 (by omega) | (show ¬ (_ ∨ _); omega) | (show ¬ (_ ∧ _); omega))
      have fL13 := fL.fr hf6 (fun s h1 h2 => by first | exact (fun h => h) | exact zT1 (by omega) | (show ¬ (_ ∨ _); omega) | (show ¬ (_ ∧ _); omega) | (show ¬ (_ < _); omega))
      have fZ14 := fZ.fr hf6 (by first | exact (fun h => h) | exact zT1 (by omega) | (show ¬ (_ ∨ _); omega) | (show ¬ (_ ∧ _); omega))
      have fcap15 := (hf6.2.2.2 1203 (by first | exact (fun h => h) | exact zT1 (by omega) | (show ¬ (_ ∨ _); omega) | (show ¬ (_ ∧ _); omega))).trans fcap
      have hp0 := zPh_fr (t := 0) hf6 (fun s p q => by show ¬ (_ ∨ _); omega)
      have hp6 := zPh_fr (t := 64) hf6 (fun s p q => by show ¬ (_ ∨ _); omega)
      refine z_meter (fun hb1 hb2 => ?_)
      rw [hH] at hb1 hb2
      obtain ⟨sO15, sQ15, sV15, sL15, sWs15⟩ := id fS10
      have sWs15 : zAw (zEn x) H2 r5 a 0 (fun _ => G) := sWs15
      refine z_aload_n 0 O dX5_setMercy_30 rfl ?_
      refine z_getf kF_X5_21 O dX5_setMercy_31 fO8.1 rfl ?_
      refine z_getf kF_X5_115 O dX5_setMercy_34 sO15.1 rfl ?_
      refine z_istore_n [(2, .int (iI (G 32))), (0, .ref (a 1200)), (1, .int (iI v))] O dX5_setMercy_37 (by decide) rfl ?_
      refine z_aload_n 1 O dX5_setMercy_38 rfl ?_
      refine z_getf kF_X5_21 O dX5_setMercy_39 fO8.1 rfl ?_
      refine z_iload_n 2 O dX5_setMercy_42 rfl ?_
      refine z_putf kP_X5_115 O (fun h => nomatch h) dX5_setMercy_43 sO15.1 rfl rfl (Nat.le_of_ble_eq_true rfl) (fun H17 hO18 hC19 => ?_)
      have hf20 := sO15.ch hC19
      have ho21 : zO (zEn x) H17 r5 0 (a 0) 2 [.ref (a (0 + 2)), .ref (a (0 + 4)), .ref (a (0 + 1)), .int (iI v), .int (iI (G 33)), .int (iI (G 34)), .int (iI (G 35))] := ⟨hO18, sO15.2⟩
      have fO22 := fO8.fr hf20 (by first | exact (fun h => h) | exact zT1 (by omega) | (show ¬ (_ ∨ _); omega) | (show ¬ (_ ∧ _); omega))
      have fT23 := fT9.fr hf20 (by first | exact (fun h => h) | exact zT1 (by omega) | (show ¬ (_ ∨ _); omega) | (show ¬ (_ ∧ _); omega)) (by first | exact (fun h => h) | exact zT1 (by omega) | (show ¬ (_ ∨ _); omega) | (show ¬ (_ ∧ _); omega))
      have fC24 := fC11.fr hf20 (fun s h1 h2 => by first | exact (fun h => h) | exact zT1 (by omega) | (show ¬ (_ ∨ _); omega) | (show ¬ (_ ∧ _); omega) | (show ¬ (_ < _); omega))
      have fH25 := fH7.fr hf20 (fun s h1 => by first | exact (fun h => h) | exact zT1 (by omega) | (show ¬ (_ ∨ _); omega) | (show ¬ (_ ∧ _); omega) | (show ¬ (_ < _); omega))
      have fQ26 := fQ12.fr hf20 (by first | exact (fun h => h) | exact zT1 (by omega) | (show ¬ (_ ∨ _); omega) | (show ¬ (_ ∧ _); omega))
      have fL27 := fL13.fr hf20 (fun s h1 h2 => by first | exact (fun h => h) | exact zT1 (by omega) | (show ¬ (_ ∨ _); omega) | (show ¬ (_ ∧ _); omega) | (show ¬ (_ < _); omega))
      have fZ28 := fZ14.fr hf20 (by first | exact (fun h => h) | exact zT1 (by omega) | (show ¬ (_ ∨ _); omega) | (show ¬ (_ ∧ _); omega))
      have sQ29 := sQ15.fr hf20 (by first | exact (fun h => h) | exact zT1 (by omega) | (show ¬ (_ ∨ _); omega) | (show ¬ (_ ∧ _); omega))
      have sV30 := sV15.fr hf20 (by first | exact (fun h => h) | exact zT1 (by omega) | (show ¬ (_ ∨ _); omega) | (show ¬ (_ ∧ _); omega)) (by first | exact (fun h => h) | exact zT1 (by omega) | (show ¬ (_ ∨ _); omega) | (show ¬ (_ ∧ _); omega))
      have sL31 := sL15.fr hf20 (by first | exact (fun h => h) | exact zT1 (by omega) | (show ¬ (_ ∨ _); omega) | (show ¬ (_ ∧ _); omega)) (by first | exact (fun h => h) | exact zT1 (by omega) | (show ¬ (_ ∨ _); omega) | (show ¬ (_ ∧ _); omega))
      have sWs32 := sWs15.fr hf20 (fun s h1 h2 => by first | exact (fun h => h) | exact zT1 (by omega) | (show ¬ (_ ∨ _); omega) | (show ¬ (_ ∧ _); omega) | (show ¬ (_ < _); omega))
      have fcap33 := (hf20.2.2.2 1203 (by first | exact (fun h => h) | exact zT1 (by omega) | (show ¬ (_ ∨ _); omega) | (show ¬ (_ ∧ _); omega))).trans fcap15
      refine z_iload_n 0 O dX5_setMercy_46 rfl ?_
      refine z_meter (fun hc1 hc2 => ?_)
      rw [hH] at hc1 hc2
      have hgv : zGv H r H17 r5 := by unfold zGv zPs; omega
      have hS9 : zSt (zEn x) H17 r5 a 0 (zU G 32 v) := (show zSt (zEn x) H17 r5 a 0 (zU G 32 v) from ⟨(by rw [zU_s, zU_n (by decide), zU_n (by decide), zU_n (by decide)]; exact ho21), sQ29, sV30.to (fun c p q => (zU_n (by omega)).symm), sL31.to (fun c p q => by rw [zU_n (by omega)]), fun v9 hv9 => (show zWkr (zEn x) H17 r5 a (0 + 6 + 16 * v9) v9 G from sWs32 v9 hv9).to ⟨(hG.l (w := (v9 : Int)) ⟨by omega, by omega⟩).1, by have := hG.l (w := (v9 : Int)) ⟨by omega, by omega⟩; omega, (hG.l (w := (v9 : Int)) ⟨by omega, by omega⟩).2.1, by have := hG.l (w := (v9 : Int)) ⟨by omega, by omega⟩; omega⟩ (fun i p q => (hG.k (w := (v9 : Int)) ⟨by omega, by omega⟩ p q).2.2.1.2) (fun j p q => zU_n (by have := at_e (v9 : Int) 0; omega))⟩)
      exact z_ireti O dX5_setMercy_47 rfl (by omega) (by omega) hpo (by rfl) (⟨(by unfold cMe; (repeat first | rw [if_pos (by omega)] | rw [if_neg (by omega)])), r5, a1, ha1 1200 (by omega), (((hf6.up (fun s h => by first | exact h.elim | (show _ < _; omega) | omega | (simp at h ⊢; omega)))).tr (hf20.up (fun s h => by first | exact h.elim | (show _ < _; omega) | omega | (simp at h ⊢; omega)))), hgv, _, _, _, sf, KS, (by rw [hm1]; exact (zFw.mk ha1 fO22 fT23 fcap33 hS9 fC24 fH25 fQ26 fL27 fZ28)), (by rw [hm1]; exact hhr.rem fH.2.2.1 hac hfi), hkr⟩)
    · skip
      exact z_throwX kT_43_202_47 O dX5_setMercy_9 dX5_setMercy_12 dX5_setMercy_13 dX5_setMercy_15 dX5_setMercy_18 (by decide) (Nat.le_of_ble_eq_true rfl) (by omega) (by omega) (fun H1 hs1 hz1 hz2 => by rw [hH] at hz1 hz2; rw [hpx]; exact ⟨Or.inl ⟨(by unfold cMe; (repeat first | rw [if_pos (by omega)] | rw [if_neg (by omega)])), rfl⟩, hs1, hz1, hz2⟩)

theorem c_X5_undo {E : zE} (hst : E.1.stackTraces = false) {H : Heap} {r : zH} {a : Nat → Nat} {n : Int} {tx G : Int → Int} {fi ac : Int} {dd : Nat → Int → Int} {kp ik : Int → Int} {N : Int} (h : zCm E H r a n tx G fi ac dd kp ik) (hOK : cOK n tx G fi ac dd kp ik N) : zC E yX5_undo cX5_undo 1 (some .int) 6 140 [.ref (a 1200)] H 15 6310 (zRi (ac - 1) (fun H1 => cUn ac = 0 ∧ zCp E H r a n tx (zDr dd ((fi + (ac - 1)) % 16)) fi (ac - 1) dd kp ik H1)) (zXc (cUn ac) xS "" "" H) := by
  refine zC.of2 (by decide) (Nat.le_of_ble_eq_true rfl) hst ?_
  intro x O hE hpo hpx hH
  subst hE
  change zG x H 0 0 0 [(0, .ref (a 1200))] []
  obtain ⟨nx, fl, F, sf, KS, hfw, hhr, hkr⟩ := id h
  obtain ⟨fO, fT, fcap, fS, ⟨S, fC⟩, fH, fQ, fL, fZ⟩ := id hfw
  obtain ⟨⟨hn, hx, hG, hN, hfi, hac, hik⟩, hdd, hkk⟩ := hOK
  refine z_aload_n 0 O dX5_undo_0 rfl ?_
  refine z_getf kF_X5_31 O dX5_undo_1 fO.1 rfl ?_
  obtain ⟨hO1, _⟩ := id fH
  refine z_getf kF_X5_208 O dX5_undo_4 hO1.1 rfl ?_
  refine z_if_ne 20 O dX5_undo_7 (by decide) ⟨by omega, by omega⟩ (fun c_7 => ?_) (fun c_7 => ?_)
  · skip
    refine z_aload_n 0 O dX5_undo_20 rfl ?_
    refine z_getf kF_X5_31 O dX5_undo_21 fO.1 rfl ?_
    refine z_aload_n 0 O dX5_undo_24 rfl ?_
    refine z_getf kF_X5_21 O dX5_undo_25 fO.1 rfl ?_
    have hh0 := hhr 0 (by omega) (by omega)
    have hnx := fH.2.2.1
    rw [show (nx + 13 - 0) % 14 = ((nx + 14 - 1) % 14) by omega, show ac - 1 - 0 = ac - 1 by omega] at hh0
    have hd0 := hdd 0 (by omega) (by omega)
    rw [show ac - 1 - 0 = ac - 1 by omega] at hd0
    have hF0 : sW (F ((nx + 14 - 1) % 14)) N := hd0.cong hh0.2
    obtain ⟨hO2, _⟩ := id fH
    refine z_Vvm [.ref (a 0)] [] kM_X5_213 O dX5_undo_28 (c_X0_takeBack hst fH fS hF0 (by decide) hh0.1 (by omega)) rfl rfl hO2.1 (by decide) (Nat.le_of_ble_eq_true rfl) (by omega) (by omega) (Nat.le_of_ble_eq_true rfl) zNx (fun H3 hp4 hz5 => ?_)
    obtain ⟨r6, hf7, fS8, fH9, hmo10⟩ := hp4
    have fO11 := fO.fr hf7 (by first | exact (fun h => h) | exact zT1 (by omega) | (show ¬ (_ ∨ _); omega) | (show ¬ (_ ∧ _); omega))
    have fT12 := fT.fr hf7 (by first | exact (fun h => h) | exact zT1 (by omega) | (show ¬ (_ ∨ _); omega) | (show ¬ (_ ∧ _); omega)) (by first | exact (fun h => h) | exact zT1 (by omega) | (show ¬ (_ ∨ _); omega) | (show ¬ (_ ∧ _); omega))
    have fC13 := fC.fr hf7 (fun s h1 h2 => by first | exact (fun h => h) | exact zT1 (by omega) | (show ¬ (_ ∨ _); omega) | (show ¬ (_ ∧ _); omega) | (show ¬ (_ < _); omega))
    have fQ14 := fQ.fr hf7 (by first | exact (fun h => h) | exact zT1 (by omega) | (show ¬ (_ ∨ _); omega) | (show ¬ (_ ∧ _); omega))
    have fL15 := fL.fr hf7 (fun s h1 h2 => by first | exact (fun h => h) | exact zT1 (by omega) | (show ¬ (_ ∨ _); omega) | (show ¬ (_ ∧ _); omega) | (show ¬ (_ < _); omega))
    have fZ16 := fZ.fr hf7 (by first | exact (fun h => h) | exact zT1 (by omega) | (show ¬ (_ ∨ _); omega) | (show ¬ (_ ∧ _); omega))
    have fcap17 := (hf7.2.2.2 1203 (by first | exact (fun h => h) | exact zT1 (by omega) | (show ¬ (_ ∨ _); omega) | (show ¬ (_ ∧ _); omega))).trans fcap
    have hp0 := zPh_le (t := 0) hmo10
    have hp6 := zPh_le (t := 64) hmo10
    refine z_meter (fun hb1 hb2 => ?_)
    rw [hH] at hb1 hb2
    have hgv : zGv H r H3 r6 := by unfold zGv zPs; omega
    refine z_aload_n 0 O dX5_undo_31 rfl ?_
    refine z_getf kF_X5_31 O dX5_undo_32 fO11.1 rfl ?_
    obtain ⟨hO18, _⟩ := id fH9
    refine z_getf kF_X5_208 O dX5_undo_35 hO18.1 rfl ?_
    have hS19 : zSt (zEn x) H3 r6 a 0 (zDr dd ((fi + (ac - 1)) % 16)) := fS8.to hF0 (fun j j0 j1 => (hh0.2 j j0 j1).symm)
    exact z_ireti O dX5_undo_38 rfl (by omega) (by omega) hpo (by rfl) (⟨(by unfold cUn; (repeat first | rw [if_pos (by omega)] | rw [if_neg (by omega)])), r6, a, rfl, (hf7.up (fun s h => by first | exact h.elim | (show _ < _; omega) | omega | (simp at h ⊢; omega))), hgv, ((nx + 14 - 1) % 14), fl, F, sf, KS, (zFw.mk (fun _ _ => rfl) fO11 fT12 fcap17 hS19 fC13 fH9 fQ14 fL15 fZ16), hhr.back hnx (by omega) hac.2, hkr⟩)
  · skip
    exact z_throwX kT_54_211_58 O dX5_undo_10 dX5_undo_13 dX5_undo_14 dX5_undo_16 dX5_undo_19 (by decide) (Nat.le_of_ble_eq_true rfl) (by omega) (by omega) (fun H1 hs1 hz1 hz2 => by rw [hH] at hz1 hz2; rw [hpx]; exact ⟨Or.inl ⟨(by unfold cUn; (repeat first | rw [if_pos (by omega)] | rw [if_neg (by omega)])), rfl⟩, hs1, hz1, hz2⟩)

