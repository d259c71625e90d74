/-! the reference: operations that try (written by program: wip/whole/gen/model5.py) -/
theorem c_X6_other {E : zE} (hst : E.1.stackTraces = false) {H : Heap} {r : zH} {q : Nat} {Q : Nat → Nat} {rf n sp : Int} {gd : Bool} {lo fi ac : Int} {G T : Int → Int} (hO : zMo E H r q Q rf n sp gd lo fi ac) (hA : zA E H r 100003 (Q 3) 4086 G) (hY : zA E H r 100004 (Q 4) 4086 T) (hv : vOK G) (hu : vOK T) : zC E yX6_other cX6_other 3 (some .int) 0 0 [.ref q] H 0 0 (zRi (zSum 16 (sDf T G)) (zSm H)) zN := by
  refine zC.of (by decide) (Nat.le_of_ble_eq_true rfl) hst ?_
  intro x O hE hpo hpx
  subst hE
  change zG x H 0 0 0 [(0, .ref q)] []
  refine z_iconst 0 O dX6_other_0 (by decide +kernel) ?_
  refine z_istore_n [(1, .int (iI 0)), (0, .ref q)] O dX6_other_1 (by decide) rfl ?_
  refine z_iconst 0 O dX6_other_2 (by decide +kernel) ?_
  refine z_istore_n [(2, .int (iI 0)), (1, .int (iI 0)), (0, .ref q)] O dX6_other_3 (by decide) rfl ?_
  have loop : ∀ (d : Nat) (k : Nat), (k + d = 16) → zG x H 0 0 4 [(2, .int (iI (k : Int))), (1, .int (iI (zSum k (sDf T G)))), (0, .ref q)] [] := by
    intro d
    induction d with
    | zero =>
      intro k hd
      obtain rfl : k = 16 := by omega
      refine z_iload_n 0 O dX6_other_4 rfl ?_
      refine z_bipush 16 O dX6_other_5 (by decide +kernel) ?_
      refine z_icmp_ge 39 O dX6_other_7 (by decide) ⟨by omega, by omega⟩ ⟨by omega, by omega⟩ (fun c_7 => ?_) (fun c_7 => ?_)
      · skip
        refine z_iload_n 1 O dX6_other_39 rfl ?_
        exact z_ireti O dX6_other_40 rfl (by omega) (by omega) hpo (by first | rfl | omega) (rfl)
      · exfalso; omega
    | succ d ih =>
      intro k hd
      refine z_iload_n 0 O dX6_other_4 rfl ?_
      refine z_bipush 16 O dX6_other_5 (by decide +kernel) ?_
      refine z_icmp_ge 39 O dX6_other_7 (by decide) ⟨by omega, by omega⟩ ⟨by omega, by omega⟩ (fun c_7 => ?_) (fun c_7 => ?_)
      · exfalso; omega
      · skip
        refine z_iload_n 1 O dX6_other_10 rfl ?_
        refine z_aload_n 2 O dX6_other_11 rfl ?_
        refine z_getf kF_X6_19 O dX6_other_12 hO.1 rfl ?_
        refine z_iload_n 0 O dX6_other_15 rfl ?_
        refine z_iald O dX6_other_16 hY.1 ⟨by omega, by omega⟩ (by omega) (by omega) ?_
        refine z_aload_n 2 O dX6_other_17 rfl ?_
        refine z_getf kF_X6_16 O dX6_other_18 hO.1 rfl ?_
        refine z_iload_n 0 O dX6_other_21 rfl ?_
        refine z_iald O dX6_other_22 hA.1 ⟨by omega, by omega⟩ (by omega) (by omega) ?_
        have hvk := hv k (by omega) (by omega)
        have huk := hu k (by omega) (by omega)
        refine z_icmp_eq 30 O dX6_other_23 (by decide) ⟨by omega, by omega⟩ ⟨by omega, by omega⟩ (fun c_23 => ?_) (fun c_23 => ?_)
        · skip
          refine z_iconst 0 O dX6_other_30 (by decide +kernel) ?_
          refine z_iadd O dX6_other_31 ?_
          refine z_istore_n [(1, .int (iI ((zSum k (sDf T G)) + 0))), (2, .int (iI (k : Int))), (0, .ref q)] O dX6_other_32 (by decide) rfl ?_
          refine z_iinc 1 [(2, .int (iI ((k : Int) + 1))), (1, .int (iI ((zSum k (sDf T G)) + 0))), (0, .ref q)] O dX6_other_33 (by decide) rfl rfl ?_
          refine z_goto 4 O dX6_other_36 (by decide) ?_
          have hz := ih (k + 1) (by omega)
          rw [← zSum_1 (f := sDf T G) (v := 0) (by unfold sDf; first | rw [if_pos (by omega)] | rw [if_neg (by omega)])] at hz
          exact hz
        · skip
          refine z_iconst 1 O dX6_other_26 (by decide +kernel) ?_
          refine z_goto 31 O dX6_other_27 (by decide) ?_
          refine z_iadd O dX6_other_31 ?_
          refine z_istore_n [(1, .int (iI ((zSum k (sDf T G)) + 1))), (2, .int (iI (k : Int))), (0, .ref q)] O dX6_other_32 (by decide) rfl ?_
          refine z_iinc 1 [(2, .int (iI ((k : Int) + 1))), (1, .int (iI ((zSum k (sDf T G)) + 1))), (0, .ref q)] O dX6_other_33 (by decide) rfl rfl ?_
          refine z_goto 4 O dX6_other_36 (by decide) ?_
          have hz := ih (k + 1) (by omega)
          rw [← zSum_1 (f := sDf T G) (v := 1) (by unfold sDf; first | rw [if_pos (by omega)] | rw [if_neg (by omega)])] at hz
          exact hz
  exact loop 16 0 rfl

theorem c_X6_changes {E : zE} (hst : E.1.stackTraces = false) {H : Heap} {r : zH} {q : Nat} {Q : Nat → Nat} {n : Int} {tx G : Int → Int} {fi ac : Int} {dd : Nat → Int → Int} {kp ik : Int → Int} {rf N : Int} {w : Int} (hM : zMs E H r q Q n tx G fi ac dd kp ik rf) (hOK : mOK n tx G fi ac ik N) (hw : zR w) : zC E yX6_changes cX6_changes 2 (some .int) 4 91 [.ref q, .int (iI w)] H 0 0 (zRi (if (cWw w) = 0 then (vCh G w) else 0) (fun H1 => zFr H r H1 r (fun s => 100000 ≤ s) ∧ (((cWw w) ≠ 0 ∧ zMs E H1 r q Q n tx G fi ac dd kp ik (cWw w)) ∨ ((cWw w) = 0 ∧ zMs E H1 r q Q n tx G fi ac dd kp ik 0)))) zN := by
  refine zC.of (by decide) (Nat.le_of_ble_eq_true rfl) hst ?_
  intro x O hE hpo hpx
  subst hE
  change zG x H 0 0 0 [(0, .ref q), (1, .int (iI w))] []
  obtain ⟨sp, gd, lo, rd, tr, hO, hT, hR, hA, hY, hD, hK, hI⟩ := hM
  obtain ⟨hn, hx, hG, hN, hfi, hac, hik⟩ := hOK
  refine z_aload_n 0 O dX6_changes_0 rfl ?_
  refine z_iload_n 1 O dX6_changes_1 rfl ?_
  refine z_Si [.int (iI w)] [.ref q] kM_X6_232 O dX6_changes_2 (c_X6_isWorker hst ⟨by omega, by omega⟩) rfl rfl (by decide) (Nat.le_of_ble_eq_true rfl) (by omega) (by omega) (Nat.le_of_ble_eq_true rfl) zNx ?_
  refine z_ifb_eq 12 O dX6_changes_5 (by decide) (fun c_5 => ?_) (fun c_5 => ?_)
  · skip
    have k_5 := sBt_f.mp c_5
    refine z_iconst 1 O dX6_changes_12 (by decide +kernel) ?_
    refine z_Vim [.int (iI 1)] [] kM_X6_118 O dX6_changes_13 (c_X6_refused hst hO ⟨by omega, by omega⟩) rfl rfl hO.1 (by decide) (Nat.le_of_ble_eq_true rfl) (by omega) (by omega) (Nat.le_of_ble_eq_true rfl) zNx (fun H1 hp2 hz3 => ?_)
    obtain ⟨hf4, hz5⟩ := hp2
    have hT6 := hT.fr hf4 (by first | exact zT1 (by omega) | (show ¬ (_ ∨ _); omega) | (show ¬ (_ ∧ _); omega))
    have hR7 := hR.fr hf4 (by first | exact zT1 (by omega) | (show ¬ (_ ∨ _); omega) | (show ¬ (_ ∧ _); omega))
    have hA8 := hA.fr hf4 (by first | exact zT1 (by omega) | (show ¬ (_ ∨ _); omega) | (show ¬ (_ ∧ _); omega))
    have hY9 := hY.fr hf4 (by first | exact zT1 (by omega) | (show ¬ (_ ∨ _); omega) | (show ¬ (_ ∧ _); omega))
    have hD10 := hD.fr hf4 (by first | exact zT1 (by omega) | (show ¬ (_ ∨ _); omega) | (show ¬ (_ ∧ _); omega)) (by first | exact zT1 (by omega) | (show ¬ (_ ∨ _); omega) | (show ¬ (_ ∧ _); omega)) (by first | exact zT1 (by omega) | (show ¬ (_ ∨ _); omega) | (show ¬ (_ ∧ _); omega)) (by first | exact zT1 (by omega) | (show ¬ (_ ∨ _); omega) | (show ¬ (_ ∧ _); omega))
    have hK11 := hK.fr hf4 (by first | exact zT1 (by omega) | (show ¬ (_ ∨ _); omega) | (show ¬ (_ ∧ _); omega))
    have hI12 := hI.fr hf4 (by first | exact zT1 (by omega) | (show ¬ (_ ∨ _); omega) | (show ¬ (_ ∧ _); omega))
    rw [show zb (decide ((0 : Int) < 1)) = 1 from rfl]
    refine z_if_eq 21 O dX6_changes_16 (by decide) ⟨by omega, by omega⟩ (fun c_16 => ?_) (fun c_16 => ?_)
    · exfalso; omega
    · skip
      refine z_iconst 0 O dX6_changes_19 (by decide +kernel) ?_
      exact z_ireti O dX6_changes_20 rfl (by omega) (by omega) hpo (by rw [if_neg (by rw [show (cWw w) = 1 from by unfold cWw; (repeat first | rw [if_pos (by omega)] | rw [if_neg (by omega)] | rw [if_neg (by rw [c_5]; decide)])]; decide)]) (⟨(hf4.up (fun s h => by first | exact h.elim | omega | (simp at h ⊢; omega))), Or.inl ⟨(by rw [show (cWw w) = 1 from by unfold cWw; (repeat first | rw [if_pos (by omega)] | rw [if_neg (by omega)] | rw [if_neg (by rw [c_5]; decide)])]; decide), (by rw [show (cWw w) = 1 from by unfold cWw; (repeat first | rw [if_pos (by omega)] | rw [if_neg (by omega)] | rw [if_neg (by rw [c_5]; decide)])]; exact ⟨_, _, _, _, _, hz5, hT6, hR7, hA8, hY9, hD10, hK11, hI12⟩)⟩⟩)
  · skip
    have k_5 := sBt_t.mp c_5
    refine z_iconst 0 O dX6_changes_8 (by decide +kernel) ?_
    refine z_goto 13 O dX6_changes_9 (by decide) ?_
    refine z_Vim [.int (iI 0)] [] kM_X6_118 O dX6_changes_13 (c_X6_refused hst hO ⟨by omega, by omega⟩) rfl rfl hO.1 (by decide) (Nat.le_of_ble_eq_true rfl) (by omega) (by omega) (Nat.le_of_ble_eq_true rfl) zNx (fun H13 hp14 hz15 => ?_)
    obtain ⟨hf16, hz17⟩ := hp14
    have hT18 := hT.fr hf16 (by first | exact zT1 (by omega) | (show ¬ (_ ∨ _); omega) | (show ¬ (_ ∧ _); omega))
    have hR19 := hR.fr hf16 (by first | exact zT1 (by omega) | (show ¬ (_ ∨ _); omega) | (show ¬ (_ ∧ _); omega))
    have hA20 := hA.fr hf16 (by first | exact zT1 (by omega) | (show ¬ (_ ∨ _); omega) | (show ¬ (_ ∧ _); omega))
    have hY21 := hY.fr hf16 (by first | exact zT1 (by omega) | (show ¬ (_ ∨ _); omega) | (show ¬ (_ ∧ _); omega))
    have hD22 := hD.fr hf16 (by first | exact zT1 (by omega) | (show ¬ (_ ∨ _); omega) | (show ¬ (_ ∧ _); omega)) (by first | exact zT1 (by omega) | (show ¬ (_ ∨ _); omega) | (show ¬ (_ ∧ _); omega)) (by first | exact zT1 (by omega) | (show ¬ (_ ∨ _); omega) | (show ¬ (_ ∧ _); omega)) (by first | exact zT1 (by omega) | (show ¬ (_ ∨ _); omega) | (show ¬ (_ ∧ _); omega))
    have hK23 := hK.fr hf16 (by first | exact zT1 (by omega) | (show ¬ (_ ∨ _); omega) | (show ¬ (_ ∧ _); omega))
    have hI24 := hI.fr hf16 (by first | exact zT1 (by omega) | (show ¬ (_ ∨ _); omega) | (show ¬ (_ ∧ _); omega))
    rw [show zb (decide ((0 : Int) < 0)) = 0 from rfl]
    refine z_if_eq 21 O dX6_changes_16 (by decide) ⟨by omega, by omega⟩ (fun c_16 => ?_) (fun c_16 => ?_)
    · skip
      have hm := hG.m (w := w) ⟨by omega, by omega⟩
      have hl := hG.l (w := w) ⟨by omega, by omega⟩
      refine z_aload_n 0 O dX6_changes_21 rfl ?_
      refine z_getf kF_X6_16 O dX6_changes_22 hz17.1 rfl ?_
      refine z_iload_n 1 O dX6_changes_25 rfl ?_
      refine z_Si [.ref (Q 3), .int (iI w)] [] kM_X6_69 O dX6_changes_26 (c_X6_many hst hA20 ⟨by omega, by omega⟩) rfl rfl (by decide) (Nat.le_of_ble_eq_true rfl) (by omega) (by omega) (Nat.le_of_ble_eq_true rfl) zNx ?_
      refine z_if_ne 34 O dX6_changes_29 (by decide) ⟨by omega, by omega⟩ (fun c_29 => ?_) (fun c_29 => ?_)
      · skip
        refine z_aload_n 0 O dX6_changes_34 rfl ?_
        refine z_Vvm [] [] kM_X6_249 O dX6_changes_35 (c_X6_tryIt hst hz17 hA20 hY21) rfl rfl hz17.1 (by decide) (Nat.le_of_ble_eq_true rfl) (by omega) (by omega) (Nat.le_of_ble_eq_true rfl) zNx (fun H25 hp26 hz27 => ?_)
        obtain ⟨hf28, hz29⟩ := hp26
        have hz30 := hz17.fr hf28 (by first | exact zT1 (by omega) | (show ¬ (_ ∨ _); omega) | (show ¬ (_ ∧ _); omega))
        have hT31 := hT18.fr hf28 (by first | exact zT1 (by omega) | (show ¬ (_ ∨ _); omega) | (show ¬ (_ ∧ _); omega))
        have hR32 := hR19.fr hf28 (by first | exact zT1 (by omega) | (show ¬ (_ ∨ _); omega) | (show ¬ (_ ∧ _); omega))
        have hA33 := hA20.fr hf28 (by first | exact zT1 (by omega) | (show ¬ (_ ∨ _); omega) | (show ¬ (_ ∧ _); omega))
        have hD34 := hD22.fr hf28 (by first | exact zT1 (by omega) | (show ¬ (_ ∨ _); omega) | (show ¬ (_ ∧ _); omega)) (by first | exact zT1 (by omega) | (show ¬ (_ ∨ _); omega) | (show ¬ (_ ∧ _); omega)) (by first | exact zT1 (by omega) | (show ¬ (_ ∨ _); omega) | (show ¬ (_ ∧ _); omega)) (by first | exact zT1 (by omega) | (show ¬ (_ ∨ _); omega) | (show ¬ (_ ∧ _); omega))
        have hK35 := hK23.fr hf28 (by first | exact zT1 (by omega) | (show ¬ (_ ∨ _); omega) | (show ¬ (_ ∧ _); omega))
        have hI36 := hI24.fr hf28 (by first | exact zT1 (by omega) | (show ¬ (_ ∨ _); omega) | (show ¬ (_ ∧ _); omega))
        refine z_aload_n 0 O dX6_changes_38 rfl ?_
        refine z_getf kF_X6_19 O dX6_changes_39 hz30.1 rfl ?_
        refine z_iload_n 1 O dX6_changes_42 rfl ?_
        refine z_Sim [.ref (Q 4), .int (iI w)] [] kM_X6_184 O dX6_changes_43 (c_X6_failIn hst hz29 hG ⟨by omega, by omega⟩ (by omega)) rfl rfl (by decide) (Nat.le_of_ble_eq_true rfl) (by omega) (by omega) (Nat.le_of_ble_eq_true rfl) zNx (fun H37 hp38 hz39 => ?_)
        obtain ⟨hf40, ha41⟩ := hp38
        have hz42 := hz30.fr hf40 (zT1 (by omega))
        have hT43 := hT31.fr hf40 (zT1 (by omega))
        have hR44 := hR32.fr hf40 (zT1 (by omega))
        have hA45 := hA33.fr hf40 (zT1 (by omega))
        have hD46 := hD34.fr hf40 (zT1 (by omega)) (zT1 (by omega)) (zT1 (by omega)) (zT1 (by omega))
        have hK47 := hK35.fr hf40 (zT1 (by omega))
        have hI48 := hI36.fr hf40 (zT1 (by omega))
        refine z_pop O dX6_changes_46 rfl ?_
        refine z_aload_n 0 O dX6_changes_47 rfl ?_
        refine z_Vi [] [] kM_X6_252 O dX6_changes_48 (c_X6_other hst hz42 hA45 ha41 (fun c h0 h1 => hG.2.1 c h0 h1) (fun c h0 h1 => (hG.fail (w := w) ⟨by omega, by omega⟩ (by omega)).2.1 c h0 h1)) rfl rfl hz42.1 (by decide) (Nat.le_of_ble_eq_true rfl) (by omega) (by omega) (Nat.le_of_ble_eq_true rfl) zNx ?_
        exact z_ireti O dX6_changes_51 rfl (by omega) (by omega) hpo (by rw [if_pos (show (cWw w) = 0 from by unfold cWw; (repeat first | rw [if_pos (by omega)] | rw [if_neg (by omega)] | rw [if_pos c_5]))]; unfold vCh; (repeat first | rw [if_pos (by omega)] | rw [if_neg (by omega)] | rw [if_pos c_5]); (try exact zb_t c_5)) (⟨(((((hf16.up (fun s h => by first | exact h.elim | omega | (simp at h ⊢; omega)))).tr (hf28.up (fun s h => by first | exact h.elim | omega | (simp at h ⊢; omega))))).tr (hf40.up (fun s h => by first | exact h.elim | omega | (simp at h ⊢; omega)))), Or.inr ⟨(show (cWw w) = 0 from by unfold cWw; (repeat first | rw [if_pos (by omega)] | rw [if_neg (by omega)] | rw [if_pos c_5])), ⟨_, _, _, _, _, hz42, hT43, hR44, hA45, ha41, hD46, hK47, hI48⟩⟩⟩)
      · skip
        refine z_iconst (-1) O dX6_changes_32 (by decide +kernel) ?_
        exact z_ireti O dX6_changes_33 rfl (by omega) (by omega) hpo (by rw [if_pos (show (cWw w) = 0 from by unfold cWw; (repeat first | rw [if_pos (by omega)] | rw [if_neg (by omega)] | rw [if_pos c_5]))]; unfold vCh; (repeat first | rw [if_pos (by omega)] | rw [if_neg (by omega)] | rw [if_pos c_5]); (try exact zb_t c_5)) (⟨(hf16.up (fun s h => by first | exact h.elim | omega | (simp at h ⊢; omega))), Or.inr ⟨(show (cWw w) = 0 from by unfold cWw; (repeat first | rw [if_pos (by omega)] | rw [if_neg (by omega)] | rw [if_pos c_5])), ⟨_, _, _, _, _, hz17, hT18, hR19, hA20, hY21, hD22, hK23, hI24⟩⟩⟩)
    · exfalso; omega

theorem c_X6_lost {E : zE} (hst : E.1.stackTraces = false) {H : Heap} {r : zH} {q : Nat} {Q : Nat → Nat} {n : Int} {tx G : Int → Int} {fi ac : Int} {dd : Nat → Int → Int} {kp ik : Int → Int} {rf N : Int} {w i : Int} (hM : zMs E H r q Q n tx G fi ac dd kp ik rf) (hOK : mOK n tx G fi ac ik N) (hw : zR w) (hi : zR i) : zC E yX6_lost cX6_lost 4 (some .int) 4 88 [.ref q, .int (iI w), .int (iI i)] H 0 0 (zRi (if (cLo G w i) = 0 then (zSum 16 (sDf (sBack G w i) G)) else 0) (fun H1 => zFr H r H1 r (fun s => 100000 ≤ s) ∧ (((cLo G w i) ≠ 0 ∧ zMs E H1 r q Q n tx G fi ac dd kp ik (cLo G w i)) ∨ ((cLo G w i) = 0 ∧ zMs E H1 r q Q n tx G fi ac dd kp ik 0)))) zN := by
  refine zC.of (by decide) (Nat.le_of_ble_eq_true rfl) hst ?_
  intro x O hE hpo hpx
  subst hE
  change zG x H 0 0 0 [(0, .ref q), (1, .int (iI w)), (2, .int (iI i))] []
  obtain ⟨sp, gd, lo, rd, tr, hO, hT, hR, hA, hY, hD, hK, hI⟩ := hM
  obtain ⟨hn, hx, hG, hN, hfi, hac, hik⟩ := hOK
  refine z_iload_n 1 O dX6_lost_0 rfl ?_
  refine z_Si [.int (iI w)] [] kM_X6_232 O dX6_lost_1 (c_X6_isWorker hst ⟨by omega, by omega⟩) rfl rfl (by decide) (Nat.le_of_ble_eq_true rfl) (by omega) (by omega) (Nat.le_of_ble_eq_true rfl) zNx ?_
  refine z_ifb_eq 23 O dX6_lost_4 (by decide) (fun c_4 => ?_) (fun c_4 => ?_)
  · skip
    have k_4 := sBt_f.mp c_4
    refine z_iconst 0 O dX6_lost_23 (by decide +kernel) ?_
    refine z_istore_n [(3, .int (iI 0)), (0, .ref q), (1, .int (iI w)), (2, .int (iI i))] O dX6_lost_24 (by decide) rfl ?_
    refine z_aload_n 1 O dX6_lost_25 rfl ?_
    refine z_iload_n 0 O dX6_lost_26 rfl ?_
    refine z_if_eq 34 O dX6_lost_27 (by decide) ⟨by omega, by omega⟩ (fun c_27 => ?_) (fun c_27 => ?_)
    · skip
      refine z_iconst 1 O dX6_lost_34 (by decide +kernel) ?_
      refine z_Vim [.int (iI 1)] [] kM_X6_118 O dX6_lost_35 (c_X6_refused hst hO ⟨by omega, by omega⟩) rfl rfl hO.1 (by decide) (Nat.le_of_ble_eq_true rfl) (by omega) (by omega) (Nat.le_of_ble_eq_true rfl) zNx (fun H1 hp2 hz3 => ?_)
      obtain ⟨hf4, hz5⟩ := hp2
      have hT6 := hT.fr hf4 (by first | exact zT1 (by omega) | (show ¬ (_ ∨ _); omega) | (show ¬ (_ ∧ _); omega))
      have hR7 := hR.fr hf4 (by first | exact zT1 (by omega) | (show ¬ (_ ∨ _); omega) | (show ¬ (_ ∧ _); omega))
      have hA8 := hA.fr hf4 (by first | exact zT1 (by omega) | (show ¬ (_ ∨ _); omega) | (show ¬ (_ ∧ _); omega))
      have hY9 := hY.fr hf4 (by first | exact zT1 (by omega) | (show ¬ (_ ∨ _); omega) | (show ¬ (_ ∧ _); omega))
      have hD10 := hD.fr hf4 (by first | exact zT1 (by omega) | (show ¬ (_ ∨ _); omega) | (show ¬ (_ ∧ _); omega)) (by first | exact zT1 (by omega) | (show ¬ (_ ∨ _); omega) | (show ¬ (_ ∧ _); omega)) (by first | exact zT1 (by omega) | (show ¬ (_ ∨ _); omega) | (show ¬ (_ ∧ _); omega)) (by first | exact zT1 (by omega) | (show ¬ (_ ∨ _); omega) | (show ¬ (_ ∧ _); omega))
      have hK11 := hK.fr hf4 (by first | exact zT1 (by omega) | (show ¬ (_ ∨ _); omega) | (show ¬ (_ ∧ _); omega))
      have hI12 := hI.fr hf4 (by first | exact zT1 (by omega) | (show ¬ (_ ∨ _); omega) | (show ¬ (_ ∧ _); omega))
      rw [show zb (decide ((0 : Int) < 1)) = 1 from rfl]
      refine z_if_eq 43 O dX6_lost_38 (by decide) ⟨by omega, by omega⟩ (fun c_38 => ?_) (fun c_38 => ?_)
      · exfalso; omega
      · skip
        refine z_iconst 0 O dX6_lost_41 (by decide +kernel) ?_
        exact z_ireti O dX6_lost_42 rfl (by omega) (by omega) hpo (by rw [if_neg (by rw [show (cLo G w i) = 1 from by unfold cLo; (repeat first | rw [if_pos (by omega)] | rw [if_neg (by omega)] | rw [if_neg (by rw [c_4]; decide)])]; decide)]) (⟨(hf4.up (fun s h => by first | exact h.elim | omega | (simp at h ⊢; omega))), Or.inl ⟨(by rw [show (cLo G w i) = 1 from by unfold cLo; (repeat first | rw [if_pos (by omega)] | rw [if_neg (by omega)] | rw [if_neg (by rw [c_4]; decide)])]; decide), (by rw [show (cLo G w i) = 1 from by unfold cLo; (repeat first | rw [if_pos (by omega)] | rw [if_neg (by omega)] | rw [if_neg (by rw [c_4]; decide)])]; exact ⟨_, _, _, _, _, hz5, hT6, hR7, hA8, hY9, hD10, hK11, hI12⟩)⟩⟩)
    · exfalso; omega
  · skip
    have k_4 := sBt_t.mp c_4
    refine z_aload_n 0 O dX6_lost_7 rfl ?_
    refine z_getf kF_X6_16 O dX6_lost_8 hO.1 rfl ?_
    refine z_iload_n 1 O dX6_lost_11 rfl ?_
    refine z_iload_n 2 O dX6_lost_12 rfl ?_
    refine z_Si [.ref (Q 3), .int (iI w), .int (iI i)] [] kM_X6_163 O dX6_lost_13 (c_X6_hasPoint hst hA hG ⟨by omega, by omega⟩ ⟨by omega, by omega⟩) rfl rfl (by decide) (Nat.le_of_ble_eq_true rfl) (by omega) (by omega) (Nat.le_of_ble_eq_true rfl) zNx ?_
    refine z_ifb_eq 23 O dX6_lost_16 (by decide) (fun c_16 => ?_) (fun c_16 => ?_)
    · skip
      have k_16 := sHp_f.mp c_16
      refine z_iconst 0 O dX6_lost_23 (by decide +kernel) ?_
      refine z_istore_n [(3, .int (iI 0)), (0, .ref q), (1, .int (iI w)), (2, .int (iI i))] O dX6_lost_24 (by decide) rfl ?_
      refine z_aload_n 1 O dX6_lost_25 rfl ?_
      refine z_iload_n 0 O dX6_lost_26 rfl ?_
      refine z_if_eq 34 O dX6_lost_27 (by decide) ⟨by omega, by omega⟩ (fun c_27 => ?_) (fun c_27 => ?_)
      · skip
        refine z_iconst 1 O dX6_lost_34 (by decide +kernel) ?_
        refine z_Vim [.int (iI 1)] [] kM_X6_118 O dX6_lost_35 (c_X6_refused hst hO ⟨by omega, by omega⟩) rfl rfl hO.1 (by decide) (Nat.le_of_ble_eq_true rfl) (by omega) (by omega) (Nat.le_of_ble_eq_true rfl) zNx (fun H13 hp14 hz15 => ?_)
        obtain ⟨hf16, hz17⟩ := hp14
        have hT18 := hT.fr hf16 (by first | exact zT1 (by omega) | (show ¬ (_ ∨ _); omega) | (show ¬ (_ ∧ _); omega))
        have hR19 := hR.fr hf16 (by first | exact zT1 (by omega) | (show ¬ (_ ∨ _); omega) | (show ¬ (_ ∧ _); omega))
        have hA20 := hA.fr hf16 (by first | exact zT1 (by omega) | (show ¬ (_ ∨ _); omega) | (show ¬ (_ ∧ _); omega))
        have hY21 := hY.fr hf16 (by first | exact zT1 (by omega) | (show ¬ (_ ∨ _); omega) | (show ¬ (_ ∧ _); omega))
        have hD22 := hD.fr hf16 (by first | exact zT1 (by omega) | (show ¬ (_ ∨ _); omega) | (show ¬ (_ ∧ _); omega)) (by first | exact zT1 (by omega) | (show ¬ (_ ∨ _); omega) | (show ¬ (_ ∧ _); omega)) (by first | exact zT1 (by omega) | (show ¬ (_ ∨ _); omega) | (show ¬ (_ ∧ _); omega)) (by first | exact zT1 (by omega) | (show ¬ (_ ∨ _); omega) | (show ¬ (_ ∧ _); omega))
        have hK23 := hK.fr hf16 (by first | exact zT1 (by omega) | (show ¬ (_ ∨ _); omega) | (show ¬ (_ ∧ _); omega))
        have hI24 := hI.fr hf16 (by first | exact zT1 (by omega) | (show ¬ (_ ∨ _); omega) | (show ¬ (_ ∧ _); omega))
        rw [show zb (decide ((0 : Int) < 1)) = 1 from rfl]
        refine z_if_eq 43 O dX6_lost_38 (by decide) ⟨by omega, by omega⟩ (fun c_38 => ?_) (fun c_38 => ?_)
        · exfalso; omega
        · skip
          refine z_iconst 0 O dX6_lost_41 (by decide +kernel) ?_
          exact z_ireti O dX6_lost_42 rfl (by omega) (by omega) hpo (by rw [if_neg (by rw [show (cLo G w i) = 1 from by unfold cLo; (repeat first | rw [if_pos (by omega)] | rw [if_neg (by omega)] | rw [if_pos c_4] | rw [if_neg (by rw [c_16]; decide)])]; decide)]) (⟨(hf16.up (fun s h => by first | exact h.elim | omega | (simp at h ⊢; omega))), Or.inl ⟨(by rw [show (cLo G w i) = 1 from by unfold cLo; (repeat first | rw [if_pos (by omega)] | rw [if_neg (by omega)] | rw [if_pos c_4] | rw [if_neg (by rw [c_16]; decide)])]; decide), (by rw [show (cLo G w i) = 1 from by unfold cLo; (repeat first | rw [if_pos (by omega)] | rw [if_neg (by omega)] | rw [if_pos c_4] | rw [if_neg (by rw [c_16]; decide)])]; exact ⟨_, _, _, _, _, hz17, hT18, hR19, hA20, hY21, hD22, hK23, hI24⟩)⟩⟩)
      · exfalso; omega
    · skip
      have k_16 := sHp_t.mp c_16
      refine z_iconst 1 O dX6_lost_19 (by decide +kernel) ?_
      refine z_goto 24 O dX6_lost_20 (by decide) ?_
      refine z_istore_n [(3, .int (iI 1)), (0, .ref q), (1, .int (iI w)), (2, .int (iI i))] O dX6_lost_24 (by decide) rfl ?_
      refine z_aload_n 1 O dX6_lost_25 rfl ?_
      refine z_iload_n 0 O dX6_lost_26 rfl ?_
      refine z_if_eq 34 O dX6_lost_27 (by decide) ⟨by omega, by omega⟩ (fun c_27 => ?_) (fun c_27 => ?_)
      · exfalso; omega
      · skip
        refine z_iconst 0 O dX6_lost_30 (by decide +kernel) ?_
        refine z_goto 35 O dX6_lost_31 (by decide) ?_
        refine z_Vim [.int (iI 0)] [] kM_X6_118 O dX6_lost_35 (c_X6_refused hst hO ⟨by omega, by omega⟩) rfl rfl hO.1 (by decide) (Nat.le_of_ble_eq_true rfl) (by omega) (by omega) (Nat.le_of_ble_eq_true rfl) zNx (fun H25 hp26 hz27 => ?_)
        obtain ⟨hf28, hz29⟩ := hp26
        have hT30 := hT.fr hf28 (by first | exact zT1 (by omega) | (show ¬ (_ ∨ _); omega) | (show ¬ (_ ∧ _); omega))
        have hR31 := hR.fr hf28 (by first | exact zT1 (by omega) | (show ¬ (_ ∨ _); omega) | (show ¬ (_ ∧ _); omega))
        have hA32 := hA.fr hf28 (by first | exact zT1 (by omega) | (show ¬ (_ ∨ _); omega) | (show ¬ (_ ∧ _); omega))
        have hY33 := hY.fr hf28 (by first | exact zT1 (by omega) | (show ¬ (_ ∨ _); omega) | (show ¬ (_ ∧ _); omega))
        have hD34 := hD.fr hf28 (by first | exact zT1 (by omega) | (show ¬ (_ ∨ _); omega) | (show ¬ (_ ∧ _); omega)) (by first | exact zT1 (by omega) | (show ¬ (_ ∨ _); omega) | (show ¬ (_ ∧ _); omega)) (by first | exact zT1 (by omega) | (show ¬ (_ ∨ _); omega) | (show ¬ (_ ∧ _); omega)) (by first | exact zT1 (by omega) | (show ¬ (_ ∨ _); omega) | (show ¬ (_ ∧ _); omega))
        have hK35 := hK.fr hf28 (by first | exact zT1 (by omega) | (show ¬ (_ ∨ _); omega) | (show ¬ (_ ∧ _); omega))
        have hI36 := hI.fr hf28 (by first | exact zT1 (by omega) | (show ¬ (_ ∨ _); omega) | (show ¬ (_ ∧ _); omega))
        rw [show zb (decide ((0 : Int) < 0)) = 0 from rfl]
        refine z_if_eq 43 O dX6_lost_38 (by decide) ⟨by omega, by omega⟩ (fun c_38 => ?_) (fun c_38 => ?_)
        · skip
          refine z_aload_n 1 O dX6_lost_43 rfl ?_
          refine z_Vvm [] [] kM_X6_249 O dX6_lost_44 (c_X6_tryIt hst hz29 hA32 hY33) rfl rfl hz29.1 (by decide) (Nat.le_of_ble_eq_true rfl) (by omega) (by omega) (Nat.le_of_ble_eq_true rfl) zNx (fun H37 hp38 hz39 => ?_)
          obtain ⟨hf40, hz41⟩ := hp38
          have hz42 := hz29.fr hf40 (by first | exact zT1 (by omega) | (show ¬ (_ ∨ _); omega) | (show ¬ (_ ∧ _); omega))
          have hT43 := hT30.fr hf40 (by first | exact zT1 (by omega) | (show ¬ (_ ∨ _); omega) | (show ¬ (_ ∧ _); omega))
          have hR44 := hR31.fr hf40 (by first | exact zT1 (by omega) | (show ¬ (_ ∨ _); omega) | (show ¬ (_ ∧ _); omega))
          have hA45 := hA32.fr hf40 (by first | exact zT1 (by omega) | (show ¬ (_ ∨ _); omega) | (show ¬ (_ ∧ _); omega))
          have hD46 := hD34.fr hf40 (by first | exact zT1 (by omega) | (show ¬ (_ ∨ _); omega) | (show ¬ (_ ∧ _); omega)) (by first | exact zT1 (by omega) | (show ¬ (_ ∨ _); omega) | (show ¬ (_ ∧ _); omega)) (by first | exact zT1 (by omega) | (show ¬ (_ ∨ _); omega) | (show ¬ (_ ∧ _); omega)) (by first | exact zT1 (by omega) | (show ¬ (_ ∨ _); omega) | (show ¬ (_ ∧ _); omega))
          have hK47 := hK35.fr hf40 (by first | exact zT1 (by omega) | (show ¬ (_ ∨ _); omega) | (show ¬ (_ ∧ _); omega))
          have hI48 := hI36.fr hf40 (by first | exact zT1 (by omega) | (show ¬ (_ ∨ _); omega) | (show ¬ (_ ∧ _); omega))
          refine z_aload_n 1 O dX6_lost_47 rfl ?_
          refine z_getf kF_X6_19 O dX6_lost_48 hz42.1 rfl ?_
          refine z_iload_n 2 O dX6_lost_51 rfl ?_
          refine z_iload_n 3 O dX6_lost_52 rfl ?_
          refine z_Sim [.ref (Q 4), .int (iI w), .int (iI i)] [] kM_X6_166 O dX6_lost_53 (c_X6_backIn hst hz41 hG ⟨by omega, by omega⟩ (by omega) ⟨by omega, by omega⟩) rfl rfl (by decide) (Nat.le_of_ble_eq_true rfl) (by omega) (by omega) (Nat.le_of_ble_eq_true rfl) zNx (fun H49 hp50 hz51 => ?_)
          obtain ⟨hf52, ha53⟩ := hp50
          have hz54 := hz42.fr hf52 (zT1 (by omega))
          have hT55 := hT43.fr hf52 (zT1 (by omega))
          have hR56 := hR44.fr hf52 (zT1 (by omega))
          have hA57 := hA45.fr hf52 (zT1 (by omega))
          have hD58 := hD46.fr hf52 (zT1 (by omega)) (zT1 (by omega)) (zT1 (by omega)) (zT1 (by omega))
          have hK59 := hK47.fr hf52 (zT1 (by omega))
          have hI60 := hI48.fr hf52 (zT1 (by omega))
          refine z_pop O dX6_lost_56 rfl ?_
          refine z_aload_n 1 O dX6_lost_57 rfl ?_
          refine z_Vi [] [] kM_X6_252 O dX6_lost_58 (c_X6_other hst hz54 hA57 ha53 (fun c h0 h1 => hG.2.1 c h0 h1) (fun c h0 h1 => (hG.back (w := w) (i := i) ⟨by omega, by omega⟩ (by omega) ⟨by omega, by omega⟩).2.1 c h0 h1)) rfl rfl hz54.1 (by decide) (Nat.le_of_ble_eq_true rfl) (by omega) (by omega) (Nat.le_of_ble_eq_true rfl) zNx ?_
          exact z_ireti O dX6_lost_61 rfl (by omega) (by omega) hpo (by rw [if_pos (show (cLo G w i) = 0 from by unfold cLo; (repeat first | rw [if_pos (by omega)] | rw [if_neg (by omega)] | rw [if_pos c_4] | rw [if_pos c_16]))]) (⟨(((((hf28.up (fun s h => by first | exact h.elim | omega | (simp at h ⊢; omega)))).tr (hf40.up (fun s h => by first | exact h.elim | omega | (simp at h ⊢; omega))))).tr (hf52.up (fun s h => by first | exact h.elim | omega | (simp at h ⊢; omega)))), Or.inr ⟨(show (cLo G w i) = 0 from by unfold cLo; (repeat first | rw [if_pos (by omega)] | rw [if_neg (by omega)] | rw [if_pos c_4] | rw [if_pos c_16])), ⟨_, _, _, _, _, hz54, hT55, hR56, hA57, ha53, hD58, hK59, hI60⟩⟩⟩)
        · exfalso; omega

theorem c_X6_mercyLeft {E : zE} (hst : E.1.stackTraces = false) {H : Heap} {r : zH} {q : Nat} {Q : Nat → Nat} {n : Int} {tx G : Int → Int} {fi ac : Int} {dd : Nat → Int → Int} {kp ik : Int → Int} {rf N : Int} {w : Int} (hM : zMs E H r q Q n tx G fi ac dd kp ik rf) (hOK : mOK n tx G fi ac ik N) (hw : zR w) : zC E yX6_mercyLeft cX6_mercyLeft 3 (some .int) 5 107 [.ref q, .int (iI w)] H 0 0 (zRi (if (cWw w) = 0 then (vMl G w) else 0) (fun H1 => zFr H r H1 r (fun s => 100000 ≤ s) ∧ (((cWw w) ≠ 0 ∧ zMs E H1 r q Q n tx G fi ac dd kp ik (cWw w)) ∨ ((cWw w) = 0 ∧ zMs E H1 r q Q n tx G fi ac dd kp ik 0)))) zN := by
  refine zC.of (by decide) (Nat.le_of_ble_eq_true rfl) hst ?_
  intro x O hE hpo hpx
  subst hE
  change zG x H 0 0 0 [(0, .ref q), (1, .int (iI w))] []
  obtain ⟨sp, gd, lo, rd, tr, hO, hT, hR, hA, hY, hD, hK, hI⟩ := hM
  obtain ⟨hn, hx, hG, hN, hfi, hac, hik⟩ := hOK
  refine z_aload_n 0 O dX6_mercyLeft_0 rfl ?_
  refine z_iload_n 1 O dX6_mercyLeft_1 rfl ?_
  refine z_Si [.int (iI w)] [.ref q] kM_X6_232 O dX6_mercyLeft_2 (c_X6_isWorker hst ⟨by omega, by omega⟩) rfl rfl (by decide) (Nat.le_of_ble_eq_true rfl) (by omega) (by omega) (Nat.le_of_ble_eq_true rfl) zNx ?_
  refine z_ifb_eq 12 O dX6_mercyLeft_5 (by decide) (fun c_5 => ?_) (fun c_5 => ?_)
  · skip
    have k_5 := sBt_f.mp c_5
    refine z_iconst 1 O dX6_mercyLeft_12 (by decide +kernel) ?_
    refine z_Vim [.int (iI 1)] [] kM_X6_118 O dX6_mercyLeft_13 (c_X6_refused hst hO ⟨by omega, by omega⟩) rfl rfl hO.1 (by decide) (Nat.le_of_ble_eq_true rfl) (by omega) (by omega) (Nat.le_of_ble_eq_true rfl) zNx (fun H1 hp2 hz3 => ?_)
    obtain ⟨hf4, hz5⟩ := hp2
    have hT6 := hT.fr hf4 (by first | exact zT1 (by omega) | (show ¬ (_ ∨ _); omega) | (show ¬ (_ ∧ _); omega))
    have hR7 := hR.fr hf4 (by first | exact zT1 (by omega) | (show ¬ (_ ∨ _); omega) | (show ¬ (_ ∧ _); omega))
    have hA8 := hA.fr hf4 (by first | exact zT1 (by omega) | (show ¬ (_ ∨ _); omega) | (show ¬ (_ ∧ _); omega))
    have hY9 := hY.fr hf4 (by first | exact zT1 (by omega) | (show ¬ (_ ∨ _); omega) | (show ¬ (_ ∧ _); omega))
    have hD10 := hD.fr hf4 (by first | exact zT1 (by omega) | (show ¬ (_ ∨ _); omega) | (show ¬ (_ ∧ _); omega)) (by first | exact zT1 (by omega) | (show ¬ (_ ∨ _); omega) | (show ¬ (_ ∧ _); omega)) (by first | exact zT1 (by omega) | (show ¬ (_ ∨ _); omega) | (show ¬ (_ ∧ _); omega)) (by first | exact zT1 (by omega) | (show ¬ (_ ∨ _); omega) | (show ¬ (_ ∧ _); omega))
    have hK11 := hK.fr hf4 (by first | exact zT1 (by omega) | (show ¬ (_ ∨ _); omega) | (show ¬ (_ ∧ _); omega))
    have hI12 := hI.fr hf4 (by first | exact zT1 (by omega) | (show ¬ (_ ∨ _); omega) | (show ¬ (_ ∧ _); omega))
    rw [show zb (decide ((0 : Int) < 1)) = 1 from rfl]
    refine z_if_eq 21 O dX6_mercyLeft_16 (by decide) ⟨by omega, by omega⟩ (fun c_16 => ?_) (fun c_16 => ?_)
    · exfalso; omega
    · skip
      refine z_iconst 0 O dX6_mercyLeft_19 (by decide +kernel) ?_
      exact z_ireti O dX6_mercyLeft_20 rfl (by omega) (by omega) hpo (by rw [if_neg (by rw [show (cWw w) = 1 from by unfold cWw; (repeat first | rw [if_pos (by omega)] | rw [if_neg (by omega)] | rw [if_neg (by rw [c_5]; decide)])]; decide)]) (⟨(hf4.up (fun s h => by first | exact h.elim | omega | (simp at h ⊢; omega))), Or.inl ⟨(by rw [show (cWw w) = 1 from by unfold cWw; (repeat first | rw [if_pos (by omega)] | rw [if_neg (by omega)] | rw [if_neg (by rw [c_5]; decide)])]; decide), (by rw [show (cWw w) = 1 from by unfold cWw; (repeat first | rw [if_pos (by omega)] | rw [if_neg (by omega)] | rw [if_neg (by rw [c_5]; decide)])]; exact ⟨_, _, _, _, _, hz5, hT6, hR7, hA8, hY9, hD10, hK11, hI12⟩)⟩⟩)
  · skip
    have k_5 := sBt_t.mp c_5
    refine z_iconst 0 O dX6_mercyLeft_8 (by decide +kernel) ?_
    refine z_goto 13 O dX6_mercyLeft_9 (by decide) ?_
    refine z_Vim [.int (iI 0)] [] kM_X6_118 O dX6_mercyLeft_13 (c_X6_refused hst hO ⟨by omega, by omega⟩) rfl rfl hO.1 (by decide) (Nat.le_of_ble_eq_true rfl) (by omega) (by omega) (Nat.le_of_ble_eq_true rfl) zNx (fun H13 hp14 hz15 => ?_)
    obtain ⟨hf16, hz17⟩ := hp14
    have hT18 := hT.fr hf16 (by first | exact zT1 (by omega) | (show ¬ (_ ∨ _); omega) | (show ¬ (_ ∧ _); omega))
    have hR19 := hR.fr hf16 (by first | exact zT1 (by omega) | (show ¬ (_ ∨ _); omega) | (show ¬ (_ ∧ _); omega))
    have hA20 := hA.fr hf16 (by first | exact zT1 (by omega) | (show ¬ (_ ∨ _); omega) | (show ¬ (_ ∧ _); omega))
    have hY21 := hY.fr hf16 (by first | exact zT1 (by omega) | (show ¬ (_ ∨ _); omega) | (show ¬ (_ ∧ _); omega))
    have hD22 := hD.fr hf16 (by first | exact zT1 (by omega) | (show ¬ (_ ∨ _); omega) | (show ¬ (_ ∧ _); omega)) (by first | exact zT1 (by omega) | (show ¬ (_ ∨ _); omega) | (show ¬ (_ ∧ _); omega)) (by first | exact zT1 (by omega) | (show ¬ (_ ∨ _); omega) | (show ¬ (_ ∧ _); omega)) (by first | exact zT1 (by omega) | (show ¬ (_ ∨ _); omega) | (show ¬ (_ ∧ _); omega))
    have hK23 := hK.fr hf16 (by first | exact zT1 (by omega) | (show ¬ (_ ∨ _); omega) | (show ¬ (_ ∧ _); omega))
    have hI24 := hI.fr hf16 (by first | exact zT1 (by omega) | (show ¬ (_ ∨ _); omega) | (show ¬ (_ ∧ _); omega))
    rw [show zb (decide ((0 : Int) < 0)) = 0 from rfl]
    refine z_if_eq 21 O dX6_mercyLeft_16 (by decide) ⟨by omega, by omega⟩ (fun c_16 => ?_) (fun c_16 => ?_)
    · skip
      have hm := hG.m (w := w) ⟨by omega, by omega⟩
      have hl := hG.l (w := w) ⟨by omega, by omega⟩
      refine z_aload_n 0 O dX6_mercyLeft_21 rfl ?_
      refine z_getf kF_X6_16 O dX6_mercyLeft_22 hz17.1 rfl ?_
      refine z_iload_n 1 O dX6_mercyLeft_25 rfl ?_
      refine z_Si [.ref (Q 3), .int (iI w)] [] kM_X6_89 O dX6_mercyLeft_26 (c_X6_isOpen hst hA20 hG ⟨by omega, by omega⟩) rfl rfl (by decide) (Nat.le_of_ble_eq_true rfl) (by omega) (by omega) (Nat.le_of_ble_eq_true rfl) zNx ?_
      refine z_ifb_eq 43 O dX6_mercyLeft_29 (by decide) (fun c_29 => ?_) (fun c_29 => ?_)
      · skip
        have k_29 := sOp_f.mp c_29
        refine z_iconst (-1) O dX6_mercyLeft_43 (by decide +kernel) ?_
        exact z_ireti O dX6_mercyLeft_44 rfl (by omega) (by omega) hpo (by rw [if_pos (show (cWw w) = 0 from by unfold cWw; (repeat first | rw [if_pos (by omega)] | rw [if_neg (by omega)] | rw [if_pos c_5] | rw [if_neg (by rw [c_29]; decide)]))]; unfold vMl; (repeat first | rw [if_pos (by omega)] | rw [if_neg (by omega)] | rw [if_pos c_5] | rw [if_neg (by rw [c_29]; decide)]); (try exact zb_t c_5); (try exact zb_f c_29)) (⟨(hf16.up (fun s h => by first | exact h.elim | omega | (simp at h ⊢; omega))), Or.inr ⟨(show (cWw w) = 0 from by unfold cWw; (repeat first | rw [if_pos (by omega)] | rw [if_neg (by omega)] | rw [if_pos c_5] | rw [if_neg (by rw [c_29]; decide)])), ⟨_, _, _, _, _, hz17, hT18, hR19, hA20, hY21, hD22, hK23, hI24⟩⟩⟩)
      · skip
        have k_29 := sOp_t.mp c_29
        refine z_aload_n 0 O dX6_mercyLeft_32 rfl ?_
        refine z_getf kF_X6_16 O dX6_mercyLeft_33 hz17.1 rfl ?_
        refine z_iload_n 1 O dX6_mercyLeft_36 rfl ?_
        refine z_Si [.ref (Q 3), .int (iI w)] [] kM_X6_169 O dX6_mercyLeft_37 (c_X6_canBegin hst hA20 hG ⟨by omega, by omega⟩) rfl rfl (by decide) (Nat.le_of_ble_eq_true rfl) (by omega) (by omega) (Nat.le_of_ble_eq_true rfl) zNx ?_
        refine z_ifb_ne 45 O dX6_mercyLeft_40 (by decide) (fun c_40 => ?_) (fun c_40 => ?_)
        · skip
          have k_40 := sCb_t.mp c_40
          have hi := hG.in (w := w) ⟨by omega, by omega⟩ (by omega)
          refine z_aload_n 0 O dX6_mercyLeft_45 rfl ?_
          refine z_getf kF_X6_16 O dX6_mercyLeft_46 hz17.1 rfl ?_
          have hm3 := hG.2.2.2.1
          refine z_bipush 32 O dX6_mercyLeft_49 (by decide +kernel) ?_
          refine z_iald O dX6_mercyLeft_51 hA20.1 ⟨by omega, by omega⟩ (by omega) (by omega) ?_
          refine z_aload_n 0 O dX6_mercyLeft_52 rfl ?_
          refine z_getf kF_X6_16 O dX6_mercyLeft_53 hz17.1 rfl ?_
          refine z_aload_n 0 O dX6_mercyLeft_56 rfl ?_
          refine z_getf kF_X6_16 O dX6_mercyLeft_57 hz17.1 rfl ?_
          refine z_iload_n 1 O dX6_mercyLeft_60 rfl ?_
          refine z_iconst 3 O dX6_mercyLeft_61 (by decide +kernel) ?_
          refine z_Si [.ref (Q 3), .int (iI w), .int (iI 3)] [.ref (Q 3), .int (iI (G 32))] kM_X6_77 O dX6_mercyLeft_62 (c_X6_innerAt hst hA20 ⟨by omega, by omega⟩) rfl rfl (by decide) (Nat.le_of_ble_eq_true rfl) (by omega) (by omega) (Nat.le_of_ble_eq_true rfl) zNx ?_
          have ea25 : sIn G w 3 = 36 + 1350 * w + (5 + 13 * (G (at_ w 0) - 1) + 3) := rfl
          have ea26 : at_ w 0 = 36 + 1350 * w + 0 := rfl
          refine z_iald O dX6_mercyLeft_65 hA20.1 ⟨by omega, by omega⟩ (by omega) (by omega) ?_
          refine z_isub O dX6_mercyLeft_66 ?_
          refine z_istore_n [(2, .int (iI ((G 32) - (G (sIn G w 3))))), (0, .ref q), (1, .int (iI w))] O dX6_mercyLeft_67 (by decide) rfl ?_
          refine z_iload_n 0 O dX6_mercyLeft_68 rfl ?_
          refine z_if_ge 76 O dX6_mercyLeft_69 (by decide) ⟨by omega, by omega⟩ (fun c_69 => ?_) (fun c_69 => ?_)
          · skip
            refine z_iload_n 0 O dX6_mercyLeft_76 rfl ?_
            refine z_iconst 1 O dX6_mercyLeft_77 (by decide +kernel) ?_
            refine z_iadd O dX6_mercyLeft_78 ?_
            exact z_ireti O dX6_mercyLeft_79 rfl (by omega) (by omega) hpo (by rw [if_pos (show (cWw w) = 0 from by unfold cWw; (repeat first | rw [if_pos (by omega)] | rw [if_neg (by omega)] | rw [if_pos c_5] | rw [if_pos c_29] | rw [if_pos c_40]))]; unfold vMl; (repeat first | rw [if_pos (by omega)] | rw [if_neg (by omega)] | rw [if_pos c_5] | rw [if_pos c_29] | rw [if_pos c_40]); (try exact zb_t c_5); (try exact zb_t c_29); (try exact zb_t c_40)) (⟨(hf16.up (fun s h => by first | exact h.elim | omega | (simp at h ⊢; omega))), Or.inr ⟨(show (cWw w) = 0 from by unfold cWw; (repeat first | rw [if_pos (by omega)] | rw [if_neg (by omega)] | rw [if_pos c_5] | rw [if_pos c_29] | rw [if_pos c_40])), ⟨_, _, _, _, _, hz17, hT18, hR19, hA20, hY21, hD22, hK23, hI24⟩⟩⟩)
          · skip
            refine z_iconst 1 O dX6_mercyLeft_72 (by decide +kernel) ?_
            refine z_goto 79 O dX6_mercyLeft_73 (by decide) ?_
            exact z_ireti O dX6_mercyLeft_79 rfl (by omega) (by omega) hpo (by rw [if_pos (show (cWw w) = 0 from by unfold cWw; (repeat first | rw [if_pos (by omega)] | rw [if_neg (by omega)] | rw [if_pos c_5] | rw [if_pos c_29] | rw [if_pos c_40]))]; unfold vMl; (repeat first | rw [if_pos (by omega)] | rw [if_neg (by omega)] | rw [if_pos c_5] | rw [if_pos c_29] | rw [if_pos c_40]); (try exact zb_t c_5); (try exact zb_t c_29); (try exact zb_t c_40)) (⟨(hf16.up (fun s h => by first | exact h.elim | omega | (simp at h ⊢; omega))), Or.inr ⟨(show (cWw w) = 0 from by unfold cWw; (repeat first | rw [if_pos (by omega)] | rw [if_neg (by omega)] | rw [if_pos c_5] | rw [if_pos c_29] | rw [if_pos c_40])), ⟨_, _, _, _, _, hz17, hT18, hR19, hA20, hY21, hD22, hK23, hI24⟩⟩⟩)
        · skip
          have k_40 := sCb_f.mp c_40
          refine z_iconst (-1) O dX6_mercyLeft_43 (by decide +kernel) ?_
          exact z_ireti O dX6_mercyLeft_44 rfl (by omega) (by omega) hpo (by rw [if_pos (show (cWw w) = 0 from by unfold cWw; (repeat first | rw [if_pos (by omega)] | rw [if_neg (by omega)] | rw [if_pos c_5] | rw [if_pos c_29] | rw [if_neg (by rw [c_40]; decide)]))]; unfold vMl; (repeat first | rw [if_pos (by omega)] | rw [if_neg (by omega)] | rw [if_pos c_5] | rw [if_pos c_29] | rw [if_neg (by rw [c_40]; decide)]); (try exact zb_t c_5); (try exact zb_t c_29); (try exact zb_f c_40)) (⟨(hf16.up (fun s h => by first | exact h.elim | omega | (simp at h ⊢; omega))), Or.inr ⟨(show (cWw w) = 0 from by unfold cWw; (repeat first | rw [if_pos (by omega)] | rw [if_neg (by omega)] | rw [if_pos c_5] | rw [if_pos c_29] | rw [if_neg (by rw [c_40]; decide)])), ⟨_, _, _, _, _, hz17, hT18, hR19, hA20, hY21, hD22, hK23, hI24⟩⟩⟩)
    · exfalso; omega

theorem c_X6_restore {E : zE} (hst : E.1.stackTraces = false) {H : Heap} {r : zH} {q : Nat} {Q : Nat → Nat} {n : Int} {tx G : Int → Int} {fi ac : Int} {dd : Nat → Int → Int} {kp ik : Int → Int} {rf N : Int} {k : Int} (hM : zMs E H r q Q n tx G fi ac dd kp ik rf) (hOK : mOK n tx G fi ac ik N) (hk : zR k) : zC E yX6_restore cX6_restore 2 (some .int) 1 25 [.ref q, .int (iI k)] H 0 0 (zRi (if (cRe ik k) = 0 then (zSum 16 (fun j => kp (4086 * k + j))) else 0) (fun H1 => zFr H r H1 r (fun s => 100000 ≤ s) ∧ (((cRe ik k) ≠ 0 ∧ zMs E H1 r q Q n tx G fi ac dd kp ik (cRe ik k)) ∨ ((cRe ik k) = 0 ∧ zMs E H1 r q Q n tx (fun j => kp (4086 * k + j)) fi 0 dd kp ik 0)))) zN := by
  refine zC.of (by decide) (Nat.le_of_ble_eq_true rfl) hst ?_
  intro x O hE hpo hpx
  subst hE
  change zG x H 0 0 0 [(0, .ref q), (1, .int (iI k))] []
  obtain ⟨sp, gd, lo, rd, tr, hO, hT, hR, hA, hY, hD, hK, hI⟩ := hM
  obtain ⟨hn, hx, hG, hN, hfi, hac, hik⟩ := hOK
  refine z_aload_n 0 O dX6_restore_0 rfl ?_
  refine z_iload_n 1 O dX6_restore_1 rfl ?_
  refine z_i2l O dX6_restore_2 ⟨by omega, by omega⟩ ?_
  refine z_lconst 0 O dX6_restore_3 (by decide +kernel) ?_
  refine z_lconst 1 O dX6_restore_4 (by decide +kernel) ?_
  refine z_Si [.long (iL k), .long (iL 0), .long (iL 1)] [.ref q] kM_X6_92 O dX6_restore_5 (c_X6_in hst ⟨by omega, by omega⟩ ⟨by omega, by omega⟩ ⟨by omega, by omega⟩) rfl rfl (by decide) (Nat.le_of_ble_eq_true rfl) (by omega) (by omega) (Nat.le_of_ble_eq_true rfl) zNx ?_
  refine z_ifb_ne 15 O dX6_restore_8 (by decide) (fun c_8 => ?_) (fun c_8 => ?_)
  · skip
    have k_8 := sBt_t.mp c_8
    have hikk := hik k (by omega) (by omega)
    refine z_aload_n 0 O dX6_restore_15 rfl ?_
    refine z_getf kF_X6_37 O dX6_restore_16 hO.1 rfl ?_
    refine z_iload_n 1 O dX6_restore_19 rfl ?_
    refine z_zald O dX6_restore_20 hI.1 ⟨by omega, by omega⟩ (by omega) (by omega) ?_
    refine z_if_eq 28 O dX6_restore_21 (by decide) ⟨by omega, by omega⟩ (fun c_21 => ?_) (fun c_21 => ?_)
    · skip
      refine z_iconst 2 O dX6_restore_28 (by decide +kernel) ?_
      refine z_Vim [.int (iI 2)] [] kM_X6_118 O dX6_restore_29 (c_X6_refused hst hO ⟨by omega, by omega⟩) rfl rfl hO.1 (by decide) (Nat.le_of_ble_eq_true rfl) (by omega) (by omega) (Nat.le_of_ble_eq_true rfl) zNx (fun H1 hp2 hz3 => ?_)
      obtain ⟨hf4, hz5⟩ := hp2
      have hT6 := hT.fr hf4 (by first | exact zT1 (by omega) | (show ¬ (_ ∨ _); omega) | (show ¬ (_ ∧ _); omega))
      have hR7 := hR.fr hf4 (by first | exact zT1 (by omega) | (show ¬ (_ ∨ _); omega) | (show ¬ (_ ∧ _); omega))
      have hA8 := hA.fr hf4 (by first | exact zT1 (by omega) | (show ¬ (_ ∨ _); omega) | (show ¬ (_ ∧ _); omega))
      have hY9 := hY.fr hf4 (by first | exact zT1 (by omega) | (show ¬ (_ ∨ _); omega) | (show ¬ (_ ∧ _); omega))
      have hD10 := hD.fr hf4 (by first | exact zT1 (by omega) | (show ¬ (_ ∨ _); omega) | (show ¬ (_ ∧ _); omega)) (by first | exact zT1 (by omega) | (show ¬ (_ ∨ _); omega) | (show ¬ (_ ∧ _); omega)) (by first | exact zT1 (by omega) | (show ¬ (_ ∨ _); omega) | (show ¬ (_ ∧ _); omega)) (by first | exact zT1 (by omega) | (show ¬ (_ ∨ _); omega) | (show ¬ (_ ∧ _); omega))
      have hK11 := hK.fr hf4 (by first | exact zT1 (by omega) | (show ¬ (_ ∨ _); omega) | (show ¬ (_ ∧ _); omega))
      have hI12 := hI.fr hf4 (by first | exact zT1 (by omega) | (show ¬ (_ ∨ _); omega) | (show ¬ (_ ∧ _); omega))
      rw [show zb (decide ((0 : Int) < 2)) = 1 from rfl]
      refine z_if_eq 37 O dX6_restore_32 (by decide) ⟨by omega, by omega⟩ (fun c_32 => ?_) (fun c_32 => ?_)
      · exfalso; omega
      · skip
        refine z_iconst 0 O dX6_restore_35 (by decide +kernel) ?_
        exact z_ireti O dX6_restore_36 rfl (by omega) (by omega) hpo (by rw [if_neg (by rw [show (cRe ik k) = 2 from by unfold cRe; (repeat first | rw [if_pos (by omega)] | rw [if_neg (by omega)] | rw [if_pos c_8])]; decide)]) (⟨(hf4.up (fun s h => by first | exact h.elim | omega | (simp at h ⊢; omega))), Or.inl ⟨(by rw [show (cRe ik k) = 2 from by unfold cRe; (repeat first | rw [if_pos (by omega)] | rw [if_neg (by omega)] | rw [if_pos c_8])]; decide), (by rw [show (cRe ik k) = 2 from by unfold cRe; (repeat first | rw [if_pos (by omega)] | rw [if_neg (by omega)] | rw [if_pos c_8])]; exact ⟨_, _, _, _, _, hz5, hT6, hR7, hA8, hY9, hD10, hK11, hI12⟩)⟩⟩)
    · skip
      refine z_iconst 0 O dX6_restore_24 (by decide +kernel) ?_
      refine z_goto 29 O dX6_restore_25 (by decide) ?_
      refine z_Vim [.int (iI 0)] [] kM_X6_118 O dX6_restore_29 (c_X6_refused hst hO ⟨by omega, by omega⟩) rfl rfl hO.1 (by decide) (Nat.le_of_ble_eq_true rfl) (by omega) (by omega) (Nat.le_of_ble_eq_true rfl) zNx (fun H13 hp14 hz15 => ?_)
      obtain ⟨hf16, hz17⟩ := hp14
      have hT18 := hT.fr hf16 (by first | exact zT1 (by omega) | (show ¬ (_ ∨ _); omega) | (show ¬ (_ ∧ _); omega))
      have hR19 := hR.fr hf16 (by first | exact zT1 (by omega) | (show ¬ (_ ∨ _); omega) | (show ¬ (_ ∧ _); omega))
      have hA20 := hA.fr hf16 (by first | exact zT1 (by omega) | (show ¬ (_ ∨ _); omega) | (show ¬ (_ ∧ _); omega))
      have hY21 := hY.fr hf16 (by first | exact zT1 (by omega) | (show ¬ (_ ∨ _); omega) | (show ¬ (_ ∧ _); omega))
      have hD22 := hD.fr hf16 (by first | exact zT1 (by omega) | (show ¬ (_ ∨ _); omega) | (show ¬ (_ ∧ _); omega)) (by first | exact zT1 (by omega) | (show ¬ (_ ∨ _); omega) | (show ¬ (_ ∧ _); omega)) (by first | exact zT1 (by omega) | (show ¬ (_ ∨ _); omega) | (show ¬ (_ ∧ _); omega)) (by first | exact zT1 (by omega) | (show ¬ (_ ∨ _); omega) | (show ¬ (_ ∧ _); omega))
      have hK23 := hK.fr hf16 (by first | exact zT1 (by omega) | (show ¬ (_ ∨ _); omega) | (show ¬ (_ ∧ _); omega))
      have hI24 := hI.fr hf16 (by first | exact zT1 (by omega) | (show ¬ (_ ∨ _); omega) | (show ¬ (_ ∧ _); omega))
      rw [show zb (decide ((0 : Int) < 0)) = 0 from rfl]
      refine z_if_eq 37 O dX6_restore_32 (by decide) ⟨by omega, by omega⟩ (fun c_32 => ?_) (fun c_32 => ?_)
      · skip
        refine z_aload_n 0 O dX6_restore_37 rfl ?_
        refine z_getf kF_X6_34 O dX6_restore_38 hz17.1 rfl ?_
        refine z_sipush 4086 O dX6_restore_41 (by decide +kernel) ?_
        refine z_iload_n 1 O dX6_restore_44 rfl ?_
        refine z_imul O dX6_restore_45 ?_
        refine z_aload_n 0 O dX6_restore_46 rfl ?_
        refine z_getf kF_X6_16 O dX6_restore_47 hz17.1 rfl ?_
        refine z_iconst 0 O dX6_restore_50 (by decide +kernel) ?_
        refine z_sipush 4086 O dX6_restore_51 (by decide +kernel) ?_
        refine z_Svm [.ref (Q 9), .int (iI (4086 * k)), .ref (Q 3), .int (iI 0), .int (iI 4086)] [] kM_X6_54 O dX6_restore_54 (c_X6_copy hst hK23 hA20 (by decide) (by omega) (by omega) (by omega) (by omega) (by omega) (by omega)) rfl rfl (by decide) (Nat.le_of_ble_eq_true rfl) (by omega) (by omega) (Nat.le_of_ble_eq_true rfl) zNx (fun H25 hp26 hz27 => ?_)
        obtain ⟨hf28, ha29⟩ := hp26
        have hz30 := hz17.fr hf28 (by first | exact zT1 (by omega) | (show ¬ (_ ∨ _); omega) | (show ¬ (_ ∧ _); omega))
        have hT31 := hT18.fr hf28 (by first | exact zT1 (by omega) | (show ¬ (_ ∨ _); omega) | (show ¬ (_ ∧ _); omega))
        have hR32 := hR19.fr hf28 (by first | exact zT1 (by omega) | (show ¬ (_ ∨ _); omega) | (show ¬ (_ ∧ _); omega))
        have hY33 := hY21.fr hf28 (by first | exact zT1 (by omega) | (show ¬ (_ ∨ _); omega) | (show ¬ (_ ∧ _); omega))
        have hD34 := hD22.fr hf28 (by first | exact zT1 (by omega) | (show ¬ (_ ∨ _); omega) | (show ¬ (_ ∧ _); omega)) (by first | exact zT1 (by omega) | (show ¬ (_ ∨ _); omega) | (show ¬ (_ ∧ _); omega)) (by first | exact zT1 (by omega) | (show ¬ (_ ∨ _); omega) | (show ¬ (_ ∧ _); omega)) (by first | exact zT1 (by omega) | (show ¬ (_ ∨ _); omega) | (show ¬ (_ ∧ _); omega))
        have hK35 := hK23.fr hf28 (by first | exact zT1 (by omega) | (show ¬ (_ ∨ _); omega) | (show ¬ (_ ∧ _); omega))
        have hI36 := hI24.fr hf28 (by first | exact zT1 (by omega) | (show ¬ (_ ∨ _); omega) | (show ¬ (_ ∧ _); omega))
        refine z_aload_n 0 O dX6_restore_57 rfl ?_
        refine z_iconst 0 O dX6_restore_58 (by decide +kernel) ?_
        refine z_putf kP_X6_58 O (fun h => nomatch h) dX6_restore_59 hz30.1 rfl rfl (Nat.le_of_ble_eq_true rfl) (fun H37 hO38 hC39 => ?_)
        have hf40 := hz30.ch hC39
        have ho41 : zO (zEn x) H37 r 100000 q 6 [.int (iI 0), .ref (Q 1), .int (iI n), .int (iI sp), .int (iI (zb gd)), .int (iI lo), .ref (Q 2), .ref (Q 3), .ref (Q 4), .ref (Q 5), .ref (Q 6), .ref (Q 7), .ref (Q 8), .int (iI fi), .int (iI 0), .ref (Q 9), .ref (Q 10)] := ⟨hO38, hz30.2⟩
        have hT42 := hT31.fr hf40 (zT1 (by omega))
        have hR43 := hR32.fr hf40 (zT1 (by omega))
        have ha44 := ha29.fr hf40 (zT1 (by omega))
        have hY45 := hY33.fr hf40 (zT1 (by omega))
        have hD46 := hD34.fr hf40 (zT1 (by omega)) (zT1 (by omega)) (zT1 (by omega)) (zT1 (by omega))
        have hK47 := hK35.fr hf40 (zT1 (by omega))
        have hI48 := hI36.fr hf40 (zT1 (by omega))
        refine z_aload_n 0 O dX6_restore_62 rfl ?_
        refine z_getf kF_X6_16 O dX6_restore_63 ho41.1 rfl ?_
        refine z_Si [.ref (Q 3)] [] kM_X6_209 O dX6_restore_66 (c_X6_sum hst ha44) rfl rfl (by decide) (Nat.le_of_ble_eq_true rfl) (by omega) (by omega) (Nat.le_of_ble_eq_true rfl) zNx ?_
        exact z_ireti O dX6_restore_69 rfl (by omega) (by omega) hpo (by rw [if_pos (show (cRe ik k) = 0 from by unfold cRe; (repeat first | rw [if_pos (by omega)] | rw [if_neg (by omega)] | rw [if_pos c_8]))]; exact zSum_c 16 (fun j h0 h1 => by unfold zCpy; rw [if_pos (by omega)]; exact congrArg kp (by omega))) (⟨(((((hf16.up (fun s h => by first | exact h.elim | omega | (simp at h ⊢; omega)))).tr (hf28.up (fun s h => by first | exact h.elim | omega | (simp at h ⊢; omega))))).tr (hf40.up (fun s h => by first | exact h.elim | omega | (simp at h ⊢; omega)))), Or.inr ⟨(show (cRe ik k) = 0 from by unfold cRe; (repeat first | rw [if_pos (by omega)] | rw [if_neg (by omega)] | rw [if_pos c_8])), ⟨_, _, _, _, _, ho41, hT42, hR43, ⟨ha44.1.to (fun j h1 h2 => by unfold zCpy; rw [if_pos (by omega)]; exact congrArg kp (by omega)), ha44.2⟩, hY45, hD46, hK47, hI48⟩⟩⟩)
      · exfalso; omega
  · skip
    have k_8 := sBt_f.mp c_8
    refine z_iconst 1 O dX6_restore_11 (by decide +kernel) ?_
    refine z_goto 29 O dX6_restore_12 (by decide) ?_
    refine z_Vim [.int (iI 1)] [] kM_X6_118 O dX6_restore_29 (c_X6_refused hst hO ⟨by omega, by omega⟩) rfl rfl hO.1 (by decide) (Nat.le_of_ble_eq_true rfl) (by omega) (by omega) (Nat.le_of_ble_eq_true rfl) zNx (fun H49 hp50 hz51 => ?_)
    obtain ⟨hf52, hz53⟩ := hp50
    have hT54 := hT.fr hf52 (by first | exact zT1 (by omega) | (show ¬ (_ ∨ _); omega) | (show ¬ (_ ∧ _); omega))
    have hR55 := hR.fr hf52 (by first | exact zT1 (by omega) | (show ¬ (_ ∨ _); omega) | (show ¬ (_ ∧ _); omega))
    have hA56 := hA.fr hf52 (by first | exact zT1 (by omega) | (show ¬ (_ ∨ _); omega) | (show ¬ (_ ∧ _); omega))
    have hY57 := hY.fr hf52 (by first | exact zT1 (by omega) | (show ¬ (_ ∨ _); omega) | (show ¬ (_ ∧ _); omega))
    have hD58 := hD.fr hf52 (by first | exact zT1 (by omega) | (show ¬ (_ ∨ _); omega) | (show ¬ (_ ∧ _); omega)) (by first | exact zT1 (by omega) | (show ¬ (_ ∨ _); omega) | (show ¬ (_ ∧ _); omega)) (by first | exact zT1 (by omega) | (show ¬ (_ ∨ _); omega) | (show ¬ (_ ∧ _); omega)) (by first | exact zT1 (by omega) | (show ¬ (_ ∨ _); omega) | (show ¬ (_ ∧ _); omega))
    have hK59 := hK.fr hf52 (by first | exact zT1 (by omega) | (show ¬ (_ ∨ _); omega) | (show ¬ (_ ∧ _); omega))
    have hI60 := hI.fr hf52 (by first | exact zT1 (by omega) | (show ¬ (_ ∨ _); omega) | (show ¬ (_ ∧ _); omega))
    rw [show zb (decide ((0 : Int) < 1)) = 1 from rfl]
    refine z_if_eq 37 O dX6_restore_32 (by decide) ⟨by omega, by omega⟩ (fun c_32 => ?_) (fun c_32 => ?_)
    · exfalso; omega
    · skip
      refine z_iconst 0 O dX6_restore_35 (by decide +kernel) ?_
      exact z_ireti O dX6_restore_36 rfl (by omega) (by omega) hpo (by rw [if_neg (by rw [show (cRe ik k) = 1 from by unfold cRe; (repeat first | rw [if_pos (by omega)] | rw [if_neg (by omega)] | rw [if_neg (by rw [c_8]; decide)])]; decide)]) (⟨(hf52.up (fun s h => by first | exact h.elim | omega | (simp at h ⊢; omega))), Or.inl ⟨(by rw [show (cRe ik k) = 1 from by unfold cRe; (repeat first | rw [if_pos (by omega)] | rw [if_neg (by omega)] | rw [if_neg (by rw [c_8]; decide)])]; decide), (by rw [show (cRe ik k) = 1 from by unfold cRe; (repeat first | rw [if_pos (by omega)] | rw [if_neg (by omega)] | rw [if_neg (by rw [c_8]; decide)])]; exact ⟨_, _, _, _, _, hz53, hT54, hR55, hA56, hY57, hD58, hK59, hI60⟩)⟩⟩)

theorem c_X6_failed {E : zE} (hst : E.1.stackTraces = false) {H : Heap} {r : zH} {q : Nat} {Q : Nat → Nat} {n : Int} {tx G : Int → Int} {fi ac : Int} {dd : Nat → Int → Int} {kp ik : Int → Int} {rf N : Int} {w c k : Int} (hM : zMs E H r q Q n tx G fi ac dd kp ik rf) (hOK : mOK n tx G fi ac ik N) (hw : zR w) (hc : zR c) (hk : zR k) : zC E yX6_failed cX6_failed 6 (some .int) 4 91 [.ref q, .int (iI w), .int (iI c), .int (iI k)] H 0 0 (zRi (if (cFd w c k) = 0 then (sFs k.toNat G w c) else 0) (fun H1 => zFr H r H1 r (fun s => 100000 ≤ s) ∧ (((cFd w c k) ≠ 0 ∧ zMs E H1 r q Q n tx G fi ac dd kp ik (cFd w c k)) ∨ ((cFd w c k) = 0 ∧ zMs E H1 r q Q n tx G fi ac dd kp ik 0)))) zN := by
  refine zC.of (by decide) (Nat.le_of_ble_eq_true rfl) hst ?_
  intro x O hE hpo hpx
  subst hE
  change zG x H 0 0 0 [(0, .ref q), (1, .int (iI w)), (2, .int (iI c)), (3, .int (iI k))] []
  obtain ⟨sp, gd, lo, rd, tr, hO, hT, hR, hA, hY, hD, hK, hI⟩ := hM
  obtain ⟨hn, hx, hG, hN, hfi, hac, hik⟩ := hOK
  refine z_iload_n 1 O dX6_failed_0 rfl ?_
  refine z_Si [.int (iI w)] [] kM_X6_232 O dX6_failed_1 (c_X6_isWorker hst ⟨by omega, by omega⟩) rfl rfl (by decide) (Nat.le_of_ble_eq_true rfl) (by omega) (by omega) (Nat.le_of_ble_eq_true rfl) zNx ?_
  refine z_ifb_eq 18 O dX6_failed_4 (by decide) (fun c_4 => ?_) (fun c_4 => ?_)
  · skip
    have k_4 := sBt_f.mp c_4
    refine z_iconst 0 O dX6_failed_18 (by decide +kernel) ?_
    refine z_istore [(4, .int (iI 0)), (0, .ref q), (1, .int (iI w)), (2, .int (iI c)), (3, .int (iI k))] O dX6_failed_19 (by decide) rfl ?_
    refine z_aload_n 1 O dX6_failed_21 rfl ?_
    refine z_iload 0 O dX6_failed_22 rfl ?_
    refine z_if_ne 31 O dX6_failed_24 (by decide) ⟨by omega, by omega⟩ (fun c_24 => ?_) (fun c_24 => ?_)
    · exfalso; omega
    · skip
      refine z_iconst 1 O dX6_failed_27 (by decide +kernel) ?_
      refine z_goto 48 O dX6_failed_28 (by decide) ?_
      refine z_Vim [.int (iI 1)] [] kM_X6_118 O dX6_failed_48 (c_X6_refused hst hO ⟨by omega, by omega⟩) rfl rfl hO.1 (by decide) (Nat.le_of_ble_eq_true rfl) (by omega) (by omega) (Nat.le_of_ble_eq_true rfl) zNx (fun H1 hp2 hz3 => ?_)
      obtain ⟨hf4, hz5⟩ := hp2
      have hT6 := hT.fr hf4 (by first | exact zT1 (by omega) | (show ¬ (_ ∨ _); omega) | (show ¬ (_ ∧ _); omega))
      have hR7 := hR.fr hf4 (by first | exact zT1 (by omega) | (show ¬ (_ ∨ _); omega) | (show ¬ (_ ∧ _); omega))
      have hA8 := hA.fr hf4 (by first | exact zT1 (by omega) | (show ¬ (_ ∨ _); omega) | (show ¬ (_ ∧ _); omega))
      have hY9 := hY.fr hf4 (by first | exact zT1 (by omega) | (show ¬ (_ ∨ _); omega) | (show ¬ (_ ∧ _); omega))
      have hD10 := hD.fr hf4 (by first | exact zT1 (by omega) | (show ¬ (_ ∨ _); omega) | (show ¬ (_ ∧ _); omega)) (by first | exact zT1 (by omega) | (show ¬ (_ ∨ _); omega) | (show ¬ (_ ∧ _); omega)) (by first | exact zT1 (by omega) | (show ¬ (_ ∨ _); omega) | (show ¬ (_ ∧ _); omega)) (by first | exact zT1 (by omega) | (show ¬ (_ ∨ _); omega) | (show ¬ (_ ∧ _); omega))
      have hK11 := hK.fr hf4 (by first | exact zT1 (by omega) | (show ¬ (_ ∨ _); omega) | (show ¬ (_ ∧ _); omega))
      have hI12 := hI.fr hf4 (by first | exact zT1 (by omega) | (show ¬ (_ ∨ _); omega) | (show ¬ (_ ∧ _); omega))
      rw [show zb (decide ((0 : Int) < 1)) = 1 from rfl]
      refine z_if_eq 56 O dX6_failed_51 (by decide) ⟨by omega, by omega⟩ (fun c_51 => ?_) (fun c_51 => ?_)
      · exfalso; omega
      · skip
        refine z_iconst 0 O dX6_failed_54 (by decide +kernel) ?_
        exact z_ireti O dX6_failed_55 rfl (by omega) (by omega) hpo (by rw [if_neg (by rw [show (cFd w c k) = 1 from by unfold cFd; (repeat first | rw [if_pos (by omega)] | rw [if_neg (by omega)] | rw [if_neg (by rw [c_4]; decide)])]; decide)]) (⟨(hf4.up (fun s h => by first | exact h.elim | omega | (simp at h ⊢; omega))), Or.inl ⟨(by rw [show (cFd w c k) = 1 from by unfold cFd; (repeat first | rw [if_pos (by omega)] | rw [if_neg (by omega)] | rw [if_neg (by rw [c_4]; decide)])]; decide), (by rw [show (cFd w c k) = 1 from by unfold cFd; (repeat first | rw [if_pos (by omega)] | rw [if_neg (by omega)] | rw [if_neg (by rw [c_4]; decide)])]; exact ⟨_, _, _, _, _, hz5, hT6, hR7, hA8, hY9, hD10, hK11, hI12⟩)⟩⟩)
  · skip
    have k_4 := sBt_t.mp c_4
    refine z_iload_n 2 O dX6_failed_7 rfl ?_
    refine z_Si [.int (iI c)] [] kM_X6_226 O dX6_failed_8 (c_X6_isCell hst ⟨by omega, by omega⟩) rfl rfl (by decide) (Nat.le_of_ble_eq_true rfl) (by omega) (by omega) (Nat.le_of_ble_eq_true rfl) zNx ?_
    refine z_ifb_eq 18 O dX6_failed_11 (by decide) (fun c_11 => ?_) (fun c_11 => ?_)
    · skip
      have k_11 := sBt_f.mp c_11
      refine z_iconst 0 O dX6_failed_18 (by decide +kernel) ?_
      refine z_istore [(4, .int (iI 0)), (0, .ref q), (1, .int (iI w)), (2, .int (iI c)), (3, .int (iI k))] O dX6_failed_19 (by decide) rfl ?_
      refine z_aload_n 1 O dX6_failed_21 rfl ?_
      refine z_iload 0 O dX6_failed_22 rfl ?_
      refine z_if_ne 31 O dX6_failed_24 (by decide) ⟨by omega, by omega⟩ (fun c_24 => ?_) (fun c_24 => ?_)
      · exfalso; omega
      · skip
        refine z_iconst 1 O dX6_failed_27 (by decide +kernel) ?_
        refine z_goto 48 O dX6_failed_28 (by decide) ?_
        refine z_Vim [.int (iI 1)] [] kM_X6_118 O dX6_failed_48 (c_X6_refused hst hO ⟨by omega, by omega⟩) rfl rfl hO.1 (by decide) (Nat.le_of_ble_eq_true rfl) (by omega) (by omega) (Nat.le_of_ble_eq_true rfl) zNx (fun H13 hp14 hz15 => ?_)
        obtain ⟨hf16, hz17⟩ := hp14
        have hT18 := hT.fr hf16 (by first | exact zT1 (by omega) | (show ¬ (_ ∨ _); omega) | (show ¬ (_ ∧ _); omega))
        have hR19 := hR.fr hf16 (by first | exact zT1 (by omega) | (show ¬ (_ ∨ _); omega) | (show ¬ (_ ∧ _); omega))
        have hA20 := hA.fr hf16 (by first | exact zT1 (by omega) | (show ¬ (_ ∨ _); omega) | (show ¬ (_ ∧ _); omega))
        have hY21 := hY.fr hf16 (by first | exact zT1 (by omega) | (show ¬ (_ ∨ _); omega) | (show ¬ (_ ∧ _); omega))
        have hD22 := hD.fr hf16 (by first | exact zT1 (by omega) | (show ¬ (_ ∨ _); omega) | (show ¬ (_ ∧ _); omega)) (by first | exact zT1 (by omega) | (show ¬ (_ ∨ _); omega) | (show ¬ (_ ∧ _); omega)) (by first | exact zT1 (by omega) | (show ¬ (_ ∨ _); omega) | (show ¬ (_ ∧ _); omega)) (by first | exact zT1 (by omega) | (show ¬ (_ ∨ _); omega) | (show ¬ (_ ∧ _); omega))
        have hK23 := hK.fr hf16 (by first | exact zT1 (by omega) | (show ¬ (_ ∨ _); omega) | (show ¬ (_ ∧ _); omega))
        have hI24 := hI.fr hf16 (by first | exact zT1 (by omega) | (show ¬ (_ ∨ _); omega) | (show ¬ (_ ∧ _); omega))
        rw [show zb (decide ((0 : Int) < 1)) = 1 from rfl]
        refine z_if_eq 56 O dX6_failed_51 (by decide) ⟨by omega, by omega⟩ (fun c_51 => ?_) (fun c_51 => ?_)
        · exfalso; omega
        · skip
          refine z_iconst 0 O dX6_failed_54 (by decide +kernel) ?_
          exact z_ireti O dX6_failed_55 rfl (by omega) (by omega) hpo (by rw [if_neg (by rw [show (cFd w c k) = 1 from by unfold cFd; (repeat first | rw [if_pos (by omega)] | rw [if_neg (by omega)] | rw [if_pos c_4] | rw [if_neg (by rw [c_11]; decide)])]; decide)]) (⟨(hf16.up (fun s h => by first | exact h.elim | omega | (simp at h ⊢; omega))), Or.inl ⟨(by rw [show (cFd w c k) = 1 from by unfold cFd; (repeat first | rw [if_pos (by omega)] | rw [if_neg (by omega)] | rw [if_pos c_4] | rw [if_neg (by rw [c_11]; decide)])]; decide), (by rw [show (cFd w c k) = 1 from by unfold cFd; (repeat first | rw [if_pos (by omega)] | rw [if_neg (by omega)] | rw [if_pos c_4] | rw [if_neg (by rw [c_11]; decide)])]; exact ⟨_, _, _, _, _, hz17, hT18, hR19, hA20, hY21, hD22, hK23, hI24⟩)⟩⟩)
    · skip
      have k_11 := sBt_t.mp c_11
      refine z_iconst 1 O dX6_failed_14 (by decide +kernel) ?_
      refine z_goto 19 O dX6_failed_15 (by decide) ?_
      refine z_istore [(4, .int (iI 1)), (0, .ref q), (1, .int (iI w)), (2, .int (iI c)), (3, .int (iI k))] O dX6_failed_19 (by decide) rfl ?_
      refine z_aload_n 1 O dX6_failed_21 rfl ?_
      refine z_iload 0 O dX6_failed_22 rfl ?_
      refine z_if_ne 31 O dX6_failed_24 (by decide) ⟨by omega, by omega⟩ (fun c_24 => ?_) (fun c_24 => ?_)
      · skip
        refine z_iload_n 4 O dX6_failed_31 rfl ?_
        refine z_i2l O dX6_failed_32 ⟨by omega, by omega⟩ ?_
        refine z_lconst 0 O dX6_failed_33 (by decide +kernel) ?_
        refine z_ldc2 (iL 5) O dX6_failed_34 (List.mem_of_getElem? (i := 1158) (by decide +kernel)) ?_
        refine z_Si [.long (iL k), .long (iL 0), .long (iL 5)] [.ref q] kM_X6_92 O dX6_failed_37 (c_X6_in hst ⟨by omega, by omega⟩ ⟨by omega, by omega⟩ ⟨by omega, by omega⟩) rfl rfl (by decide) (Nat.le_of_ble_eq_true rfl) (by omega) (by omega) (Nat.le_of_ble_eq_true rfl) zNx ?_
        refine z_ifb_eq 47 O dX6_failed_40 (by decide) (fun c_40 => ?_) (fun c_40 => ?_)
        · skip
          have k_40 := sBt_f.mp c_40
          refine z_iconst 2 O dX6_failed_47 (by decide +kernel) ?_
          refine z_Vim [.int (iI 2)] [] kM_X6_118 O dX6_failed_48 (c_X6_refused hst hO ⟨by omega, by omega⟩) rfl rfl hO.1 (by decide) (Nat.le_of_ble_eq_true rfl) (by omega) (by omega) (Nat.le_of_ble_eq_true rfl) zNx (fun H25 hp26 hz27 => ?_)
          obtain ⟨hf28, hz29⟩ := hp26
          have hT30 := hT.fr hf28 (by first | exact zT1 (by omega) | (show ¬ (_ ∨ _); omega) | (show ¬ (_ ∧ _); omega))
          have hR31 := hR.fr hf28 (by first | exact zT1 (by omega) | (show ¬ (_ ∨ _); omega) | (show ¬ (_ ∧ _); omega))
          have hA32 := hA.fr hf28 (by first | exact zT1 (by omega) | (show ¬ (_ ∨ _); omega) | (show ¬ (_ ∧ _); omega))
          have hY33 := hY.fr hf28 (by first | exact zT1 (by omega) | (show ¬ (_ ∨ _); omega) | (show ¬ (_ ∧ _); omega))
          have hD34 := hD.fr hf28 (by first | exact zT1 (by omega) | (show ¬ (_ ∨ _); omega) | (show ¬ (_ ∧ _); omega)) (by first | exact zT1 (by omega) | (show ¬ (_ ∨ _); omega) | (show ¬ (_ ∧ _); omega)) (by first | exact zT1 (by omega) | (show ¬ (_ ∨ _); omega) | (show ¬ (_ ∧ _); omega)) (by first | exact zT1 (by omega) | (show ¬ (_ ∨ _); omega) | (show ¬ (_ ∧ _); omega))
          have hK35 := hK.fr hf28 (by first | exact zT1 (by omega) | (show ¬ (_ ∨ _); omega) | (show ¬ (_ ∧ _); omega))
          have hI36 := hI.fr hf28 (by first | exact zT1 (by omega) | (show ¬ (_ ∨ _); omega) | (show ¬ (_ ∧ _); omega))
          rw [show zb (decide ((0 : Int) < 2)) = 1 from rfl]
          refine z_if_eq 56 O dX6_failed_51 (by decide) ⟨by omega, by omega⟩ (fun c_51 => ?_) (fun c_51 => ?_)
          · exfalso; omega
          · skip
            refine z_iconst 0 O dX6_failed_54 (by decide +kernel) ?_
            exact z_ireti O dX6_failed_55 rfl (by omega) (by omega) hpo (by rw [if_neg (by rw [show (cFd w c k) = 2 from by unfold cFd; (repeat first | rw [if_pos (by omega)] | rw [if_neg (by omega)] | rw [if_pos c_4] | rw [if_pos c_11] | rw [if_neg (by rw [c_40]; decide)])]; decide)]) (⟨(hf28.up (fun s h => by first | exact h.elim | omega | (simp at h ⊢; omega))), Or.inl ⟨(by rw [show (cFd w c k) = 2 from by unfold cFd; (repeat first | rw [if_pos (by omega)] | rw [if_neg (by omega)] | rw [if_pos c_4] | rw [if_pos c_11] | rw [if_neg (by rw [c_40]; decide)])]; decide), (by rw [show (cFd w c k) = 2 from by unfold cFd; (repeat first | rw [if_pos (by omega)] | rw [if_neg (by omega)] | rw [if_pos c_4] | rw [if_pos c_11] | rw [if_neg (by rw [c_40]; decide)])]; exact ⟨_, _, _, _, _, hz29, hT30, hR31, hA32, hY33, hD34, hK35, hI36⟩)⟩⟩)
        · skip
          have k_40 := sBt_t.mp c_40
          refine z_iconst 0 O dX6_failed_43 (by decide +kernel) ?_
          refine z_goto 48 O dX6_failed_44 (by decide) ?_
          refine z_Vim [.int (iI 0)] [] kM_X6_118 O dX6_failed_48 (c_X6_refused hst hO ⟨by omega, by omega⟩) rfl rfl hO.1 (by decide) (Nat.le_of_ble_eq_true rfl) (by omega) (by omega) (Nat.le_of_ble_eq_true rfl) zNx (fun H37 hp38 hz39 => ?_)
          obtain ⟨hf40, hz41⟩ := hp38
          have hT42 := hT.fr hf40 (by first | exact zT1 (by omega) | (show ¬ (_ ∨ _); omega) | (show ¬ (_ ∧ _); omega))
          have hR43 := hR.fr hf40 (by first | exact zT1 (by omega) | (show ¬ (_ ∨ _); omega) | (show ¬ (_ ∧ _); omega))
          have hA44 := hA.fr hf40 (by first | exact zT1 (by omega) | (show ¬ (_ ∨ _); omega) | (show ¬ (_ ∧ _); omega))
          have hY45 := hY.fr hf40 (by first | exact zT1 (by omega) | (show ¬ (_ ∨ _); omega) | (show ¬ (_ ∧ _); omega))
          have hD46 := hD.fr hf40 (by first | exact zT1 (by omega) | (show ¬ (_ ∨ _); omega) | (show ¬ (_ ∧ _); omega)) (by first | exact zT1 (by omega) | (show ¬ (_ ∨ _); omega) | (show ¬ (_ ∧ _); omega)) (by first | exact zT1 (by omega) | (show ¬ (_ ∨ _); omega) | (show ¬ (_ ∧ _); omega)) (by first | exact zT1 (by omega) | (show ¬ (_ ∨ _); omega) | (show ¬ (_ ∧ _); omega))
          have hK47 := hK.fr hf40 (by first | exact zT1 (by omega) | (show ¬ (_ ∨ _); omega) | (show ¬ (_ ∧ _); omega))
          have hI48 := hI.fr hf40 (by first | exact zT1 (by omega) | (show ¬ (_ ∨ _); omega) | (show ¬ (_ ∧ _); omega))
          rw [show zb (decide ((0 : Int) < 0)) = 0 from rfl]
          refine z_if_eq 56 O dX6_failed_51 (by decide) ⟨by omega, by omega⟩ (fun c_51 => ?_) (fun c_51 => ?_)
          · skip
            refine z_aload_n 1 O dX6_failed_56 rfl ?_
            refine z_Vvm [] [] kM_X6_249 O dX6_failed_57 (c_X6_tryIt hst hz41 hA44 hY45) rfl rfl hz41.1 (by decide) (Nat.le_of_ble_eq_true rfl) (by omega) (by omega) (Nat.le_of_ble_eq_true rfl) zNx (fun H49 hp50 hz51 => ?_)
            obtain ⟨hf52, hz53⟩ := hp50
            have hz54 := hz41.fr hf52 (by first | exact zT1 (by omega) | (show ¬ (_ ∨ _); omega) | (show ¬ (_ ∧ _); omega))
            have hT55 := hT42.fr hf52 (by first | exact zT1 (by omega) | (show ¬ (_ ∨ _); omega) | (show ¬ (_ ∧ _); omega))
            have hR56 := hR43.fr hf52 (by first | exact zT1 (by omega) | (show ¬ (_ ∨ _); omega) | (show ¬ (_ ∧ _); omega))
            have hA57 := hA44.fr hf52 (by first | exact zT1 (by omega) | (show ¬ (_ ∨ _); omega) | (show ¬ (_ ∧ _); omega))
            have hD58 := hD46.fr hf52 (by first | exact zT1 (by omega) | (show ¬ (_ ∨ _); omega) | (show ¬ (_ ∧ _); omega)) (by first | exact zT1 (by omega) | (show ¬ (_ ∨ _); omega) | (show ¬ (_ ∧ _); omega)) (by first | exact zT1 (by omega) | (show ¬ (_ ∨ _); omega) | (show ¬ (_ ∧ _); omega)) (by first | exact zT1 (by omega) | (show ¬ (_ ∨ _); omega) | (show ¬ (_ ∧ _); omega))
            have hK59 := hK47.fr hf52 (by first | exact zT1 (by omega) | (show ¬ (_ ∨ _); omega) | (show ¬ (_ ∧ _); omega))
            have hI60 := hI48.fr hf52 (by first | exact zT1 (by omega) | (show ¬ (_ ∨ _); omega) | (show ¬ (_ ∧ _); omega))
            refine z_iconst 0 O dX6_failed_60 (by decide +kernel) ?_
            refine z_istore [(5, .int (iI 0)), (4, .int (iI 1)), (0, .ref q), (1, .int (iI w)), (2, .int (iI c)), (3, .int (iI k))] O dX6_failed_61 (by decide) rfl ?_
            have loop : ∀ (d : Nat) (i : Int) (K : Int → Int) (H' : Heap), (0 ≤ i) → (i + (d : Int) = k) → (sW K N) → (sFs d K w = sFs k.toNat G w) → (zFr H r H' r (fun s => 100000 ≤ s)) → (zMo (zEn x) H' r q Q 0 n sp gd lo fi ac) → (zA (zEn x) H' r 100001 (Q 1) 120 tx) → (zA (zEn x) H' r 100002 (Q 2) 4086 rd) → (zA (zEn x) H' r 100003 (Q 3) 4086 G) → (zA (zEn x) H' r 100004 (Q 4) 4086 K) → (zDy (zEn x) H' r Q dd) → (zA (zEn x) H' r 100009 (Q 9) 8172 kp) → (zZ (zEn x) H' r 100010 (Q 10) 2 ik) → zG x H' 0 0 63 [(5, .int (iI i)), (0, .ref q), (1, .int (iI w)), (2, .int (iI c)), (3, .int (iI k))] [] := by
              intro d
              induction d with
              | zero =>
                intro i K H' hi0 hid hKG hRR hf' hO' hT' hR' hA' hY' hD' hK' hI'
                refine z_iload 0 O dX6_failed_63 rfl ?_
                refine z_iload_n 4 O dX6_failed_65 rfl ?_
                refine z_icmp_ge 95 O dX6_failed_66 (by decide) ⟨by omega, by omega⟩ ⟨by omega, by omega⟩ (fun c_66 => ?_) (fun c_66 => ?_)
                · skip
                  have hE : K = sFs k.toNat G w := by rw [← hRR]; first | rfl | (show _ = if _ then _ else _; rw [if_neg (by omega)])
                  refine z_aload_n 1 O dX6_failed_95 rfl ?_
                  refine z_getf kF_X6_19 O dX6_failed_96 hO'.1 rfl ?_
                  refine z_iload_n 3 O dX6_failed_99 rfl ?_
                  refine z_iald O dX6_failed_100 hY'.1 ⟨by omega, by omega⟩ (by omega) (by omega) ?_
                  exact z_ireti O dX6_failed_101 rfl (by omega) (by omega) hpo (by rw [if_pos (show (cFd w c k) = 0 from by unfold cFd; (repeat first | rw [if_pos (by omega)] | rw [if_neg (by omega)] | rw [if_pos c_4] | rw [if_pos c_11] | rw [if_pos c_40]))]; rw [hE]) (⟨(hf'.up (fun s h => by first | exact h.elim | omega | (simp at h ⊢; omega))), Or.inr ⟨(show (cFd w c k) = 0 from by unfold cFd; (repeat first | rw [if_pos (by omega)] | rw [if_neg (by omega)] | rw [if_pos c_4] | rw [if_pos c_11] | rw [if_pos c_40])), ⟨_, _, _, _, _, hO', hT', hR', hA', hY', hD', hK', hI'⟩⟩⟩)
                · exfalso; omega
              | succ d ih =>
                intro i K H' hi0 hid hKG hRR hf' hO' hT' hR' hA' hY' hD' hK' hI'
                refine z_iload 0 O dX6_failed_63 rfl ?_
                refine z_iload_n 4 O dX6_failed_65 rfl ?_
                refine z_icmp_ge 95 O dX6_failed_66 (by decide) ⟨by omega, by omega⟩ ⟨by omega, by omega⟩ (fun c_66 => ?_) (fun c_66 => ?_)
                · exfalso; omega
                · skip
                  have hmK := hKG.m (w := w) ⟨by omega, by omega⟩
                  have hlK := hKG.l (w := w) ⟨by omega, by omega⟩
                  refine z_aload_n 1 O dX6_failed_69 rfl ?_
                  refine z_getf kF_X6_19 O dX6_failed_70 hO'.1 rfl ?_
                  refine z_iload_n 2 O dX6_failed_73 rfl ?_
                  refine z_Si [.ref (Q 4), .int (iI w)] [] kM_X6_69 O dX6_failed_74 (c_X6_many hst hY' ⟨by omega, by omega⟩) rfl rfl (by decide) (Nat.le_of_ble_eq_true rfl) (by omega) (by omega) (Nat.le_of_ble_eq_true rfl) zNx ?_
                  refine z_if_le 95 O dX6_failed_77 (by decide) ⟨by omega, by omega⟩ (fun c_77 => ?_) (fun c_77 => ?_)
                  · skip
                    have hE : K = sFs k.toNat G w := by rw [← hRR]; first | rfl | (show _ = if _ then _ else _; rw [if_neg (by omega)])
                    refine z_aload_n 1 O dX6_failed_95 rfl ?_
                    refine z_getf kF_X6_19 O dX6_failed_96 hO'.1 rfl ?_
                    refine z_iload_n 3 O dX6_failed_99 rfl ?_
                    refine z_iald O dX6_failed_100 hY'.1 ⟨by omega, by omega⟩ (by omega) (by omega) ?_
                    exact z_ireti O dX6_failed_101 rfl (by omega) (by omega) hpo (by rw [if_pos (show (cFd w c k) = 0 from by unfold cFd; (repeat first | rw [if_pos (by omega)] | rw [if_neg (by omega)] | rw [if_pos c_4] | rw [if_pos c_11] | rw [if_pos c_40]))]; rw [hE]) (⟨(hf'.up (fun s h => by first | exact h.elim | omega | (simp at h ⊢; omega))), Or.inr ⟨(show (cFd w c k) = 0 from by unfold cFd; (repeat first | rw [if_pos (by omega)] | rw [if_neg (by omega)] | rw [if_pos c_4] | rw [if_pos c_11] | rw [if_pos c_40])), ⟨_, _, _, _, _, hO', hT', hR', hA', hY', hD', hK', hI'⟩⟩⟩)
                  · skip
                    refine z_aload_n 1 O dX6_failed_80 rfl ?_
                    refine z_getf kF_X6_19 O dX6_failed_81 hO'.1 rfl ?_
                    refine z_iload_n 2 O dX6_failed_84 rfl ?_
                    refine z_Sim [.ref (Q 4), .int (iI w)] [] kM_X6_184 O dX6_failed_85 (c_X6_failIn hst hY' hKG ⟨by omega, by omega⟩ (by omega)) rfl rfl (by decide) (Nat.le_of_ble_eq_true rfl) (by omega) (by omega) (Nat.le_of_ble_eq_true rfl) zNx (fun H61 hp62 hz63 => ?_)
                    obtain ⟨hf64, ha65⟩ := hp62
                    have hO'66 := hO'.fr hf64 (zT1 (by omega))
                    have hT'67 := hT'.fr hf64 (zT1 (by omega))
                    have hR'68 := hR'.fr hf64 (zT1 (by omega))
                    have hA'69 := hA'.fr hf64 (zT1 (by omega))
                    have hD'70 := hD'.fr hf64 (zT1 (by omega)) (zT1 (by omega)) (zT1 (by omega)) (zT1 (by omega))
                    have hK'71 := hK'.fr hf64 (zT1 (by omega))
                    have hI'72 := hI'.fr hf64 (zT1 (by omega))
                    refine z_pop O dX6_failed_88 rfl ?_
                    refine z_iinc 0 [(5, .int (iI (i + 1))), (0, .ref q), (1, .int (iI w)), (2, .int (iI c)), (3, .int (iI k))] O dX6_failed_89 (by decide) rfl rfl ?_
                    refine z_goto 63 O dX6_failed_92 (by decide) ?_
                    have hR2 : sFs d (sFail K w) w = sFs k.toNat G w := by rw [← hRR]; show _ = if _ then _ else _; rw [if_pos (by omega)]
                    exact ih (i + 1) (sFail K w) H61 (by omega) (by omega) (hKG.fail ⟨by omega, by omega⟩ (by omega)) hR2 (((hf'.up (fun s h => by first | exact h.elim | omega | (simp at h ⊢; omega)))).tr (hf64.up (fun s h => by first | exact h.elim | omega | (simp at h ⊢; omega)))) hO'66 hT'67 hR'68 hA'69 ha65 hD'70 hK'71 hI'72
            refine z_locs [0, 2, 3, 4, 5] rfl ?_
            exact loop k.toNat 0 G H49 (by omega) (by omega) hG rfl (((hf40.up (fun s h => by first | exact h.elim | omega | (simp at h ⊢; omega)))).tr (hf52.up (fun s h => by first | exact h.elim | omega | (simp at h ⊢; omega)))) hz54 hT55 hR56 hA57 hz53 hD58 hK59 hI60
          · exfalso; omega
      · exfalso; omega
