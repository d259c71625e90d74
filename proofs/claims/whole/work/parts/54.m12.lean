/-! the reference: its object, small steps (written by program: wip/whole/gen/model5.py) -/
theorem c_X6_isCell {E : zE} (hst : E.1.stackTraces = false) {H : Heap} {c : Int} (hz : zR c) : zC E yX6_isCell cX6_isCell 1 (some .boolean) 1 25 [.int (iI c)] H 0 0 (zRi (zb (sBt c 0 15)) (zSm H)) zN := by
  refine zC.of (by decide) (Nat.le_of_ble_eq_true rfl) hst ?_
  intro x O hE hpo hpx
  subst hE
  change zG x H 0 0 0 [(0, .int (iI c))] []
  refine z_iload_n 0 O dX6_isCell_0 rfl ?_
  refine z_i2l O dX6_isCell_1 ⟨by omega, by omega⟩ ?_
  refine z_lconst 0 O dX6_isCell_2 (by decide +kernel) ?_
  refine z_ldc2 (iL 15) O dX6_isCell_3 (List.mem_of_getElem? (i := 1145) (by decide +kernel)) ?_
  refine z_Si [.long (iL c), .long (iL 0), .long (iL 15)] [] kM_X6_92 O dX6_isCell_6 (c_X6_in hst ⟨by omega, by omega⟩ ⟨by omega, by omega⟩ ⟨by omega, by omega⟩) rfl rfl (by decide) (Nat.le_of_ble_eq_true rfl) (by omega) (by omega) (Nat.le_of_ble_eq_true rfl) zNx ?_
  exact z_iretb O dX6_isCell_9 rfl (by omega) (by omega) hpo (by first | rfl | omega) (rfl)

theorem c_X6_isWorker {E : zE} (hst : E.1.stackTraces = false) {H : Heap} {w : Int} (hz : zR w) : zC E yX6_isWorker cX6_isWorker 1 (some .boolean) 1 25 [.int (iI w)] H 0 0 (zRi (zb (sBt w 0 2)) (zSm H)) zN := by
  refine zC.of (by decide) (Nat.le_of_ble_eq_true rfl) hst ?_
  intro x O hE hpo hpx
  subst hE
  change zG x H 0 0 0 [(0, .int (iI w))] []
  refine z_iload_n 0 O dX6_isWorker_0 rfl ?_
  refine z_i2l O dX6_isWorker_1 ⟨by omega, by omega⟩ ?_
  refine z_lconst 0 O dX6_isWorker_2 (by decide +kernel) ?_
  refine z_ldc2 (iL 2) O dX6_isWorker_3 (List.mem_of_getElem? (i := 1146) (by decide +kernel)) ?_
  refine z_Si [.long (iL w), .long (iL 0), .long (iL 2)] [] kM_X6_92 O dX6_isWorker_6 (c_X6_in hst ⟨by omega, by omega⟩ ⟨by omega, by omega⟩ ⟨by omega, by omega⟩) rfl rfl (by decide) (Nat.le_of_ble_eq_true rfl) (by omega) (by omega) (Nat.le_of_ble_eq_true rfl) zNx ?_
  exact z_iretb O dX6_isWorker_9 rfl (by omega) (by omega) hpo (by first | rfl | omega) (rfl)

theorem c_X6_remember {E : zE} (hst : E.1.stackTraces = false) {H : Heap} {r : zH} {q : Nat} {Q : Nat → Nat} {rf n sp : Int} {gd : Bool} {lo fi ac : Int} {G : Int → Int} {dd : Nat → Int → Int} (hO : zMo E H r q Q rf n sp gd lo fi ac) (hA : zA E H r 100003 (Q 3) 4086 G) (hD : zDy E H r Q dd) (hfi : 0 ≤ fi ∧ fi < 16) (hac : 0 ≤ ac ∧ ac ≤ 14) : zC E yX6_remember cX6_remember 1 none 2 48 [.ref q] H 0 0 (zRv (fun H1 => zFr H r H1 r (fun s => s = 100000 ∨ (100005 ≤ s ∧ s ≤ 100008)) ∧ zMo E H1 r q Q rf n sp gd lo (mFi fi ac) (mAc ac) ∧ zDy E H1 r Q (zDw dd (mIx fi ac) G))) zN := by
  refine zC.of (by decide) (Nat.le_of_ble_eq_true rfl) hst ?_
  intro x O hE hpo hpx
  subst hE
  change zG x H 0 0 0 [(0, .ref q)] []
  refine z_aload_n 0 O dX6_remember_0 rfl ?_
  refine z_getf kF_X6_58 O dX6_remember_1 hO.1 rfl ?_
  refine z_bipush 14 O dX6_remember_4 (by decide +kernel) ?_
  refine z_icmp_ne 32 O dX6_remember_6 (by decide) ⟨by omega, by omega⟩ ⟨by omega, by omega⟩ (fun c_6 => ?_) (fun c_6 => ?_)
  · skip
    refine z_aload_n 0 O dX6_remember_32 rfl ?_
    refine z_aload_n 0 O dX6_remember_33 rfl ?_
    refine z_getf kF_X6_58 O dX6_remember_34 hO.1 rfl ?_
    refine z_Vvm [.int (iI ac)] [] kM_X6_61 O dX6_remember_37 (c_X6_layDown hst hO hA hD ⟨by omega, by omega, by omega, by omega⟩) rfl rfl hO.1 (by decide) (Nat.le_of_ble_eq_true rfl) (by omega) (by omega) (Nat.le_of_ble_eq_true rfl) zNx (fun H1 hp2 hz3 => ?_)
    obtain ⟨hf4, hz5⟩ := hp2
    have hO6 := hO.fr hf4 (by first | exact zT1 (by omega) | (show ¬ (_ ∨ _); omega) | (show ¬ (_ ∧ _); omega))
    have hA7 := hA.fr hf4 (by first | exact zT1 (by omega) | (show ¬ (_ ∨ _); omega) | (show ¬ (_ ∧ _); omega))
    refine z_aload_n 0 O dX6_remember_40 rfl ?_
    refine z_dup O dX6_remember_41 rfl ?_
    refine z_getf kF_X6_58 O dX6_remember_42 hO6.1 rfl ?_
    refine z_iconst 1 O dX6_remember_45 (by decide +kernel) ?_
    refine z_iadd O dX6_remember_46 ?_
    refine z_putf kP_X6_58 O (fun h => nomatch h) dX6_remember_47 hO6.1 rfl rfl (Nat.le_of_ble_eq_true rfl) (fun H8 hO9 hC10 => ?_)
    have hf11 := hO6.ch hC10
    have ho12 : zO (zEn x) H8 r 100000 q 6 [.int (iI rf), .ref (Q 1), .int (iI n), .int (iI sp), .int (iI (zb gd)), .int (iI lo), .ref (Q 2), .ref (Q 3), .ref (Q 4), .ref (Q 5), .ref (Q 6), .ref (Q 7), .ref (Q 8), .int (iI fi), .int (iI (ac + 1)), .ref (Q 9), .ref (Q 10)] := ⟨hO9, hO6.2⟩
    have hA13 := hA7.fr hf11 (zT1 (by omega))
    have hz14 := hz5.fr hf11 (zT1 (by omega)) (zT1 (by omega)) (zT1 (by omega)) (zT1 (by omega))
    exact z_iretv O dX6_remember_50 rfl (by omega) (by omega) hpo (⟨(((hf4.up (fun s h => by first | exact h.elim | omega | (simp at h ⊢; omega)))).tr (hf11.up (fun s h => by first | exact h.elim | omega | (simp at h ⊢; omega)))), (by have e1 : mFi fi ac = fi := (by unfold mFi; rw [if_neg c_6]); have e2 : mAc ac = ac + 1 := (by unfold mAc; rw [if_neg c_6]); rw [e1, e2]; exact ho12), (by have e1 : mFi fi ac = fi := (by unfold mFi; rw [if_neg c_6]); have e2 : mAc ac = ac + 1 := (by unfold mAc; rw [if_neg c_6]); unfold mIx; rw [e1, show mAc ac - 1 = ac by omega]; exact hz14)⟩)
  · skip
    refine z_aload_n 0 O dX6_remember_9 rfl ?_
    refine z_aload_n 0 O dX6_remember_10 rfl ?_
    refine z_getf kF_X6_51 O dX6_remember_11 hO.1 rfl ?_
    refine z_iconst 1 O dX6_remember_14 (by decide +kernel) ?_
    refine z_iadd O dX6_remember_15 ?_
    refine z_bipush 16 O dX6_remember_16 (by decide +kernel) ?_
    refine z_irem O dX6_remember_18 ⟨by omega, by omega⟩ ⟨by omega, by omega⟩ (by omega) (by omega) ?_
    refine z_putf kP_X6_51 O (fun h => nomatch h) dX6_remember_19 hO.1 rfl rfl (Nat.le_of_ble_eq_true rfl) (fun H15 hO16 hC17 => ?_)
    have hf18 := hO.ch hC17
    have ho19 : zO (zEn x) H15 r 100000 q 6 [.int (iI rf), .ref (Q 1), .int (iI n), .int (iI sp), .int (iI (zb gd)), .int (iI lo), .ref (Q 2), .ref (Q 3), .ref (Q 4), .ref (Q 5), .ref (Q 6), .ref (Q 7), .ref (Q 8), .int (iI ((fi + 1) % 16)), .int (iI ac), .ref (Q 9), .ref (Q 10)] := ⟨hO16, hO.2⟩
    have hA20 := hA.fr hf18 (zT1 (by omega))
    have hD21 := hD.fr hf18 (zT1 (by omega)) (zT1 (by omega)) (zT1 (by omega)) (zT1 (by omega))
    refine z_aload_n 0 O dX6_remember_22 rfl ?_
    refine z_dup O dX6_remember_23 rfl ?_
    refine z_getf kF_X6_58 O dX6_remember_24 ho19.1 rfl ?_
    refine z_iconst 1 O dX6_remember_27 (by decide +kernel) ?_
    refine z_isub O dX6_remember_28 ?_
    refine z_putf kP_X6_58 O (fun h => nomatch h) dX6_remember_29 ho19.1 rfl rfl (Nat.le_of_ble_eq_true rfl) (fun H22 hO23 hC24 => ?_)
    have hf25 := ho19.ch hC24
    have ho26 : zO (zEn x) H22 r 100000 q 6 [.int (iI rf), .ref (Q 1), .int (iI n), .int (iI sp), .int (iI (zb gd)), .int (iI lo), .ref (Q 2), .ref (Q 3), .ref (Q 4), .ref (Q 5), .ref (Q 6), .ref (Q 7), .ref (Q 8), .int (iI ((fi + 1) % 16)), .int (iI (ac - 1)), .ref (Q 9), .ref (Q 10)] := ⟨hO23, ho19.2⟩
    have hA27 := hA20.fr hf25 (zT1 (by omega))
    have hD28 := hD21.fr hf25 (zT1 (by omega)) (zT1 (by omega)) (zT1 (by omega)) (zT1 (by omega))
    refine z_aload_n 0 O dX6_remember_32 rfl ?_
    refine z_aload_n 0 O dX6_remember_33 rfl ?_
    refine z_getf kF_X6_58 O dX6_remember_34 ho26.1 rfl ?_
    refine z_Vvm [.int (iI (ac - 1))] [] kM_X6_61 O dX6_remember_37 (c_X6_layDown hst ho26 hA27 hD28 ⟨by omega, by omega, by omega, by omega⟩) rfl rfl ho26.1 (by decide) (Nat.le_of_ble_eq_true rfl) (by omega) (by omega) (Nat.le_of_ble_eq_true rfl) zNx (fun H29 hp30 hz31 => ?_)
    obtain ⟨hf32, hz33⟩ := hp30
    have ho34 := ho26.fr hf32 (by first | exact zT1 (by omega) | (show ¬ (_ ∨ _); omega) | (show ¬ (_ ∧ _); omega))
    have hA35 := hA27.fr hf32 (by first | exact zT1 (by omega) | (show ¬ (_ ∨ _); omega) | (show ¬ (_ ∧ _); omega))
    refine z_aload_n 0 O dX6_remember_40 rfl ?_
    refine z_dup O dX6_remember_41 rfl ?_
    refine z_getf kF_X6_58 O dX6_remember_42 ho34.1 rfl ?_
    refine z_iconst 1 O dX6_remember_45 (by decide +kernel) ?_
    refine z_iadd O dX6_remember_46 ?_
    refine z_putf kP_X6_58 O (fun h => nomatch h) dX6_remember_47 ho34.1 rfl rfl (Nat.le_of_ble_eq_true rfl) (fun H36 hO37 hC38 => ?_)
    have hf39 := ho34.ch hC38
    have ho40 : zO (zEn x) H36 r 100000 q 6 [.int (iI rf), .ref (Q 1), .int (iI n), .int (iI sp), .int (iI (zb gd)), .int (iI lo), .ref (Q 2), .ref (Q 3), .ref (Q 4), .ref (Q 5), .ref (Q 6), .ref (Q 7), .ref (Q 8), .int (iI ((fi + 1) % 16)), .int (iI ((ac - 1) + 1)), .ref (Q 9), .ref (Q 10)] := ⟨hO37, ho34.2⟩
    have hA41 := hA35.fr hf39 (zT1 (by omega))
    have hz42 := hz33.fr hf39 (zT1 (by omega)) (zT1 (by omega)) (zT1 (by omega)) (zT1 (by omega))
    exact z_iretv O dX6_remember_50 rfl (by omega) (by omega) hpo (⟨(((((((hf18.up (fun s h => by first | exact h.elim | omega | (simp at h ⊢; omega)))).tr (hf25.up (fun s h => by first | exact h.elim | omega | (simp at h ⊢; omega))))).tr (hf32.up (fun s h => by first | exact h.elim | omega | (simp at h ⊢; omega))))).tr (hf39.up (fun s h => by first | exact h.elim | omega | (simp at h ⊢; omega)))), (by have e1 : mFi fi ac = (fi + 1) % 16 := (by unfold mFi; rw [if_pos c_6]); have e2 : mAc ac = (ac - 1) + 1 := (by unfold mAc; rw [if_pos c_6]; omega); rw [e1, e2]; exact ho40), (by have e1 : mFi fi ac = (fi + 1) % 16 := (by unfold mFi; rw [if_pos c_6]); have e2 : mAc ac = (ac - 1) + 1 := (by unfold mAc; rw [if_pos c_6]; omega); unfold mIx; rw [e1, show mAc ac - 1 = ac - 1 by omega]; exact hz42)⟩)

theorem c_X6_tryIt {E : zE} (hst : E.1.stackTraces = false) {H : Heap} {r : zH} {q : Nat} {Q : Nat → Nat} {rf n sp : Int} {gd : Bool} {lo fi ac : Int} {G tr : Int → Int} (hO : zMo E H r q Q rf n sp gd lo fi ac) (hA : zA E H r 100003 (Q 3) 4086 G) (hY : zA E H r 100004 (Q 4) 4086 tr) : zC E yX6_tryIt cX6_tryIt 1 none 1 25 [.ref q] H 0 0 (zRv (fun H1 => zFr H r H1 r (fun s => s = 100004) ∧ zA E H1 r 100004 (Q 4) 4086 G)) zN := by
  refine zC.of (by decide) (Nat.le_of_ble_eq_true rfl) hst ?_
  intro x O hE hpo hpx
  subst hE
  change zG x H 0 0 0 [(0, .ref q)] []
  refine z_aload_n 0 O dX6_tryIt_0 rfl ?_
  refine z_getf kF_X6_16 O dX6_tryIt_1 hO.1 rfl ?_
  refine z_iconst 0 O dX6_tryIt_4 (by decide +kernel) ?_
  refine z_aload_n 0 O dX6_tryIt_5 rfl ?_
  refine z_getf kF_X6_19 O dX6_tryIt_6 hO.1 rfl ?_
  refine z_iconst 0 O dX6_tryIt_9 (by decide +kernel) ?_
  refine z_sipush 4086 O dX6_tryIt_10 (by decide +kernel) ?_
  refine z_Svm [.ref (Q 3), .int (iI 0), .ref (Q 4), .int (iI 0), .int (iI 4086)] [] kM_X6_54 O dX6_tryIt_13 (c_X6_copy hst hA hY (by decide) (by omega) (by omega) (by omega) (by omega) (by omega) (by omega)) rfl rfl (by decide) (Nat.le_of_ble_eq_true rfl) (by omega) (by omega) (Nat.le_of_ble_eq_true rfl) zNx (fun H1 hp2 hz3 => ?_)
  obtain ⟨hf4, ha5⟩ := hp2
  have ha6 : zA (zEn x) H1 r 100004 (Q 4) 4086 G := ⟨ha5.1.to (fun j h1 h2 => zCpy_all h1 h2), ha5.2⟩
  have hO7 := hO.fr hf4 (by first | exact zT1 (by omega) | (show ¬ (_ ∨ _); omega) | (show ¬ (_ ∧ _); omega))
  have hA8 := hA.fr hf4 (by first | exact zT1 (by omega) | (show ¬ (_ ∨ _); omega) | (show ¬ (_ ∧ _); omega))
  exact z_iretv O dX6_tryIt_16 rfl (by omega) (by omega) hpo (⟨(hf4.up (fun s h => by first | exact h.elim | omega | (simp at h ⊢; omega))), ha6⟩)

theorem c_X6_append {E : zE} (hst : E.1.stackTraces = false) {H : Heap} {r : zH} {q : Nat} {Q : Nat → Nat} {n : Int} {tx G : Int → Int} {fi ac : Int} {dd : Nat → Int → Int} {kp ik : Int → Int} {rf N : Int} {v : Int} (hM : zMs E H r q Q n tx G fi ac dd kp ik rf) (hOK : mOK n tx G fi ac ik N) (hv : zR v) : zC E yX6_append cX6_append 2 (some .int) 1 25 [.ref q, .int (iI v)] H 0 0 (zRi (if cApp n v = 0 then (n + 1) else 0) (fun H1 => zFr H r H1 r (fun s => 100000 ≤ s) ∧ ((cApp n v ≠ 0 ∧ zMs E H1 r q Q n tx G fi ac dd kp ik (cApp n v)) ∨ (cApp n v = 0 ∧ zMs E H1 r q Q (n + 1) (zU tx n v) G fi ac dd kp ik 0)))) zN := by
  refine zC.of (by decide) (Nat.le_of_ble_eq_true rfl) hst ?_
  intro x O hE hpo hpx
  subst hE
  change zG x H 0 0 0 [(0, .ref q), (1, .int (iI v))] []
  obtain ⟨sp, gd, lo, rd, tr, hO, hT, hR, hA, hY, hD, hK, hI⟩ := hM
  obtain ⟨hn, hx, hG, hN, hfi, hac, hik⟩ := hOK
  refine z_aload_n 0 O dX6_append_0 rfl ?_
  refine z_iload_n 1 O dX6_append_1 rfl ?_
  refine z_i2l O dX6_append_2 ⟨by omega, by omega⟩ ?_
  refine z_lconst 0 O dX6_append_3 (by decide +kernel) ?_
  refine z_ldc2 (iL 255) O dX6_append_4 (List.mem_of_getElem? (i := 981) (by decide +kernel)) ?_
  refine z_Si [.long (iL v), .long (iL 0), .long (iL 255)] [.ref q] kM_X6_92 O dX6_append_7 (c_X6_in hst ⟨by omega, by omega⟩ ⟨by omega, by omega⟩ ⟨by omega, by omega⟩) rfl rfl (by decide) (Nat.le_of_ble_eq_true rfl) (by omega) (by omega) (Nat.le_of_ble_eq_true rfl) zNx ?_
  refine z_ifb_ne 17 O dX6_append_10 (by decide) (fun c_10 => ?_) (fun c_10 => ?_)
  · skip
    have k_10 := sBt_t.mp c_10
    refine z_aload_n 0 O dX6_append_17 rfl ?_
    refine z_getf kF_X6_115 O dX6_append_18 hO.1 rfl ?_
    refine z_bipush 120 O dX6_append_21 (by decide +kernel) ?_
    refine z_icmp_ne 30 O dX6_append_23 (by decide) ⟨by omega, by omega⟩ ⟨by omega, by omega⟩ (fun c_23 => ?_) (fun c_23 => ?_)
    · skip
      refine z_iconst 0 O dX6_append_30 (by decide +kernel) ?_
      refine z_Vim [.int (iI 0)] [] kM_X6_118 O dX6_append_31 (c_X6_refused hst hO ⟨by omega, by omega⟩) rfl rfl hO.1 (by decide) (Nat.le_of_ble_eq_true rfl) (by omega) (by omega) (Nat.le_of_ble_eq_true rfl) zNx (fun H1 hp2 hz3 => ?_)
      obtain ⟨hf4, hz5⟩ := hp2
      have hT6 := hT.fr hf4 (by first | exact zT1 (by omega) | (show ¬ (_ ∨ _); omega) | (show ¬ (_ ∧ _); omega))
      have hR7 := hR.fr hf4 (by first | exact zT1 (by omega) | (show ¬ (_ ∨ _); omega) | (show ¬ (_ ∧ _); omega))
      have hA8 := hA.fr hf4 (by first | exact zT1 (by omega) | (show ¬ (_ ∨ _); omega) | (show ¬ (_ ∧ _); omega))
      have hY9 := hY.fr hf4 (by first | exact zT1 (by omega) | (show ¬ (_ ∨ _); omega) | (show ¬ (_ ∧ _); omega))
      have hD10 := hD.fr hf4 (by first | exact zT1 (by omega) | (show ¬ (_ ∨ _); omega) | (show ¬ (_ ∧ _); omega)) (by first | exact zT1 (by omega) | (show ¬ (_ ∨ _); omega) | (show ¬ (_ ∧ _); omega)) (by first | exact zT1 (by omega) | (show ¬ (_ ∨ _); omega) | (show ¬ (_ ∧ _); omega)) (by first | exact zT1 (by omega) | (show ¬ (_ ∨ _); omega) | (show ¬ (_ ∧ _); omega))
      have hK11 := hK.fr hf4 (by first | exact zT1 (by omega) | (show ¬ (_ ∨ _); omega) | (show ¬ (_ ∧ _); omega))
      have hI12 := hI.fr hf4 (by first | exact zT1 (by omega) | (show ¬ (_ ∨ _); omega) | (show ¬ (_ ∧ _); omega))
      rw [show zb (decide ((0 : Int) < 0)) = 0 from rfl]
      refine z_if_eq 39 O dX6_append_34 (by decide) ⟨by omega, by omega⟩ (fun c_34 => ?_) (fun c_34 => ?_)
      · skip
        refine z_aload_n 0 O dX6_append_39 rfl ?_
        refine z_getf kF_X6_7 O dX6_append_40 hz5.1 rfl ?_
        refine z_aload_n 0 O dX6_append_43 rfl ?_
        refine z_getf kF_X6_115 O dX6_append_44 hz5.1 rfl ?_
        refine z_iload_n 1 O dX6_append_47 rfl ?_
        refine z_iast O dX6_append_48 hT6.1 ⟨by omega, by omega⟩ (by omega) (by omega) (fun H13 hA14 hC15 => ?_)
        have hf16 := hT6.ch hC15
        have ha17 : zA (zEn x) H13 r 100001 (Q 1) 120 (zU tx n v) := ⟨hA14, hT6.2⟩
        have hz18 := hz5.fr hf16 (zT1 (by omega))
        have hR19 := hR7.fr hf16 (zT1 (by omega))
        have hA20 := hA8.fr hf16 (zT1 (by omega))
        have hY21 := hY9.fr hf16 (zT1 (by omega))
        have hD22 := hD10.fr hf16 (zT1 (by omega)) (zT1 (by omega)) (zT1 (by omega)) (zT1 (by omega))
        have hK23 := hK11.fr hf16 (zT1 (by omega))
        have hI24 := hI12.fr hf16 (zT1 (by omega))
        refine z_aload_n 0 O dX6_append_49 rfl ?_
        refine z_dup O dX6_append_50 rfl ?_
        refine z_getf kF_X6_115 O dX6_append_51 hz18.1 rfl ?_
        refine z_iconst 1 O dX6_append_54 (by decide +kernel) ?_
        refine z_iadd O dX6_append_55 ?_
        refine z_putf kP_X6_115 O (fun h => nomatch h) dX6_append_56 hz18.1 rfl rfl (Nat.le_of_ble_eq_true rfl) (fun H25 hO26 hC27 => ?_)
        have hf28 := hz18.ch hC27
        have ho29 : zO (zEn x) H25 r 100000 q 6 [.int (iI 0), .ref (Q 1), .int (iI (n + 1)), .int (iI sp), .int (iI (zb gd)), .int (iI lo), .ref (Q 2), .ref (Q 3), .ref (Q 4), .ref (Q 5), .ref (Q 6), .ref (Q 7), .ref (Q 8), .int (iI fi), .int (iI ac), .ref (Q 9), .ref (Q 10)] := ⟨hO26, hz18.2⟩
        have ha30 := ha17.fr hf28 (zT1 (by omega))
        have hR31 := hR19.fr hf28 (zT1 (by omega))
        have hA32 := hA20.fr hf28 (zT1 (by omega))
        have hY33 := hY21.fr hf28 (zT1 (by omega))
        have hD34 := hD22.fr hf28 (zT1 (by omega)) (zT1 (by omega)) (zT1 (by omega)) (zT1 (by omega))
        have hK35 := hK23.fr hf28 (zT1 (by omega))
        have hI36 := hI24.fr hf28 (zT1 (by omega))
        refine z_aload_n 0 O dX6_append_59 rfl ?_
        refine z_getf kF_X6_115 O dX6_append_60 ho29.1 rfl ?_
        exact z_ireti O dX6_append_63 rfl (by omega) (by omega) hpo (by rw [if_pos (show cApp n v = 0 from by unfold cApp; (repeat first | rw [if_pos (by omega)] | rw [if_neg (by omega)] | rw [if_pos c_10]))]) (⟨(((((hf4.up (fun s h => by first | exact h.elim | omega | (simp at h ⊢; omega)))).tr (hf16.up (fun s h => by first | exact h.elim | omega | (simp at h ⊢; omega))))).tr (hf28.up (fun s h => by first | exact h.elim | omega | (simp at h ⊢; omega)))), Or.inr ⟨(show cApp n v = 0 from by unfold cApp; (repeat first | rw [if_pos (by omega)] | rw [if_neg (by omega)] | rw [if_pos c_10])), ⟨_, _, _, _, _, ho29, ha30, hR31, hA32, hY33, hD34, hK35, hI36⟩⟩⟩)
      · exfalso; omega
    · skip
      refine z_iconst 2 O dX6_append_26 (by decide +kernel) ?_
      refine z_goto 31 O dX6_append_27 (by decide) ?_
      refine z_Vim [.int (iI 2)] [] kM_X6_118 O dX6_append_31 (c_X6_refused hst hO ⟨by omega, by omega⟩) rfl rfl hO.1 (by decide) (Nat.le_of_ble_eq_true rfl) (by omega) (by omega) (Nat.le_of_ble_eq_true rfl) zNx (fun H37 hp38 hz39 => ?_)
      obtain ⟨hf40, hz41⟩ := hp38
      have hT42 := hT.fr hf40 (by first | exact zT1 (by omega) | (show ¬ (_ ∨ _); omega) | (show ¬ (_ ∧ _); omega))
      have hR43 := hR.fr hf40 (by first | exact zT1 (by omega) | (show ¬ (_ ∨ _); omega) | (show ¬ (_ ∧ _); omega))
      have hA44 := hA.fr hf40 (by first | exact zT1 (by omega) | (show ¬ (_ ∨ _); omega) | (show ¬ (_ ∧ _); omega))
      have hY45 := hY.fr hf40 (by first | exact zT1 (by omega) | (show ¬ (_ ∨ _); omega) | (show ¬ (_ ∧ _); omega))
      have hD46 := hD.fr hf40 (by first | exact zT1 (by omega) | (show ¬ (_ ∨ _); omega) | (show ¬ (_ ∧ _); omega)) (by first | exact zT1 (by omega) | (show ¬ (_ ∨ _); omega) | (show ¬ (_ ∧ _); omega)) (by first | exact zT1 (by omega) | (show ¬ (_ ∨ _); omega) | (show ¬ (_ ∧ _); omega)) (by first | exact zT1 (by omega) | (show ¬ (_ ∨ _); omega) | (show ¬ (_ ∧ _); omega))
      have hK47 := hK.fr hf40 (by first | exact zT1 (by omega) | (show ¬ (_ ∨ _); omega) | (show ¬ (_ ∧ _); omega))
      have hI48 := hI.fr hf40 (by first | exact zT1 (by omega) | (show ¬ (_ ∨ _); omega) | (show ¬ (_ ∧ _); omega))
      rw [show zb (decide ((0 : Int) < 2)) = 1 from rfl]
      refine z_if_eq 39 O dX6_append_34 (by decide) ⟨by omega, by omega⟩ (fun c_34 => ?_) (fun c_34 => ?_)
      · exfalso; omega
      · skip
        refine z_iconst 0 O dX6_append_37 (by decide +kernel) ?_
        exact z_ireti O dX6_append_38 rfl (by omega) (by omega) hpo (by rw [if_neg (by rw [show cApp n v = 2 from by unfold cApp; (repeat first | rw [if_pos (by omega)] | rw [if_neg (by omega)] | rw [if_pos c_10])]; decide)]) (⟨(hf40.up (fun s h => by first | exact h.elim | omega | (simp at h ⊢; omega))), Or.inl ⟨(by rw [show cApp n v = 2 from by unfold cApp; (repeat first | rw [if_pos (by omega)] | rw [if_neg (by omega)] | rw [if_pos c_10])]; decide), (by rw [show cApp n v = 2 from by unfold cApp; (repeat first | rw [if_pos (by omega)] | rw [if_neg (by omega)] | rw [if_pos c_10])]; exact ⟨_, _, _, _, _, hz41, hT42, hR43, hA44, hY45, hD46, hK47, hI48⟩)⟩⟩)
  · skip
    have k_10 := sBt_f.mp c_10
    refine z_iconst 1 O dX6_append_13 (by decide +kernel) ?_
    refine z_goto 31 O dX6_append_14 (by decide) ?_
    refine z_Vim [.int (iI 1)] [] kM_X6_118 O dX6_append_31 (c_X6_refused hst hO ⟨by omega, by omega⟩) rfl rfl hO.1 (by decide) (Nat.le_of_ble_eq_true rfl) (by omega) (by omega) (Nat.le_of_ble_eq_true rfl) zNx (fun H49 hp50 hz51 => ?_)
    obtain ⟨hf52, hz53⟩ := hp50
    have hT54 := hT.fr hf52 (by first | exact zT1 (by omega) | (show ¬ (_ ∨ _); omega) | (show ¬ (_ ∧ _); omega))
    have hR55 := hR.fr hf52 (by first | exact zT1 (by omega) | (show ¬ (_ ∨ _); omega) | (show ¬ (_ ∧ _); omega))
    have hA56 := hA.fr hf52 (by first | exact zT1 (by omega) | (show ¬ (_ ∨ _); omega) | (show ¬ (_ ∧ _); omega))
    have hY57 := hY.fr hf52 (by first | exact zT1 (by omega) | (show ¬ (_ ∨ _); omega) | (show ¬ (_ ∧ _); omega))
    have hD58 := hD.fr hf52 (by first | exact zT1 (by omega) | (show ¬ (_ ∨ _); omega) | (show ¬ (_ ∧ _); omega)) (by first | exact zT1 (by omega) | (show ¬ (_ ∨ _); omega) | (show ¬ (_ ∧ _); omega)) (by first | exact zT1 (by omega) | (show ¬ (_ ∨ _); omega) | (show ¬ (_ ∧ _); omega)) (by first | exact zT1 (by omega) | (show ¬ (_ ∨ _); omega) | (show ¬ (_ ∧ _); omega))
    have hK59 := hK.fr hf52 (by first | exact zT1 (by omega) | (show ¬ (_ ∨ _); omega) | (show ¬ (_ ∧ _); omega))
    have hI60 := hI.fr hf52 (by first | exact zT1 (by omega) | (show ¬ (_ ∨ _); omega) | (show ¬ (_ ∧ _); omega))
    rw [show zb (decide ((0 : Int) < 1)) = 1 from rfl]
    refine z_if_eq 39 O dX6_append_34 (by decide) ⟨by omega, by omega⟩ (fun c_34 => ?_) (fun c_34 => ?_)
    · exfalso; omega
    · skip
      refine z_iconst 0 O dX6_append_37 (by decide +kernel) ?_
      exact z_ireti O dX6_append_38 rfl (by omega) (by omega) hpo (by rw [if_neg (by rw [show cApp n v = 1 from by unfold cApp; (repeat first | rw [if_pos (by omega)] | rw [if_neg (by omega)] | rw [if_neg (by rw [c_10]; decide)])]; decide)]) (⟨(hf52.up (fun s h => by first | exact h.elim | omega | (simp at h ⊢; omega))), Or.inl ⟨(by rw [show cApp n v = 1 from by unfold cApp; (repeat first | rw [if_pos (by omega)] | rw [if_neg (by omega)] | rw [if_neg (by rw [c_10]; decide)])]; decide), (by rw [show cApp n v = 1 from by unfold cApp; (repeat first | rw [if_pos (by omega)] | rw [if_neg (by omega)] | rw [if_neg (by rw [c_10]; decide)])]; exact ⟨_, _, _, _, _, hz53, hT54, hR55, hA56, hY57, hD58, hK59, hI60⟩)⟩⟩)
