/-! the reference: simulate (written by program: wip/whole/gen/model6.py) -/
theorem c_X6_simulate {E : zE} (hst : E.1.stackTraces = false) {H : Heap} {r : zH} {q : Nat} {Q : Nat → Nat} {n : Int} {tx G : Int → Int} {fi ac : Int} {dd : Nat → Int → Int} {kp ik : Int → Int} {rf N : Int} {x0 : Int64} {k : Int} (hM : zMs E H r q Q n tx G fi ac dd kp ik rf) (hOK : mOK n tx G fi ac ik N) (hk : zR k) (hN6 : N ≤ 540) : zC E yX6_simulate cX6_simulate 7 (some .int) 8 177 [.ref q, .long x0, .int (iI k)] H 0 0 (zRi (if (cSi k) = 0 then (vSi x0 k G) else 0) (fun H1 => zFr H r H1 r (fun s => 100000 ≤ s) ∧ (((cSi k) ≠ 0 ∧ zMs E H1 r q Q n tx G fi ac dd kp ik (cSi k)) ∨ ((cSi k) = 0 ∧ zMs E H1 r q Q n tx G fi ac dd kp ik 0)))) zN := by
  refine zC.of (by decide) (Nat.le_of_ble_eq_true rfl) hst ?_
  intro x O hE hpo hpx
  subst hE
  change zG x H 0 0 0 [(0, .ref q), (1, .long x0), (3, .int (iI k))] []
  obtain ⟨sp, gd, lo, rd, tr, hO, hT, hR, hA, hY, hD, hK, hI⟩ := hM
  obtain ⟨hn, hx, hG, hN, hfi, hac, hik⟩ := hOK
  refine z_aload_n 0 O dX6_simulate_0 rfl ?_
  refine z_iload_n 2 O dX6_simulate_1 rfl ?_
  refine z_i2l O dX6_simulate_2 ⟨by omega, by omega⟩ ?_
  refine z_lconst 1 O dX6_simulate_3 (by decide +kernel) ?_
  refine z_ldc2 (iL 99) O dX6_simulate_4 (List.mem_of_getElem? (i := 1184) (by decide +kernel)) ?_
  refine z_Si [.long (iL k), .long (iL 1), .long (iL 99)] [.ref q] kM_X6_92 O dX6_simulate_7 (c_X6_in hst ⟨by omega, by omega⟩ ⟨by omega, by omega⟩ ⟨by omega, by omega⟩) rfl rfl (by decide) (Nat.le_of_ble_eq_true rfl) (by omega) (by omega) (Nat.le_of_ble_eq_true rfl) zNx ?_
  refine z_ifb_eq 17 O dX6_simulate_10 (by decide) (fun c_10 => ?_) (fun c_10 => ?_)
  · skip
    have k_10 := sBt_f.mp c_10
    refine z_iconst 1 O dX6_simulate_17 (by decide +kernel) ?_
    refine z_Vim [.int (iI 1)] [] kM_X6_118 O dX6_simulate_18 (c_X6_refused hst hO ⟨by omega, by omega⟩) rfl rfl hO.1 (by decide) (Nat.le_of_ble_eq_true rfl) (by omega) (by omega) (Nat.le_of_ble_eq_true rfl) zNx (fun H1 hp2 hz3 => ?_)
    obtain ⟨hf4, hz5⟩ := hp2
    have hT6 := hT.fr hf4 (by first | exact zT1 (by omega) | (show ¬ (_ ∨ _); omega) | (show ¬ (_ ∧ _); omega))
    have hR7 := hR.fr hf4 (by first | exact zT1 (by omega) | (show ¬ (_ ∨ _); omega) | (show ¬ (_ ∧ _); omega))
    have hA8 := hA.fr hf4 (by first | exact zT1 (by omega) | (show ¬ (_ ∨ _); omega) | (show ¬ (_ ∧ _); omega))
    have hY9 := hY.fr hf4 (by first | exact zT1 (by omega) | (show ¬ (_ ∨ _); omega) | (show ¬ (_ ∧ _); omega))
    have hD10 := hD.fr hf4 (by first | exact zT1 (by omega) | (show ¬ (_ ∨ _); omega) | (show ¬ (_ ∧ _); omega)) (by first | exact zT1 (by omega) | (show ¬ (_ ∨ _); omega) | (show ¬ (_ ∧ _); omega)) (by first | exact zT1 (by omega) | (show ¬ (_ ∨ _); omega) | (show ¬ (_ ∧ _); omega)) (by first | exact zT1 (by omega) | (show ¬ (_ ∨ _); omega) | (show ¬ (_ ∧ _); omega))
    have hK11 := hK.fr hf4 (by first | exact zT1 (by omega) | (show ¬ (_ ∨ _); omega) | (show ¬ (_ ∧ _); omega))
    have hI12 := hI.fr hf4 (by first | exact zT1 (by omega) | (show ¬ (_ ∨ _); omega) | (show ¬ (_ ∧ _); omega))
    rw [show zb (decide ((0 : Int) < 1)) = 1 from rfl]
    refine z_if_eq 26 O dX6_simulate_21 (by decide) ⟨by omega, by omega⟩ (fun c_21 => ?_) (fun c_21 => ?_)
    · exfalso; omega
    · skip
      refine z_iconst 0 O dX6_simulate_24 (by decide +kernel) ?_
      exact z_ireti O dX6_simulate_25 rfl (by omega) (by omega) hpo (by rw [if_neg (by rw [show (cSi k) = 1 from by unfold cSi; (repeat first | rw [if_pos (by omega)] | rw [if_neg (by omega)] | rw [if_neg (by rw [c_10]; decide)])]; decide)]) (⟨(hf4.up (fun s h => by first | exact h.elim | omega | (simp at h ⊢; omega))), Or.inl ⟨(by rw [show (cSi k) = 1 from by unfold cSi; (repeat first | rw [if_pos (by omega)] | rw [if_neg (by omega)] | rw [if_neg (by rw [c_10]; decide)])]; decide), (by rw [show (cSi k) = 1 from by unfold cSi; (repeat first | rw [if_pos (by omega)] | rw [if_neg (by omega)] | rw [if_neg (by rw [c_10]; decide)])]; exact ⟨_, _, _, _, _, hz5, hT6, hR7, hA8, hY9, hD10, hK11, hI12⟩)⟩⟩)
  · skip
    have k_10 := sBt_t.mp c_10
    refine z_iconst 0 O dX6_simulate_13 (by decide +kernel) ?_
    refine z_goto 18 O dX6_simulate_14 (by decide) ?_
    refine z_Vim [.int (iI 0)] [] kM_X6_118 O dX6_simulate_18 (c_X6_refused hst hO ⟨by omega, by omega⟩) rfl rfl hO.1 (by decide) (Nat.le_of_ble_eq_true rfl) (by omega) (by omega) (Nat.le_of_ble_eq_true rfl) zNx (fun H13 hp14 hz15 => ?_)
    obtain ⟨hf16, hz17⟩ := hp14
    have hT18 := hT.fr hf16 (by first | exact zT1 (by omega) | (show ¬ (_ ∨ _); omega) | (show ¬ (_ ∧ _); omega))
    have hR19 := hR.fr hf16 (by first | exact zT1 (by omega) | (show ¬ (_ ∨ _); omega) | (show ¬ (_ ∧ _); omega))
    have hA20 := hA.fr hf16 (by first | exact zT1 (by omega) | (show ¬ (_ ∨ _); omega) | (show ¬ (_ ∧ _); omega))
    have hY21 := hY.fr hf16 (by first | exact zT1 (by omega) | (show ¬ (_ ∨ _); omega) | (show ¬ (_ ∧ _); omega))
    have hD22 := hD.fr hf16 (by first | exact zT1 (by omega) | (show ¬ (_ ∨ _); omega) | (show ¬ (_ ∧ _); omega)) (by first | exact zT1 (by omega) | (show ¬ (_ ∨ _); omega) | (show ¬ (_ ∧ _); omega)) (by first | exact zT1 (by omega) | (show ¬ (_ ∨ _); omega) | (show ¬ (_ ∧ _); omega)) (by first | exact zT1 (by omega) | (show ¬ (_ ∨ _); omega) | (show ¬ (_ ∧ _); omega))
    have hK23 := hK.fr hf16 (by first | exact zT1 (by omega) | (show ¬ (_ ∨ _); omega) | (show ¬ (_ ∧ _); omega))
    have hI24 := hI.fr hf16 (by first | exact zT1 (by omega) | (show ¬ (_ ∨ _); omega) | (show ¬ (_ ∧ _); omega))
    rw [show zb (decide ((0 : Int) < 0)) = 0 from rfl]
    refine z_if_eq 26 O dX6_simulate_21 (by decide) ⟨by omega, by omega⟩ (fun c_21 => ?_) (fun c_21 => ?_)
    · skip
      refine z_aload_n 0 O dX6_simulate_26 rfl ?_
      refine z_Vvm [] [] kM_X6_249 O dX6_simulate_27 (c_X6_tryIt hst hz17 hA20 hY21) rfl rfl hz17.1 (by decide) (Nat.le_of_ble_eq_true rfl) (by omega) (by omega) (Nat.le_of_ble_eq_true rfl) zNx (fun H25 hp26 hz27 => ?_)
      obtain ⟨hf28, hz29⟩ := hp26
      have hz30 := hz17.fr hf28 (by first | exact zT1 (by omega) | (show ¬ (_ ∨ _); omega) | (show ¬ (_ ∧ _); omega))
      have hT31 := hT18.fr hf28 (by first | exact zT1 (by omega) | (show ¬ (_ ∨ _); omega) | (show ¬ (_ ∧ _); omega))
      have hR32 := hR19.fr hf28 (by first | exact zT1 (by omega) | (show ¬ (_ ∨ _); omega) | (show ¬ (_ ∧ _); omega))
      have hA33 := hA20.fr hf28 (by first | exact zT1 (by omega) | (show ¬ (_ ∨ _); omega) | (show ¬ (_ ∧ _); omega))
      have hD34 := hD22.fr hf28 (by first | exact zT1 (by omega) | (show ¬ (_ ∨ _); omega) | (show ¬ (_ ∧ _); omega)) (by first | exact zT1 (by omega) | (show ¬ (_ ∨ _); omega) | (show ¬ (_ ∧ _); omega)) (by first | exact zT1 (by omega) | (show ¬ (_ ∨ _); omega) | (show ¬ (_ ∧ _); omega)) (by first | exact zT1 (by omega) | (show ¬ (_ ∨ _); omega) | (show ¬ (_ ∧ _); omega))
      have hK35 := hK23.fr hf28 (by first | exact zT1 (by omega) | (show ¬ (_ ∨ _); omega) | (show ¬ (_ ∧ _); omega))
      have hI36 := hI24.fr hf28 (by first | exact zT1 (by omega) | (show ¬ (_ ∨ _); omega) | (show ¬ (_ ∧ _); omega))
      refine z_lload_n 1 O dX6_simulate_30 rfl ?_
      refine z_lstore [(4, .long x0), (0, .ref q), (1, .long x0), (3, .int (iI k))] O dX6_simulate_31 (by decide) rfl ?_
      refine z_iconst 0 O dX6_simulate_33 (by decide +kernel) ?_
      refine z_istore [(6, .int (iI 0)), (4, .long x0), (0, .ref q), (1, .long x0), (3, .int (iI k))] O dX6_simulate_34 (by decide) rfl ?_
      have loop : ∀ (d : Nat) (i : Int) (y : Int64) (K : Int → Int) (H' : Heap), (0 ≤ i) → (i + (d : Int) = k) → (sW K (N + i)) → (sSm nxL drL d y K = sSm nxL drL k.toNat x0 G) → (zFr H r H' r (fun s => 100000 ≤ s)) → (zMo (zEn x) H' r q Q 0 n sp gd lo fi ac) → (zA (zEn x) H' r 100001 (Q 1) 120 tx) → (zA (zEn x) H' r 100002 (Q 2) 4086 rd) → (zA (zEn x) H' r 100003 (Q 3) 4086 G) → (zA (zEn x) H' r 100004 (Q 4) 4086 K) → (zDy (zEn x) H' r Q dd) → (zA (zEn x) H' r 100009 (Q 9) 8172 kp) → (zZ (zEn x) H' r 100010 (Q 10) 2 ik) → zG x H' 0 0 36 [(6, .int (iI i)), (4, .long y), (0, .ref q), (1, .long x0), (3, .int (iI k))] [] := by
        intro d
        induction d with
        | zero =>
          intro i y K H' hi0 hid hKG hRR hf' hO' hT' hR' hA' hY' hD' hK' hI'
          refine z_iload 0 O dX6_simulate_36 rfl ?_
          refine z_iload_n 4 O dX6_simulate_38 rfl ?_
          refine z_icmp_ge 70 O dX6_simulate_39 (by decide) ⟨by omega, by omega⟩ ⟨by omega, by omega⟩ (fun c_39 => ?_) (fun c_39 => ?_)
          · skip
            refine z_sipush 1000 O dX6_simulate_70 (by decide +kernel) ?_
            refine z_aload_n 2 O dX6_simulate_73 rfl ?_
            refine z_getf kF_X6_19 O dX6_simulate_74 hO'.1 rfl ?_
            refine z_bipush 33 O dX6_simulate_77 (by decide +kernel) ?_
            refine z_iald O dX6_simulate_79 hY'.1 ⟨by omega, by omega⟩ (by omega) (by omega) ?_
            refine z_aload_n 2 O dX6_simulate_80 rfl ?_
            refine z_getf kF_X6_16 O dX6_simulate_81 hO'.1 rfl ?_
            refine z_bipush 33 O dX6_simulate_84 (by decide +kernel) ?_
            refine z_iald O dX6_simulate_86 hA'.1 ⟨by omega, by omega⟩ (by omega) (by omega) ?_
            refine z_isub O dX6_simulate_87 ?_
            refine z_imul O dX6_simulate_88 ?_
            refine z_aload_n 2 O dX6_simulate_89 rfl ?_
            refine z_getf kF_X6_19 O dX6_simulate_90 hO'.1 rfl ?_
            refine z_bipush 34 O dX6_simulate_93 (by decide +kernel) ?_
            refine z_iald O dX6_simulate_95 hY'.1 ⟨by omega, by omega⟩ (by omega) (by omega) ?_
            refine z_iadd O dX6_simulate_96 ?_
            refine z_aload_n 2 O dX6_simulate_97 rfl ?_
            refine z_getf kF_X6_16 O dX6_simulate_98 hO'.1 rfl ?_
            refine z_bipush 34 O dX6_simulate_101 (by decide +kernel) ?_
            refine z_iald O dX6_simulate_103 hA'.1 ⟨by omega, by omega⟩ (by omega) (by omega) ?_
            refine z_isub O dX6_simulate_104 ?_
            exact z_ireti O dX6_simulate_105 rfl (by omega) (by omega) hpo (by rw [if_pos (show (cSi k) = 0 from by unfold cSi; (repeat first | rw [if_pos (by omega)] | rw [if_neg (by omega)] | rw [if_pos c_10]))]; unfold vSi; rw [← hRR, sSm_0]) (⟨(hf'.up (fun s h => by first | exact h.elim | omega | (simp at h ⊢; omega))), Or.inr ⟨(show (cSi k) = 0 from by unfold cSi; (repeat first | rw [if_pos (by omega)] | rw [if_neg (by omega)] | rw [if_pos c_10])), ⟨_, _, _, _, _, hO', hT', hR', hA', hY', hD', hK', hI'⟩⟩⟩)
          · exfalso; omega
        | succ d ih =>
          intro i y K H' hi0 hid hKG hRR hf' hO' hT' hR' hA' hY' hD' hK' hI'
          refine z_iload 0 O dX6_simulate_36 rfl ?_
          refine z_iload_n 4 O dX6_simulate_38 rfl ?_
          refine z_icmp_ge 70 O dX6_simulate_39 (by decide) ⟨by omega, by omega⟩ ⟨by omega, by omega⟩ (fun c_39 => ?_) (fun c_39 => ?_)
          · exfalso; omega
          · skip
            refine z_lload 1 O dX6_simulate_42 rfl ?_
            refine z_ldc2 6364136223846793005 O dX6_simulate_44 (List.mem_of_getElem? (i := 1279) (by decide +kernel)) ?_
            refine z_lmul O dX6_simulate_47 ?_
            refine z_ldc2 1442695040888963407 O dX6_simulate_48 (List.mem_of_getElem? (i := 1280) (by decide +kernel)) ?_
            refine z_ladd O dX6_simulate_51 ?_
            rw [show (y * 6364136223846793005) + 1442695040888963407 = nxL y from rfl]
            refine z_lstore [(4, .long (nxL y)), (6, .int (iI i)), (0, .ref q), (1, .long x0), (3, .int (iI k))] O dX6_simulate_52 (by decide) rfl ?_
            refine z_aload_n 2 O dX6_simulate_54 rfl ?_
            refine z_lload 0 O dX6_simulate_55 rfl ?_
            refine z_bipush 33 O dX6_simulate_57 (by decide +kernel) ?_
            refine z_lushr (v := iL (drL (nxL y))) O dX6_simulate_59 drL_e ?_
            refine z_l2i O dX6_simulate_60 ?_
            refine z_Vvm [.int (iI (drL (nxL y)))] [] kM_X6_282 O dX6_simulate_61 (c_X6_stir hst hO' hY' hKG (by omega) drL_R) rfl rfl hO'.1 (by decide) (Nat.le_of_ble_eq_true rfl) (by omega) (by omega) (Nat.le_of_ble_eq_true rfl) zNx (fun H37 hp38 hz39 => ?_)
            obtain ⟨hf40, hz41⟩ := hp38
            have hO'42 := hO'.fr hf40 (by first | exact zT1 (by omega) | (show ¬ (_ ∨ _); omega) | (show ¬ (_ ∧ _); omega))
            have hT'43 := hT'.fr hf40 (by first | exact zT1 (by omega) | (show ¬ (_ ∨ _); omega) | (show ¬ (_ ∧ _); omega))
            have hR'44 := hR'.fr hf40 (by first | exact zT1 (by omega) | (show ¬ (_ ∨ _); omega) | (show ¬ (_ ∧ _); omega))
            have hA'45 := hA'.fr hf40 (by first | exact zT1 (by omega) | (show ¬ (_ ∨ _); omega) | (show ¬ (_ ∧ _); omega))
            have hD'46 := hD'.fr hf40 (by first | exact zT1 (by omega) | (show ¬ (_ ∨ _); omega) | (show ¬ (_ ∧ _); omega)) (by first | exact zT1 (by omega) | (show ¬ (_ ∨ _); omega) | (show ¬ (_ ∧ _); omega)) (by first | exact zT1 (by omega) | (show ¬ (_ ∨ _); omega) | (show ¬ (_ ∧ _); omega)) (by first | exact zT1 (by omega) | (show ¬ (_ ∨ _); omega) | (show ¬ (_ ∧ _); omega))
            have hK'47 := hK'.fr hf40 (by first | exact zT1 (by omega) | (show ¬ (_ ∨ _); omega) | (show ¬ (_ ∧ _); omega))
            have hI'48 := hI'.fr hf40 (by first | exact zT1 (by omega) | (show ¬ (_ ∨ _); omega) | (show ¬ (_ ∧ _); omega))
            refine z_iinc 1 [(6, .int (iI (i + 1))), (4, .long (nxL y)), (0, .ref q), (1, .long x0), (3, .int (iI k))] O dX6_simulate_64 (by decide) rfl rfl ?_
            refine z_goto 36 O dX6_simulate_67 (by decide) ?_
            have hI2 := sSt_I hKG (by omega) (v := drL (nxL y)) drL_R.1; rw [show N + i + 1 = N + (i + 1) by omega] at hI2
            exact ih (i + 1) (nxL y) (sSt K (drL (nxL y))) H37 (by omega) (by omega) hI2 (sSm_s.symm.trans hRR) (((hf'.up (fun s h => by first | exact h.elim | omega | (simp at h ⊢; omega)))).tr (hf40.up (fun s h => by first | exact h.elim | omega | (simp at h ⊢; omega)))) hO'42 hT'43 hR'44 hA'45 hz41 hD'46 hK'47 hI'48
      exact loop k.toNat 0 x0 G H25 (by omega) (by omega) (hG.up (by omega) (by omega)) rfl (((hf16.up (fun s h => by first | exact h.elim | omega | (simp at h ⊢; omega)))).tr (hf28.up (fun s h => by first | exact h.elim | omega | (simp at h ⊢; omega)))) hz30 hT31 hR32 hA33 hz29 hD34 hK35 hI36
    · exfalso; omega
