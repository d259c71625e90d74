/-! the class: scripts, simulations (written by program: wip/whole/gen/class21.py) -/
theorem zTd {s t : Int} (h : 0 ≤ s) (ht : 1 ≤ t) : s / t = 0 ↔ s ≤ t - 1 := by
  constructor
  · intro e
    have := (Int.ediv_lt_iff_lt_mul (a := s) (b := 1) (show 0 < t by omega)).mp (by omega)
    omega
  · intro e
    exact Int.ediv_eq_zero_of_lt h (by omega)
theorem c_X5_runScript {E : zE} (hst : E.1.stackTraces = false) {H : Heap} {r : zH} {a : Nat → Nat} {n : Int} {tx G : Int → Int} {fi ac : Int} {dd : Nat → Int → Int} {kp ik : Int → Int} {N : Int} {n0 s0 : Int} (h : zCm E H r a n tx G fi ac dd kp ik) (hOK : cOK n tx G fi ac dd kp ik N) (hzn : zR n0) (hzs : zRL s0) (hN6 : N ≤ 630) : zC E yX5_runScript cX5_runScript 6 (some .int) 8 213 [.ref (a 1200), .int (iI n0), .long (iL s0)] H 13566 277336 (zRi (sRu n0.toNat s0 0 G) (fun H1 => cRs n0 s0 = 0 ∧ zCp E H r a n tx G fi ac dd kp ik H1)) (zXc (cRs n0 s0) xA "" "" H) := by
  refine zC.of2 (by decide) (Nat.le_of_ble_eq_true rfl) hst ?_
  intro x O hE hpo hpx hH
  subst hE
  change zG x H 0 0 0 [(0, .ref (a 1200)), (1, .int (iI n0)), (2, .long (iL s0))] []
  have hOK9 := hOK
  obtain ⟨nx, fl, F, sf, KS, hfw, hhr, hkr⟩ := id h
  obtain ⟨fO, fT, fcap, fS, ⟨S, fC⟩, fH, fQ, fL, fZ⟩ := id hfw
  obtain ⟨⟨hn, hx, hG, hN, hfi, hac, hik⟩, hdd, hkk⟩ := hOK
  refine z_iload_n 1 O dX5_runScript_0 rfl ?_
  refine z_iconst 1 O dX5_runScript_1 (by decide +kernel) ?_
  refine z_icmp_lt 10 O dX5_runScript_2 (by decide) ⟨by omega, by omega⟩ ⟨by omega, by omega⟩ (fun c_2 => ?_) (fun c_2 => ?_)
  · skip
    exact z_throwX kT_43_251_47 O dX5_runScript_10 dX5_runScript_13 dX5_runScript_14 dX5_runScript_16 dX5_runScript_19 (by decide) (Nat.le_of_ble_eq_true rfl) (by omega) (by omega) (fun H1 hs1 hz1 hz2 => by rw [hH] at hz1 hz2; rw [hpx]; exact ⟨Or.inl ⟨(by unfold cRs; (repeat first | rw [if_pos (by omega)] | rw [if_neg (by omega)])), rfl⟩, hs1, hz1, hz2⟩)
  · skip
    refine z_iload_n 1 O dX5_runScript_5 rfl ?_
    refine z_iconst 3 O dX5_runScript_6 (by decide +kernel) ?_
    refine z_icmp_le 20 O dX5_runScript_7 (by decide) ⟨by omega, by omega⟩ ⟨by omega, by omega⟩ (fun c_7 => ?_) (fun c_7 => ?_)
    · skip
      have ht0 := zTen_R (5 * n0.toNat) (by omega)
      refine z_lload_n 2 O dX5_runScript_20 rfl ?_
      refine z_lconst 0 O dX5_runScript_21 (by decide +kernel) ?_
      refine z_lif_lt 36 O dX5_runScript_22 dX5_runScript_23 (by decide) ⟨by omega, by omega⟩ ⟨by omega, by omega⟩ (fun c_22 => ?_) (fun c_22 => ?_)
      · skip
        exact z_throwXW kT_43_257_47 O dX5_runScript_36 dX5_runScript_39 dX5_runScript_40 dX5_runScript_43 dX5_runScript_46 (by decide) (Nat.le_of_ble_eq_true rfl) (by omega) (by omega) (fun H1 hs1 hz1 hz2 => by rw [hH] at hz1 hz2; rw [hpx]; exact ⟨Or.inl ⟨(by unfold cRs; (repeat first | rw [if_pos (by omega)] | rw [if_neg (by omega)])), rfl⟩, hs1, hz1, hz2⟩)
      · skip
        have hdv0 := zDv (s := s0) (t := zTen (5 * n0.toNat)) (by omega) ht0.1
        refine z_lload_n 2 O dX5_runScript_26 rfl ?_
        refine z_iload_n 1 O dX5_runScript_27 rfl ?_
        refine z_Sl [.long (iL s0), .int (iI n0)] [] kM_X5_253 O dX5_runScript_28 (c_X5_dropGroups hst ⟨by omega, by omega⟩ (k := n0.toNat) (by omega) (by omega)) rfl rfl (by decide) (Nat.le_of_ble_eq_true rfl) (by omega) (by omega) (Nat.le_of_ble_eq_true rfl) zNx ?_
        refine z_lconst 0 O dX5_runScript_31 (by decide +kernel) ?_
        refine z_lif_eq 47 O dX5_runScript_32 dX5_runScript_33 (by decide) ⟨by omega, by omega⟩ ⟨by omega, by omega⟩ (fun c_32 => ?_) (fun c_32 => ?_)
        · skip
          have h9 := (zTd (by omega) ht0.1).mp c_32
          refine z_aload_n 0 O dX5_runScript_47 rfl ?_
          refine z_getf kF_X5_25 O dX5_runScript_48 fO.1 rfl ?_
          refine z_aload_n 0 O dX5_runScript_51 rfl ?_
          refine z_getf kF_X5_21 O dX5_runScript_52 fO.1 rfl ?_
          obtain ⟨hsO1, _⟩ := id fC
          refine z_Vvm [.ref (a 0)] [] kM_X5_221 O dX5_runScript_55 (c_X2_copyFrom hst fC fS hG (by decide)) rfl rfl hsO1.1 (by decide) (Nat.le_of_ble_eq_true rfl) (by omega) (by omega) (Nat.le_of_ble_eq_true rfl) zNx (fun H2 hp3 hz4 => ?_)
          obtain ⟨r5, hf6, fC7, hmo8⟩ := hp3
          have fO9 := fO.fr hf6 (by first | exact (fun h => h) | exact zT1 (by omega) | (show ¬ (_ ∨ _); omega) | (show ¬ (_ ∧ _); omega))
          have fT10 := fT.fr hf6 (by first | exact (fun h => h) | exact zT1 (by omega) | (show ¬ (_ ∨ _); omega) | (show ¬ (_ ∧ _); omega)) (by first | exact (fun h => h) | exact zT1 (by omega) | (show ¬ (_ ∨ _); omega) | (show ¬ (_ ∧ _); omega))
          have fS11 := fS.fr hf6 (fun s h1 h2 => by first | exact (fun h => h) | exact zT1 (by omega) | (show ¬ (_ ∨ _); omega) | (show ¬ (_ ∧ _); omega) | (show ¬ (_ < _); omega))
          have fH12 := fH.fr hf6 (fun s h1 => by first | exact (fun h => h) | exact zT1 (by omega) | (show ¬ (_ ∨ _); omega) | (show ¬ (_ ∧ _); omega) | (show ¬ (_ < _); omega))
          have fQ13 := fQ.fr hf6 (by first | exact (fun h => h) | exact zT1 (by omega) | (show ¬ (_ ∨ _); omega) | (show ¬ (_ ∧ _); omega))
          have fL14 := fL.fr hf6 (fun s h1 h2 => by first | exact (fun h => h) | exact zT1 (by omega) | (show ¬ (_ ∨ _); omega) | (show ¬ (_ ∧ _); omega) | (show ¬ (_ < _); omega))
          have fZ15 := fZ.fr hf6 (by first | exact (fun h => h) | exact zT1 (by omega) | (show ¬ (_ ∨ _); omega) | (show ¬ (_ ∧ _); omega))
          have fcap16 := (hf6.2.2.2 1203 (by first | exact (fun h => h) | exact zT1 (by omega) | (show ¬ (_ ∨ _); omega) | (show ¬ (_ ∧ _); omega))).trans fcap
          have hp0 := zPh_le (t := 0) hmo8
          have hp6 := zPh_le (t := 64) hmo8
          refine z_meter (fun hb1 hb2 => ?_)
          rw [hH] at hb1 hb2
          refine z_iconst 0 O dX5_runScript_58 (by decide +kernel) ?_
          refine z_istore [(4, .int (iI 0)), (0, .ref (a 1200)), (1, .int (iI n0)), (2, .long (iL s0))] O dX5_runScript_59 (by decide) rfl ?_
          have loop61 : ∀ (d : Nat) (i : Int) (K : Int → Int) (H' : Heap) (r' : zH), (0 ≤ i) → (i + (d : Int) = n0) → (sW K (N + i)) → (sRu d s0 i K = sRu n0.toNat s0 0 G) → (H'.size + zPs r ≤ H.size + zPs r' + 14) → (zSz H' + 20 * zPs r ≤ zSz H + 20 * zPs r' + 6296) → (r'.2 1203 = 120) → (zFr H r H' r' (fun s => s < 1300)) → (zO (zEn x) H' r' 1200 (a 1200) 5 [.ref (a 1202), .ref (a 0), .ref (a 64), .ref (a 1204), .ref (a 1206), .ref (a 1207)]) → (zRow (zEn x) H' r' 1202 (a 1202) 120 n tx) → (zSt (zEn x) H' r' a 0 G) → (zSt (zEn x) H' r' a 64 K) → (zHy (zEn x) H' r' a nx ac fl F) → (zQr (zEn x) H' r' 1206 (a 1206) 2 2 (zOp sf (fun i => a (1024 + 64 * i.toNat)))) → (zSl (zEn x) H' r' a sf KS) → (zZ (zEn x) H' r' 1207 (a 1207) 2 ik) → zG x H' (14 + (zPs r' - zPs r)) (6296 + 20 * (zPs r' - zPs r)) 61 [(4, .int (iI i)), (0, .ref (a 1200)), (1, .int (iI n0)), (2, .long (iL s0))] [] := by
            intro d
            induction d with
            | zero =>
              intro i K H' r' hi0 hid hKG hRR hs1 hs2 fcap' hf' y0' y1' y2' y3' y4' y5' y6' y7'
              refine z_iload 0 O dX5_runScript_61 rfl ?_
              refine z_iload_n 2 O dX5_runScript_63 rfl ?_
              refine z_icmp_ge 102 O dX5_runScript_64 (by decide) ⟨by omega, by omega⟩ ⟨by omega, by omega⟩ (fun c_64 => ?_) (fun c_64 => ?_)
              · skip
                refine z_iconst (-1) O dX5_runScript_102 (by decide +kernel) ?_
                have hb0 := y2'.ph
                have hb6 := y3'.ph
                have hbs : zPs r' ≤ 12528 := by unfold zPs; omega
                have hgv : zGv H r H' r' := by unfold zGv; omega
                exact z_ireti O dX5_runScript_103 rfl (by omega) (by omega) hpo (by rw [← hRR]; rfl) (⟨(by unfold cRs; (repeat first | rw [if_pos (by omega)] | rw [if_neg (by omega)])), r', a, rfl, (hf'.up (fun s h => by first | exact h.elim | (show _ < _; omega) | omega | (simp at h ⊢; omega))), hgv, nx, fl, F, sf, KS, (zFw.mk (fun _ _ => rfl) y0' y1' fcap' y2' y3' y4' y5' y6' y7'), hhr, hkr⟩)
              · exfalso; omega
            | succ d ih =>
              intro i K H' r' hi0 hid hKG hRR hs1 hs2 fcap' hf' y0' y1' y2' y3' y4' y5' y6' y7'
              refine z_iload 0 O dX5_runScript_61 rfl ?_
              refine z_iload_n 2 O dX5_runScript_63 rfl ?_
              refine z_icmp_ge 102 O dX5_runScript_64 (by decide) ⟨by omega, by omega⟩ ⟨by omega, by omega⟩ (fun c_64 => ?_) (fun c_64 => ?_)
              · exfalso; omega
              · skip
                have hb0 := y2'.ph
                have hb6 := y3'.ph
                have hbs : zPs r' ≤ 12528 := by unfold zPs; omega
                have htd := zTen_R (5 * d) (by omega)
                have hdv := zDv (s := s0) (t := zTen (5 * d)) (by omega) htd.1
                refine z_lload_n 3 O dX5_runScript_67 rfl ?_
                refine z_iload_n 2 O dX5_runScript_68 rfl ?_
                refine z_iconst 1 O dX5_runScript_69 (by decide +kernel) ?_
                refine z_isub O dX5_runScript_70 ?_
                refine z_iload 0 O dX5_runScript_71 rfl ?_
                refine z_isub O dX5_runScript_73 ?_
                refine z_Sl [.long (iL s0), .int (iI ((n0 - 1) - i))] [] kM_X5_253 O dX5_runScript_74 (c_X5_dropGroups hst ⟨by omega, by omega⟩ (k := d) (by omega) (by omega)) rfl rfl (by decide) (Nat.le_of_ble_eq_true rfl) (by omega) (by omega) (Nat.le_of_ble_eq_true rfl) zNx ?_
                refine z_ldc2 (iL 100000) O dX5_runScript_77 (List.mem_of_getElem? (i := 868) (by decide +kernel)) ?_
                refine z_lrem O dX5_runScript_80 ⟨by omega, by omega⟩ ⟨by omega, by omega⟩ (by omega) (by omega) ?_
                refine z_l2i O dX5_runScript_81 ?_
                refine z_istore [(5, .int (iI ((s0 / zTen (5 * d)) % 100000))), (4, .int (iI i)), (0, .ref (a 1200)), (1, .int (iI n0)), (2, .long (iL s0))] O dX5_runScript_82 (by decide) rfl ?_
                refine z_aload_n 2 O dX5_runScript_84 rfl ?_
                refine z_iload 0 O dX5_runScript_85 rfl ?_
                have hb0 := y2'.ph
                have hb6 := y3'.ph
                have hbs : zPs r' ≤ 12528 := by unfold zPs; omega
                refine z_Vim [.int (iI ((s0 / zTen (5 * d)) % 100000))] [] kM_X5_261 O dX5_runScript_87 (c_X5_obeyGroup hst y0' y3' hKG (by omega) ⟨by omega, by omega⟩) rfl rfl y0'.1 (by decide) (Nat.le_of_ble_eq_true rfl) (by omega) (by omega) (Nat.le_of_ble_eq_true rfl) zNx (fun H17 hp18 hz19 => ?_)
                obtain ⟨r20, hf21, hg22, fC23⟩ := hp18
                have y0'24 := y0'.fr hf21 (by first | exact (fun h => h) | exact zT1 (by omega) | (show ¬ (_ ∨ _); omega) | (show ¬ (_ ∧ _); omega))
                have y1'25 := y1'.fr hf21 (by first | exact (fun h => h) | exact zT1 (by omega) | (show ¬ (_ ∨ _); omega) | (show ¬ (_ ∧ _); omega)) (by first | exact (fun h => h) | exact zT1 (by omega) | (show ¬ (_ ∨ _); omega) | (show ¬ (_ ∧ _); omega))
                have y2'26 := y2'.fr hf21 (fun s h1 h2 => by first | exact (fun h => h) | exact zT1 (by omega) | (show ¬ (_ ∨ _); omega) | (show ¬ (_ ∧ _); omega) | (show ¬ (_ < _); omega))
                have y4'27 := y4'.fr hf21 (fun s h1 => by first | exact (fun h => h) | exact zT1 (by omega) | (show ¬ (_ ∨ _); omega) | (show ¬ (_ ∧ _); omega) | (show ¬ (_ < _); omega))
                have y5'28 := y5'.fr hf21 (by first | exact (fun h => h) | exact zT1 (by omega) | (show ¬ (_ ∨ _); omega) | (show ¬ (_ ∧ _); omega))
                have y6'29 := y6'.fr hf21 (fun s h1 h2 => by first | exact (fun h => h) | exact zT1 (by omega) | (show ¬ (_ ∨ _); omega) | (show ¬ (_ ∧ _); omega) | (show ¬ (_ < _); omega))
                have y7'30 := y7'.fr hf21 (by first | exact (fun h => h) | exact zT1 (by omega) | (show ¬ (_ ∨ _); omega) | (show ¬ (_ ∧ _); omega))
                have fcap31 := (hf21.2.2.2 1203 (by first | exact (fun h => h) | exact zT1 (by omega) | (show ¬ (_ ∨ _); omega) | (show ¬ (_ ∧ _); omega))).trans fcap'
                have hg1 := hg22.1
                have hg2 := hg22.2
                have hq0 := zPh_fr (t := 0) hf21 (fun s p q => by show ¬ (_ ∧ _); omega)
                refine z_ifb_ne 96 O dX5_runScript_90 (by decide) (fun c_90 => ?_) (fun c_90 => ?_)
                · skip
                  refine z_iinc 1 [(4, .int (iI (i + 1))), (5, .int (iI ((s0 / zTen (5 * d)) % 100000))), (0, .ref (a 1200)), (1, .int (iI n0)), (2, .long (iL s0))] O dX5_runScript_96 (by decide) rfl rfl ?_
                  refine z_goto 61 O dX5_runScript_99 (by decide) ?_
                  refine z_locs [0, 2, 3, 4] rfl ?_
                  have hs3 : H17.size + zPs r ≤ H.size + zPs r20 + 14 := by unfold zPs at *; omega
                  have hs4 : zSz H17 + 20 * zPs r ≤ zSz H + 20 * zPs r20 + 6296 := by unfold zPs at *; omega
                  refine z_tight (a' := 14 + (zPs r20 - zPs r)) (b' := 6296 + 20 * (zPs r20 - zPs r)) (by rw [hH]; omega) (by rw [hH]; omega) ?_
                  have hI2 := sDn_I hKG (by omega) (g := (s0 / zTen (5 * d)) % 100000) (by omega)
                  rw [show N + i + 1 = N + (i + 1) by omega] at hI2
                  have hR2 : sRu d s0 (i + 1) (sDn_ K ((s0 / zTen (5 * d)) % 100000)) = sRu n0.toNat s0 0 G := by rw [← hRR]; show _ = if _ then _ else _; rw [if_pos c_90]
                  exact ih (i + 1) (sDn_ K ((s0 / zTen (5 * d)) % 100000)) H17 r20 (by omega) (by omega) hI2 hR2 hs3 hs4 fcap31 (((hf'.up (fun s h => by first | exact h.elim | (show _ < _; omega) | omega | (simp at h ⊢; omega)))).tr (hf21.up (fun s h => by first | exact h.elim | (show _ < _; omega) | omega | (simp at h ⊢; omega)))) y0'24 y1'25 y2'26 fC23 y4'27 y5'28 y6'29 y7'30
                · skip
                  refine z_iload 1 O dX5_runScript_93 rfl ?_
                  have hb0 := y2'26.ph
                  have hb6 := fC23.ph
                  have hbs : zPs r20 ≤ 12528 := by unfold zPs; omega
                  have hgv : zGv H r H17 r20 := by unfold zGv; unfold zPs at *; omega
                  exact z_ireti O dX5_runScript_95 rfl (by omega) (by omega) hpo (by rw [← hRR]; show _ = if _ then _ else _; rw [if_neg (by rw [c_90]; decide)]) (⟨(by unfold cRs; (repeat first | rw [if_pos (by omega)] | rw [if_neg (by omega)] | rw [if_neg (by rw [c_90]; decide)])), r20, a, rfl, (((hf'.up (fun s h => by first | exact h.elim | (show _ < _; omega) | omega | (simp at h ⊢; omega)))).tr (hf21.up (fun s h => by first | exact h.elim | (show _ < _; omega) | omega | (simp at h ⊢; omega)))), hgv, nx, fl, F, sf, KS, (zFw.mk (fun _ _ => rfl) y0'24 y1'25 fcap31 y2'26 fC23 y4'27 y5'28 y6'29 y7'30), hhr, hkr⟩)
          have hs3 : H2.size + zPs r ≤ H.size + zPs r5 + 14 := by unfold zPs; omega
          have hs4 : zSz H2 + 20 * zPs r ≤ zSz H + 20 * zPs r5 + 6296 := by unfold zPs; omega
          refine z_tight (a' := 14 + (zPs r5 - zPs r)) (b' := 6296 + 20 * (zPs r5 - zPs r)) (by rw [hH]; omega) (by rw [hH]; omega) ?_
          exact loop61 n0.toNat 0 G H2 r5 (by omega) (by omega) (by rw [Int.add_zero]; exact hG) rfl hs3 hs4 fcap16 (hf6.up (fun s h => by first | exact h.elim | (show _ < _; omega) | omega | (simp at h ⊢; omega))) fO9 fT10 fS11 fC7 fH12 fQ13 fL14 fZ15
        · skip
          have h9 : ¬ s0 ≤ zTen (5 * n0.toNat) - 1 := fun q => c_32 ((zTd (by omega) ht0.1).mpr q)
          exact z_throwXW kT_43_257_47 O dX5_runScript_36 dX5_runScript_39 dX5_runScript_40 dX5_runScript_43 dX5_runScript_46 (by decide) (Nat.le_of_ble_eq_true rfl) (by omega) (by omega) (fun H1 hs1 hz1 hz2 => by rw [hH] at hz1 hz2; rw [hpx]; exact ⟨Or.inl ⟨(by unfold cRs; (repeat first | rw [if_pos (by omega)] | rw [if_neg (by omega)])), rfl⟩, hs1, hz1, hz2⟩)
    · skip
      exact z_throwX kT_43_251_47 O dX5_runScript_10 dX5_runScript_13 dX5_runScript_14 dX5_runScript_16 dX5_runScript_19 (by decide) (Nat.le_of_ble_eq_true rfl) (by omega) (by omega) (fun H1 hs1 hz1 hz2 => by rw [hH] at hz1 hz2; rw [hpx]; exact ⟨Or.inl ⟨(by unfold cRs; (repeat first | rw [if_pos (by omega)] | rw [if_neg (by omega)])), rfl⟩, hs1, hz1, hz2⟩)

theorem c_X5_simulate {E : zE} (hst : E.1.stackTraces = false) {H : Heap} {r : zH} {a : Nat → Nat} {n : Int} {tx G : Int → Int} {fi ac : Int} {dd : Nat → Int → Int} {kp ik : Int → Int} {N : Int} {x0 : Int64} {k : Int} (h : zCm E H r a n tx G fi ac dd kp ik) (hOK : cOK n tx G fi ac dd kp ik N) (hzk : zR k) (hN6 : N ≤ 540) : zC E yX5_simulate cX5_simulate 7 (some .int) 8 212 [.ref (a 1200), .long x0, .int (iI k)] H 13566 277336 (zRi (vSi x0 k G) (fun H1 => cSi k = 0 ∧ zCp E H r a n tx G fi ac dd kp ik H1)) (zXc (cSi k) xA "" "" H) := by
  refine zC.of2 (by decide) (Nat.le_of_ble_eq_true rfl) hst ?_
  intro x O hE hpo hpx hH
  subst hE
  change zG x H 0 0 0 [(0, .ref (a 1200)), (1, .long x0), (3, .int (iI k))] []
  have hOK9 := hOK
  obtain ⟨nx, fl, F, sf, KS, hfw, hhr, hkr⟩ := id h
  obtain ⟨fO, fT, fcap, fS, ⟨S, fC⟩, fH, fQ, fL, fZ⟩ := id hfw
  obtain ⟨⟨hn, hx, hG, hN, hfi, hac, hik⟩, hdd, hkk⟩ := hOK
  refine z_iload_n 2 O dX5_simulate_0 rfl ?_
  refine z_iconst 1 O dX5_simulate_1 (by decide +kernel) ?_
  refine z_icmp_lt 11 O dX5_simulate_2 (by decide) ⟨by omega, by omega⟩ ⟨by omega, by omega⟩ (fun c_2 => ?_) (fun c_2 => ?_)
  · skip
    exact z_throwXW kT_43_264_47 O dX5_simulate_11 dX5_simulate_14 dX5_simulate_15 dX5_simulate_18 dX5_simulate_21 (by decide) (Nat.le_of_ble_eq_true rfl) (by omega) (by omega) (fun H1 hs1 hz1 hz2 => by rw [hH] at hz1 hz2; rw [hpx]; exact ⟨Or.inl ⟨(by unfold cSi; (repeat first | rw [if_pos (by omega)] | rw [if_neg (by omega)])), rfl⟩, hs1, hz1, hz2⟩)
  · skip
    refine z_iload_n 2 O dX5_simulate_5 rfl ?_
    refine z_bipush 99 O dX5_simulate_6 (by decide +kernel) ?_
    refine z_icmp_le 22 O dX5_simulate_8 (by decide) ⟨by omega, by omega⟩ ⟨by omega, by omega⟩ (fun c_8 => ?_) (fun c_8 => ?_)
    · skip
      refine z_aload_n 0 O dX5_simulate_22 rfl ?_
      refine z_getf kF_X5_25 O dX5_simulate_23 fO.1 rfl ?_
      refine z_aload_n 0 O dX5_simulate_26 rfl ?_
      refine z_getf kF_X5_21 O dX5_simulate_27 fO.1 rfl ?_
      obtain ⟨hsO1, _⟩ := id fC
      refine z_Vvm [.ref (a 0)] [] kM_X5_221 O dX5_simulate_30 (c_X2_copyFrom hst fC fS hG (by decide)) rfl rfl hsO1.1 (by decide) (Nat.le_of_ble_eq_true rfl) (by omega) (by omega) (Nat.le_of_ble_eq_true rfl) zNx (fun H2 hp3 hz4 => ?_)
      obtain ⟨r5, hf6, fC7, hmo8⟩ := hp3
      have fO9 := fO.fr hf6 (by first | exact (fun h => h) | exact zT1 (by omega) | (show ¬ (_ ∨ _); omega) | (show ¬ (_ ∧ _); omega))
      have fT10 := fT.fr hf6 (by first | exact (fun h => h) | exact zT1 (by omega) | (show ¬ (_ ∨ _); omega) | (show ¬ (_ ∧ _); omega)) (by first | exact (fun h => h) | exact zT1 (by omega) | (show ¬ (_ ∨ _); omega) | (show ¬ (_ ∧ _); omega))
      have fS11 := fS.fr hf6 (fun s h1 h2 => by first | exact (fun h => h) | exact zT1 (by omega) | (show ¬ (_ ∨ _); omega) | (show ¬ (_ ∧ _); omega) | (show ¬ (_ < _); omega))
      have fH12 := fH.fr hf6 (fun s h1 => by first | exact (fun h => h) | exact zT1 (by omega) | (show ¬ (_ ∨ _); omega) | (show ¬ (_ ∧ _); omega) | (show ¬ (_ < _); omega))
      have fQ13 := fQ.fr hf6 (by first | exact (fun h => h) | exact zT1 (by omega) | (show ¬ (_ ∨ _); omega) | (show ¬ (_ ∧ _); omega))
      have fL14 := fL.fr hf6 (fun s h1 h2 => by first | exact (fun h => h) | exact zT1 (by omega) | (show ¬ (_ ∨ _); omega) | (show ¬ (_ ∧ _); omega) | (show ¬ (_ < _); omega))
      have fZ15 := fZ.fr hf6 (by first | exact (fun h => h) | exact zT1 (by omega) | (show ¬ (_ ∨ _); omega) | (show ¬ (_ ∧ _); omega))
      have fcap16 := (hf6.2.2.2 1203 (by first | exact (fun h => h) | exact zT1 (by omega) | (show ¬ (_ ∨ _); omega) | (show ¬ (_ ∧ _); omega))).trans fcap
      have hp0 := zPh_le (t := 0) hmo8
      have hp6 := zPh_le (t := 64) hmo8
      refine z_meter (fun hb1 hb2 => ?_)
      rw [hH] at hb1 hb2
      refine z_lload_n 1 O dX5_simulate_33 rfl ?_
      refine z_lstore [(4, .long x0), (0, .ref (a 1200)), (1, .long x0), (3, .int (iI k))] O dX5_simulate_34 (by decide) rfl ?_
      refine z_iconst 0 O dX5_simulate_36 (by decide +kernel) ?_
      refine z_istore [(6, .int (iI 0)), (4, .long x0), (0, .ref (a 1200)), (1, .long x0), (3, .int (iI k))] O dX5_simulate_37 (by decide) rfl ?_
      have loop39 : ∀ (d : Nat) (i : Int) (y : Int64) (K : Int → Int) (H' : Heap) (r' : zH), (0 ≤ i) → (i + (d : Int) = k) → (sW K (N + i)) → (sSm nxL drL d y K = sSm nxL drL k.toNat x0 G) → (H'.size + zPs r ≤ H.size + zPs r' + 14) → (zSz H' + 20 * zPs r ≤ zSz H + 20 * zPs r' + 6296) → (r'.2 1203 = 120) → (zFr H r H' r' (fun s => s < 1300)) → (zO (zEn x) H' r' 1200 (a 1200) 5 [.ref (a 1202), .ref (a 0), .ref (a 64), .ref (a 1204), .ref (a 1206), .ref (a 1207)]) → (zRow (zEn x) H' r' 1202 (a 1202) 120 n tx) → (zSt (zEn x) H' r' a 0 G) → (zSt (zEn x) H' r' a 64 K) → (zHy (zEn x) H' r' a nx ac fl F) → (zQr (zEn x) H' r' 1206 (a 1206) 2 2 (zOp sf (fun i => a (1024 + 64 * i.toNat)))) → (zSl (zEn x) H' r' a sf KS) → (zZ (zEn x) H' r' 1207 (a 1207) 2 ik) → zG x H' (14 + (zPs r' - zPs r)) (6296 + 20 * (zPs r' - zPs r)) 39 [(6, .int (iI i)), (4, .long y), (0, .ref (a 1200)), (1, .long x0), (3, .int (iI k))] [] := by
        intro d
        induction d with
        | zero =>
          intro i y K H' r' hi0 hid hKG hRR hs1 hs2 fcap' hf' y0' y1' y2' y3' y4' y5' y6' y7'
          refine z_iload 0 O dX5_simulate_39 rfl ?_
          refine z_iload_n 4 O dX5_simulate_41 rfl ?_
          refine z_icmp_ge 73 O dX5_simulate_42 (by decide) ⟨by omega, by omega⟩ ⟨by omega, by omega⟩ (fun c_42 => ?_) (fun c_42 => ?_)
          · skip
            refine z_sipush 1000 O dX5_simulate_73 (by decide +kernel) ?_
            refine z_aload_n 2 O dX5_simulate_76 rfl ?_
            refine z_getf kF_X5_25 O dX5_simulate_77 y0'.1 rfl ?_
            obtain ⟨hO17, _⟩ := id y3'
            refine z_getf kF_X5_112 O dX5_simulate_80 hO17.1 rfl ?_
            refine z_aload_n 2 O dX5_simulate_83 rfl ?_
            refine z_getf kF_X5_21 O dX5_simulate_84 y0'.1 rfl ?_
            obtain ⟨hO18, _⟩ := id y2'
            refine z_getf kF_X5_112 O dX5_simulate_87 hO18.1 rfl ?_
            refine z_isub O dX5_simulate_90 ?_
            refine z_imul O dX5_simulate_91 ?_
            refine z_aload_n 2 O dX5_simulate_92 rfl ?_
            refine z_getf kF_X5_25 O dX5_simulate_93 y0'.1 rfl ?_
            obtain ⟨hO19, _⟩ := id y3'
            refine z_getf kF_X5_118 O dX5_simulate_96 hO19.1 rfl ?_
            refine z_aload_n 2 O dX5_simulate_99 rfl ?_
            refine z_getf kF_X5_21 O dX5_simulate_100 y0'.1 rfl ?_
            obtain ⟨hO20, _⟩ := id y2'
            refine z_getf kF_X5_118 O dX5_simulate_103 hO20.1 rfl ?_
            refine z_isub O dX5_simulate_106 ?_
            refine z_iadd O dX5_simulate_107 ?_
            have hb0 := y2'.ph
            have hb6 := y3'.ph
            have hbs : zPs r' ≤ 12528 := by unfold zPs; omega
            have hgv : zGv H r H' r' := by unfold zGv; omega
            exact z_ireti O dX5_simulate_108 rfl (by omega) (by omega) hpo (by unfold vSi; rw [← hRR, sSm_0]; omega) (⟨(by unfold cSi; (repeat first | rw [if_pos (by omega)] | rw [if_neg (by omega)])), r', a, rfl, (hf'.up (fun s h => by first | exact h.elim | (show _ < _; omega) | omega | (simp at h ⊢; omega))), hgv, nx, fl, F, sf, KS, (zFw.mk (fun _ _ => rfl) y0' y1' fcap' y2' y3' y4' y5' y6' y7'), hhr, hkr⟩)
          · exfalso; omega
        | succ d ih =>
          intro i y K H' r' hi0 hid hKG hRR hs1 hs2 fcap' hf' y0' y1' y2' y3' y4' y5' y6' y7'
          refine z_iload 0 O dX5_simulate_39 rfl ?_
          refine z_iload_n 4 O dX5_simulate_41 rfl ?_
          refine z_icmp_ge 73 O dX5_simulate_42 (by decide) ⟨by omega, by omega⟩ ⟨by omega, by omega⟩ (fun c_42 => ?_) (fun c_42 => ?_)
          · exfalso; omega
          · skip
            refine z_lload 1 O dX5_simulate_45 rfl ?_
            refine z_ldc2 6364136223846793005 O dX5_simulate_47 (List.mem_of_getElem? (i := 887) (by decide +kernel)) ?_
            refine z_lmul O dX5_simulate_50 ?_
            refine z_ldc2 1442695040888963407 O dX5_simulate_51 (List.mem_of_getElem? (i := 888) (by decide +kernel)) ?_
            refine z_ladd O dX5_simulate_54 ?_
            rw [show (y * 6364136223846793005) + 1442695040888963407 = nxL y from rfl]
            have hdr := drL_R (x := nxL y)
            refine z_lstore [(4, .long (nxL y)), (6, .int (iI i)), (0, .ref (a 1200)), (1, .long x0), (3, .int (iI k))] O dX5_simulate_55 (by decide) rfl ?_
            refine z_aload_n 2 O dX5_simulate_57 rfl ?_
            refine z_lload 0 O dX5_simulate_58 rfl ?_
            refine z_bipush 33 O dX5_simulate_60 (by decide +kernel) ?_
            refine z_lushr (v := iL (drL (nxL y))) O dX5_simulate_62 drL_e ?_
            refine z_l2i O dX5_simulate_63 ?_
            have hb0 := y2'.ph
            have hb6 := y3'.ph
            have hbs : zPs r' ≤ 12528 := by unfold zPs; omega
            refine z_Vvm [.int (iI (drL (nxL y)))] [] kM_X5_270 O dX5_simulate_64 (c_X5_simulateStep hst y0' y3' hKG (by omega) hdr) rfl rfl y0'.1 (by decide) (Nat.le_of_ble_eq_true rfl) (by omega) (by omega) (Nat.le_of_ble_eq_true rfl) zNx (fun H21 hp22 hz23 => ?_)
            obtain ⟨r24, hf25, hg26, fC27⟩ := hp22
            have y0'28 := y0'.fr hf25 (by first | exact (fun h => h) | exact zT1 (by omega) | (show ¬ (_ ∨ _); omega) | (show ¬ (_ ∧ _); omega))
            have y1'29 := y1'.fr hf25 (by first | exact (fun h => h) | exact zT1 (by omega) | (show ¬ (_ ∨ _); omega) | (show ¬ (_ ∧ _); omega)) (by first | exact (fun h => h) | exact zT1 (by omega) | (show ¬ (_ ∨ _); omega) | (show ¬ (_ ∧ _); omega))
            have y2'30 := y2'.fr hf25 (fun s h1 h2 => by first | exact (fun h => h) | exact zT1 (by omega) | (show ¬ (_ ∨ _); omega) | (show ¬ (_ ∧ _); omega) | (show ¬ (_ < _); omega))
            have y4'31 := y4'.fr hf25 (fun s h1 => by first | exact (fun h => h) | exact zT1 (by omega) | (show ¬ (_ ∨ _); omega) | (show ¬ (_ ∧ _); omega) | (show ¬ (_ < _); omega))
            have y5'32 := y5'.fr hf25 (by first | exact (fun h => h) | exact zT1 (by omega) | (show ¬ (_ ∨ _); omega) | (show ¬ (_ ∧ _); omega))
            have y6'33 := y6'.fr hf25 (fun s h1 h2 => by first | exact (fun h => h) | exact zT1 (by omega) | (show ¬ (_ ∨ _); omega) | (show ¬ (_ ∧ _); omega) | (show ¬ (_ < _); omega))
            have y7'34 := y7'.fr hf25 (by first | exact (fun h => h) | exact zT1 (by omega) | (show ¬ (_ ∨ _); omega) | (show ¬ (_ ∧ _); omega))
            have fcap35 := (hf25.2.2.2 1203 (by first | exact (fun h => h) | exact zT1 (by omega) | (show ¬ (_ ∨ _); omega) | (show ¬ (_ ∧ _); omega))).trans fcap'
            have hg1 := hg26.1
            have hg2 := hg26.2
            have hq0 := zPh_fr (t := 0) hf25 (fun s p q => by show ¬ (_ ∧ _); omega)
            refine z_iinc 1 [(6, .int (iI (i + 1))), (4, .long (nxL y)), (0, .ref (a 1200)), (1, .long x0), (3, .int (iI k))] O dX5_simulate_67 (by decide) rfl rfl ?_
            refine z_goto 39 O dX5_simulate_70 (by decide) ?_
            have hs3 : H21.size + zPs r ≤ H.size + zPs r24 + 14 := by unfold zPs at *; omega
            have hs4 : zSz H21 + 20 * zPs r ≤ zSz H + 20 * zPs r24 + 6296 := by unfold zPs at *; omega
            refine z_tight (a' := 14 + (zPs r24 - zPs r)) (b' := 6296 + 20 * (zPs r24 - zPs r)) (by rw [hH]; omega) (by rw [hH]; omega) ?_
            have hI2 := sSt_I hKG (by omega) (v := drL (nxL y)) hdr.1
            rw [show N + i + 1 = N + (i + 1) by omega] at hI2
            have hR2 : sSm nxL drL d (nxL y) (sSt K (drL (nxL y))) = sSm nxL drL k.toNat x0 G := by rw [← hRR, sSm_s]
            exact ih (i + 1) (nxL y) (sSt K (drL (nxL y))) H21 r24 (by omega) (by omega) hI2 hR2 hs3 hs4 fcap35 (((hf'.up (fun s h => by first | exact h.elim | (show _ < _; omega) | omega | (simp at h ⊢; omega)))).tr (hf25.up (fun s h => by first | exact h.elim | (show _ < _; omega) | omega | (simp at h ⊢; omega)))) y0'28 y1'29 y2'30 fC27 y4'31 y5'32 y6'33 y7'34
      have hs3 : H2.size + zPs r ≤ H.size + zPs r5 + 14 := by unfold zPs; omega
      have hs4 : zSz H2 + 20 * zPs r ≤ zSz H + 20 * zPs r5 + 6296 := by unfold zPs; omega
      refine z_tight (a' := 14 + (zPs r5 - zPs r)) (b' := 6296 + 20 * (zPs r5 - zPs r)) (by rw [hH]; omega) (by rw [hH]; omega) ?_
      exact loop39 k.toNat 0 x0 G H2 r5 (by omega) (by omega) (by rw [Int.add_zero]; exact hG) rfl hs3 hs4 fcap16 (hf6.up (fun s h => by first | exact h.elim | (show _ < _; omega) | omega | (simp at h ⊢; omega))) fO9 fT10 fS11 fC7 fH12 fQ13 fL14 fZ15
    · skip
      exact z_throwXW kT_43_264_47 O dX5_simulate_11 dX5_simulate_14 dX5_simulate_15 dX5_simulate_18 dX5_simulate_21 (by decide) (Nat.le_of_ble_eq_true rfl) (by omega) (by omega) (fun H1 hs1 hz1 hz2 => by rw [hH] at hz1 hz2; rw [hpx]; exact ⟨Or.inl ⟨(by unfold cSi; (repeat first | rw [if_pos (by omega)] | rw [if_neg (by omega)])), rfl⟩, hs1, hz1, hz2⟩)

