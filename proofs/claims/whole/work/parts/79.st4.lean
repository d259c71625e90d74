/-! the class: ends of works, going back (written by program: wip/whole/gen/class7.py) -/
theorem c_X2_endAll {E : zE} (hst : E.1.stackTraces = false) {H : Heap} {r : zH} {a : Nat → Nat} {t : Nat} {w : Int} {G : Int → Int} (h : zSt E H r a t G) (hI : sWi G w) : zC E yX2_endAll cX2_endAll 3 none 1 22 [.ref (a t), .ref (a (t + 6 + 16 * w.toNat))] H 0 0 (zRv (fun H1 => zFr H r H1 r (fun s => t ≤ s ∧ s < t + 64) ∧ zSt E H1 r a t (sEnd G w))) zN := by
  refine zC.of (by decide) (Nat.le_of_ble_eq_true rfl) hst ?_
  intro x O hE hpo hpx
  subst hE
  change zG x H 0 0 0 [(0, .ref (a t)), (1, .ref (a (t + 6 + 16 * w.toNat)))] []
  obtain ⟨sO, sQ, sV, sL, sWs⟩ := id h
  obtain ⟨hWk, hOt⟩ := zSt_w sWs hI.1
  obtain ⟨np, f1, f2, V, hO, hQ, hLg, hRg, hPL, hPR, hWs, hRl⟩ := id hWk
  have hm := hI.2.1
  have hl := hI.2.2.1
  have hr2 := hI.2.2.2.1
  have hw := hI.1
  have hN4 : ∀ i : Int, 0 ≤ i → i < G (at_ w 0) → 0 ≤ G (wA w i 2) ∧ G (wA w i 2) ≤ 4 := fun i p q => (hI.2.2.2.2.2.2.2.2.1 i p q).1
  refine z_aload_n 1 O dX2_endAll_0 rfl ?_
  refine z_getf kF_X2_72 O dX2_endAll_1 hO.1 rfl ?_
  refine z_iconst 0 O dX2_endAll_4 (by decide +kernel) ?_
  obtain ⟨it1, hRo2⟩ := hLg.o
  refine z_Vvm [.int (iI 0)] [] kM_X2_181 O dX2_endAll_5 (c_X1_cutTo hst hLg ⟨by omega, by omega⟩) rfl rfl hRo2.1 (by decide) (Nat.le_of_ble_eq_true rfl) (by omega) (by omega) (Nat.le_of_ble_eq_true rfl) zNx (fun H3 hp4 hz5 => ?_)
  obtain ⟨hf6, hr7⟩ := hp4
  have hR8 : zRow (zEn x) H3 r (t + 6 + 16 * w.toNat + 2) (a (t + 6 + 16 * w.toNat + 2)) 1024 0 (fun k => G (at_ w (70 + k))) := by rw [show zRc (G (at_ w 1)) 0 = 0 from (by unfold zRc; split <;> omega)] at hr7; exact hr7
  have sO9 := sO.fr hf6 (by first | exact (fun h => h) | exact zT1 (by omega) | (show ¬ (_ ∨ _); omega) | (show ¬ (_ ∧ _); omega))
  have sQ10 := sQ.fr hf6 (by first | exact (fun h => h) | exact zT1 (by omega) | (show ¬ (_ ∨ _); omega) | (show ¬ (_ ∧ _); omega))
  have sV11 := sV.fr hf6 (by first | exact (fun h => h) | exact zT1 (by omega) | (show ¬ (_ ∨ _); omega) | (show ¬ (_ ∧ _); omega)) (by first | exact (fun h => h) | exact zT1 (by omega) | (show ¬ (_ ∨ _); omega) | (show ¬ (_ ∧ _); omega))
  have sL12 := sL.fr hf6 (by first | exact (fun h => h) | exact zT1 (by omega) | (show ¬ (_ ∨ _); omega) | (show ¬ (_ ∧ _); omega)) (by first | exact (fun h => h) | exact zT1 (by omega) | (show ¬ (_ ∨ _); omega) | (show ¬ (_ ∧ _); omega))
  have hO13 := hO.fr hf6 (by first | exact (fun h => h) | exact zT1 (by omega) | (show ¬ (_ ∨ _); omega) | (show ¬ (_ ∧ _); omega))
  have hQ14 := hQ.fr hf6 (by first | exact (fun h => h) | exact zT1 (by omega) | (show ¬ (_ ∨ _); omega) | (show ¬ (_ ∧ _); omega))
  have hRg15 := hRg.fr hf6 (by first | exact (fun h => h) | exact zT1 (by omega) | (show ¬ (_ ∨ _); omega) | (show ¬ (_ ∧ _); omega)) (by first | exact (fun h => h) | exact zT1 (by omega) | (show ¬ (_ ∨ _); omega) | (show ¬ (_ ∧ _); omega))
  have hPL16 := hPL.fr hf6 (by first | exact (fun h => h) | exact zT1 (by omega) | (show ¬ (_ ∨ _); omega) | (show ¬ (_ ∧ _); omega)) (by first | exact (fun h => h) | exact zT1 (by omega) | (show ¬ (_ ∨ _); omega) | (show ¬ (_ ∧ _); omega))
  have hPR17 := hPR.fr hf6 (by first | exact (fun h => h) | exact zT1 (by omega) | (show ¬ (_ ∨ _); omega) | (show ¬ (_ ∧ _); omega)) (by first | exact (fun h => h) | exact zT1 (by omega) | (show ¬ (_ ∨ _); omega) | (show ¬ (_ ∧ _); omega))
  have hWs18 := hWs.fr hf6 (fun s h1 h2 => by first | exact (fun h => h) | exact zT1 (by omega) | (show ¬ (_ ∨ _); omega) | (show ¬ (_ ∧ _); omega))
  have hOt19 := hOt.fr hf6 (fun s h1 h2 h3 => by first | exact (fun h => h) | exact zT1 (by omega) | (show ¬ (_ ∨ _); omega) | (show ¬ (_ ∧ _); omega)) hw.1
  refine z_aload_n 1 O dX2_endAll_8 rfl ?_
  refine z_getf kF_X2_159 O dX2_endAll_9 hO13.1 rfl ?_
  refine z_iconst 0 O dX2_endAll_12 (by decide +kernel) ?_
  obtain ⟨it20, hRo21⟩ := hRg15.o
  refine z_Vvm [.int (iI 0)] [] kM_X2_181 O dX2_endAll_13 (c_X1_cutTo hst hRg15 ⟨by omega, by omega⟩) rfl rfl hRo21.1 (by decide) (Nat.le_of_ble_eq_true rfl) (by omega) (by omega) (Nat.le_of_ble_eq_true rfl) zNx (fun H22 hp23 hz24 => ?_)
  obtain ⟨hf25, hr26⟩ := hp23
  have hR27 : zRow (zEn x) H22 r (t + 6 + 16 * w.toNat + 4) (a (t + 6 + 16 * w.toNat + 4)) 1024 0 (fun k => G (at_ w (710 + k))) := by rw [show zRc (G (at_ w 2)) 0 = 0 from (by unfold zRc; split <;> omega)] at hr26; exact hr26
  have sO28 := sO9.fr hf25 (by first | exact (fun h => h) | exact zT1 (by omega) | (show ¬ (_ ∨ _); omega) | (show ¬ (_ ∧ _); omega))
  have sQ29 := sQ10.fr hf25 (by first | exact (fun h => h) | exact zT1 (by omega) | (show ¬ (_ ∨ _); omega) | (show ¬ (_ ∧ _); omega))
  have sV30 := sV11.fr hf25 (by first | exact (fun h => h) | exact zT1 (by omega) | (show ¬ (_ ∨ _); omega) | (show ¬ (_ ∧ _); omega)) (by first | exact (fun h => h) | exact zT1 (by omega) | (show ¬ (_ ∨ _); omega) | (show ¬ (_ ∧ _); omega))
  have sL31 := sL12.fr hf25 (by first | exact (fun h => h) | exact zT1 (by omega) | (show ¬ (_ ∨ _); omega) | (show ¬ (_ ∧ _); omega)) (by first | exact (fun h => h) | exact zT1 (by omega) | (show ¬ (_ ∨ _); omega) | (show ¬ (_ ∧ _); omega))
  have hO32 := hO13.fr hf25 (by first | exact (fun h => h) | exact zT1 (by omega) | (show ¬ (_ ∨ _); omega) | (show ¬ (_ ∧ _); omega))
  have hQ33 := hQ14.fr hf25 (by first | exact (fun h => h) | exact zT1 (by omega) | (show ¬ (_ ∨ _); omega) | (show ¬ (_ ∧ _); omega))
  have hR34 := hR8.fr hf25 (by first | exact (fun h => h) | exact zT1 (by omega) | (show ¬ (_ ∨ _); omega) | (show ¬ (_ ∧ _); omega)) (by first | exact (fun h => h) | exact zT1 (by omega) | (show ¬ (_ ∨ _); omega) | (show ¬ (_ ∧ _); omega))
  have hPL35 := hPL16.fr hf25 (by first | exact (fun h => h) | exact zT1 (by omega) | (show ¬ (_ ∨ _); omega) | (show ¬ (_ ∧ _); omega)) (by first | exact (fun h => h) | exact zT1 (by omega) | (show ¬ (_ ∨ _); omega) | (show ¬ (_ ∧ _); omega))
  have hPR36 := hPR17.fr hf25 (by first | exact (fun h => h) | exact zT1 (by omega) | (show ¬ (_ ∨ _); omega) | (show ¬ (_ ∧ _); omega)) (by first | exact (fun h => h) | exact zT1 (by omega) | (show ¬ (_ ∨ _); omega) | (show ¬ (_ ∧ _); omega))
  have hWs37 := hWs18.fr hf25 (fun s h1 h2 => by first | exact (fun h => h) | exact zT1 (by omega) | (show ¬ (_ ∨ _); omega) | (show ¬ (_ ∧ _); omega))
  have hOt38 := hOt19.fr hf25 (fun s h1 h2 h3 => by first | exact (fun h => h) | exact zT1 (by omega) | (show ¬ (_ ∨ _); omega) | (show ¬ (_ ∧ _); omega)) hw.1
  refine z_iconst 0 O dX2_endAll_16 (by decide +kernel) ?_
  refine z_istore_n [(2, .int (iI 0)), (0, .ref (a t)), (1, .ref (a (t + 6 + 16 * w.toNat)))] O dX2_endAll_17 (by decide) rfl ?_
  have loop : ∀ (d : Nat) (i : Int) (H' : Heap), (0 ≤ i) → (i + (d : Int) = 16) → (zFr H r H' r (fun s => t ≤ s ∧ s < t + 64)) → (zO (zEn x) H' r t (a t) 2 [.ref (a (t + 2)), .ref (a (t + 4)), .ref (a (t + 1)), .int (iI (G 32)), .int (iI (G 33)), .int (iI (G 34)), .int (iI (G 35))]) → (zQr (zEn x) H' r (t + 1) (a (t + 1)) 3 3 (fun i => some (a (t + 6 + 16 * i.toNat)))) → (zRow (zEn x) H' r (t + 2) (a (t + 2)) 16 16 G) → (zRow (zEn x) H' r (t + 4) (a (t + 4)) 16 16 (fun c => zLk G w i (16 + c) - 1)) → (zO (zEn x) H' r (t + 6 + 16 * w.toNat) (a (t + 6 + 16 * w.toNat)) 4 [.int (iI w), .ref (a (t + 6 + 16 * w.toNat + 1)), .ref (a (t + 6 + 16 * w.toNat + 2)), .ref (a (t + 6 + 16 * w.toNat + 4)), .ref (a (t + 6 + 16 * w.toNat + 6)), .ref (a (t + 6 + 16 * w.toNat + 8)), .int (iI (G (at_ w 0))), .int (iI (G (at_ w 3))), .int (iI (G (at_ w 4)))]) → (zQr (zEn x) H' r (t + 6 + 16 * w.toNat + 1) (a (t + 6 + 16 * w.toNat + 1)) 4 5 (fun i => some (a (t + 6 + 16 * w.toNat + 10 + i.toNat)))) → (zRow (zEn x) H' r (t + 6 + 16 * w.toNat + 2) (a (t + 6 + 16 * w.toNat + 2)) 1024 0 (fun k => G (at_ w (70 + k)))) → (zRow (zEn x) H' r (t + 6 + 16 * w.toNat + 4) (a (t + 6 + 16 * w.toNat + 4)) 1024 0 (fun k => G (at_ w (710 + k)))) → (zRow (zEn x) H' r (t + 6 + 16 * w.toNat + 6) (a (t + 6 + 16 * w.toNat + 6)) 20 np f1) → (zRow (zEn x) H' r (t + 6 + 16 * w.toNat + 8) (a (t + 6 + 16 * w.toNat + 8)) 20 np f2) → (zWs (zEn x) H' r a (t + 6 + 16 * w.toNat + 10) V) → (zOth (zEn x) H' r a t w G) → zG x H' 0 0 18 [(2, .int (iI i)), (0, .ref (a t)), (1, .ref (a (t + 6 + 16 * w.toNat)))] [] := by
    intro d
    induction d with
    | zero =>
      intro i H' hi0 hid hf' y0' y1' y2' y3' y4' y5' y6' y7' y8' y9' y10' y11'
      refine z_iload_n 0 O dX2_endAll_18 rfl ?_
      refine z_bipush 16 O dX2_endAll_19 (by decide +kernel) ?_
      refine z_icmp_ge 54 O dX2_endAll_21 (by decide) ⟨by omega, by omega⟩ ⟨by omega, by omega⟩ (fun c_21 => ?_) (fun c_21 => ?_)
      · skip
        exact z_iretv O dX2_endAll_54 rfl (by omega) (by omega) hpo (⟨(hf'.up (fun s h => by first | exact h.elim | omega | (simp at h ⊢; omega))), (zSt.mk (w := w) y0' y1' y2' y3' (zWkr.mk y4' y5' y6' y7' y8' y9' y10' (by have q := at_e w 0; have q1 := at_e w 1; have q2 := at_e w 2; exact sEnd_n (by omega) (by omega) (by omega)) (by have q := at_e w 3; have q1 := at_e w 1; have q2 := at_e w 2; exact sEnd_n (by omega) (by omega) (by omega)) (by have q := at_e w 4; have q1 := at_e w 1; have q2 := at_e w 2; exact sEnd_n (by omega) (by omega) (by omega)) (sEnd_1 hw.1) (sEnd_2 hw.1) (fun k k0 k1 => by omega) (fun k k0 k1 => by omega) (hRl.to hN4 (by have q := at_e w 0; have q1 := at_e w 1; have q2 := at_e w 2; exact sEnd_n (by omega) (by omega) (by omega)) (fun i k i0 i1 k0 k1 => by have q := wA_e w i k; have q1 := at_e w 1; have q2 := at_e w 2; exact sEnd_n (by omega) (by omega) (by omega)))) (y11'.too hI.2.2.2.2.2.2.2.2.2.1 (fun j j0 j1 => by have q := at_e w 0; have q2 := at_e w 1350; have p1 := at_e w 1; have p2 := at_e w 2; exact sEnd_n (by omega) (by omega) (by omega))) hw (by have q1 := at_e w 1; have q2 := at_e w 2; exact sEnd_n (by omega) (by omega) (by omega)) (by have q1 := at_e w 1; have q2 := at_e w 2; exact sEnd_n (by omega) (by omega) (by omega)) (by have q1 := at_e w 1; have q2 := at_e w 2; exact sEnd_n (by omega) (by omega) (by omega)) (by have q1 := at_e w 1; have q2 := at_e w 2; exact sEnd_n (by omega) (by omega) (by omega)) (fun j j0 j1 => (by have q1 := at_e w 1; have q2 := at_e w 2; exact (sEnd_n (by omega) (by omega) (by omega)).symm)) (fun j j0 j1 => by have q1 := at_e w 1; have q2 := at_e w 2; show zLk G w i (16 + j) - 1 = zLk (zU (zU G (at_ w 1) 0) (at_ w 2) 0) w 16 (16 + j) - 1; unfold zLk; rw [zU_n (by omega), zU_n (by omega), show i = 16 by omega]))⟩)
      · exfalso; omega
    | succ d ih =>
      intro i H' hi0 hid hf' y0' y1' y2' y3' y4' y5' y6' y7' y8' y9' y10' y11'
      refine z_iload_n 0 O dX2_endAll_18 rfl ?_
      refine z_bipush 16 O dX2_endAll_19 (by decide +kernel) ?_
      refine z_icmp_ge 54 O dX2_endAll_21 (by decide) ⟨by omega, by omega⟩ ⟨by omega, by omega⟩ (fun c_21 => ?_) (fun c_21 => ?_)
      · exfalso; omega
      · skip
        refine z_aload_n 1 O dX2_endAll_24 rfl ?_
        refine z_getf kF_X2_20 O dX2_endAll_25 y0'.1 rfl ?_
        refine z_iload_n 0 O dX2_endAll_28 rfl ?_
        obtain ⟨it39, hRo40⟩ := y3'.o
        refine z_Vi [.int (iI i)] [] kM_X2_65 O dX2_endAll_29 (c_X1_get hst y3' ⟨by omega, by omega⟩) rfl rfl hRo40.1 (by decide) (Nat.le_of_ble_eq_true rfl) (by omega) (by omega) (Nat.le_of_ble_eq_true rfl) zNx ?_
        rw [show zRg 16 (fun c => zLk G w i (16 + c) - 1) i = zLk G w i (16 + i) - 1 from (by unfold zRg; exact if_pos ⟨by omega, by omega⟩)]
        have hkk := zLk_R (g := G) (w := w) (k := i) hI.2.2.2.2.2.2.2.1 (c := i) (by omega) (by omega) rfl
        refine z_aload_n 2 O dX2_endAll_32 rfl ?_
        refine z_getf kF_X2_78 O dX2_endAll_33 y4'.1 rfl ?_
        refine z_icmp_ne 48 O dX2_endAll_36 (by decide) ⟨by omega, by omega⟩ ⟨by omega, by omega⟩ (fun c_36 => ?_) (fun c_36 => ?_)
        · skip
          refine z_iinc 0 [(2, .int (iI (i + 1))), (0, .ref (a t)), (1, .ref (a (t + 6 + 16 * w.toNat)))] O dX2_endAll_48 (by decide) rfl rfl ?_
          refine z_goto 18 O dX2_endAll_51 (by decide) ?_
          have hL9 : zRow (zEn x) H' r (t + 4) (a (t + 4)) 16 16 (fun c => zLk G w (i + 1) (16 + c) - 1) := y3'.to (fun c c0 c1 => by rw [← zLk_2 (g := G) (w := w) hi0 (by omega)]; unfold zU; by_cases z : 16 + c = 16 + i; (· rw [if_pos z, z]); (· rw [if_neg z]))
          exact ih (i + 1) H' (by omega) (by omega) (hf'.up (fun s h => by first | exact h.elim | omega | (simp at h ⊢; omega))) y0' y1' y2' hL9 y4' y5' y6' y7' y8' y9' y10' y11'
        · skip
          refine z_aload_n 1 O dX2_endAll_39 rfl ?_
          refine z_getf kF_X2_20 O dX2_endAll_40 y0'.1 rfl ?_
          refine z_iload_n 0 O dX2_endAll_43 rfl ?_
          refine z_iconst (-1) O dX2_endAll_44 (by decide +kernel) ?_
          obtain ⟨it41, hRo42⟩ := y3'.o
          refine z_Vvm [.int (iI i), .int (iI (-1))] [] kM_X2_39 O dX2_endAll_45 (c_X1_set hst y3' ⟨by omega, by omega⟩) rfl rfl hRo42.1 (by decide) (Nat.le_of_ble_eq_true rfl) (by omega) (by omega) (Nat.le_of_ble_eq_true rfl) zNx (fun H43 hp44 hz45 => ?_)
          obtain ⟨hf46, hr47⟩ := hp44
          have hR48 : zRow (zEn x) H43 r (t + 4) (a (t + 4)) 16 16 (zU (fun c => zLk G w i (16 + c) - 1) i (-1)) := by rw [show zRs 16 (fun c => zLk G w i (16 + c) - 1) i (-1) = zU (fun c => zLk G w i (16 + c) - 1) i (-1) from (by unfold zRs; exact if_pos ⟨by omega, by omega⟩)] at hr47; exact hr47
          have y0'49 := y0'.fr hf46 (by first | exact (fun h => h) | exact zT1 (by omega) | (show ¬ (_ ∨ _); omega) | (show ¬ (_ ∧ _); omega))
          have y1'50 := y1'.fr hf46 (by first | exact (fun h => h) | exact zT1 (by omega) | (show ¬ (_ ∨ _); omega) | (show ¬ (_ ∧ _); omega))
          have y2'51 := y2'.fr hf46 (by first | exact (fun h => h) | exact zT1 (by omega) | (show ¬ (_ ∨ _); omega) | (show ¬ (_ ∧ _); omega)) (by first | exact (fun h => h) | exact zT1 (by omega) | (show ¬ (_ ∨ _); omega) | (show ¬ (_ ∧ _); omega))
          have y4'52 := y4'.fr hf46 (by first | exact (fun h => h) | exact zT1 (by omega) | (show ¬ (_ ∨ _); omega) | (show ¬ (_ ∧ _); omega))
          have y5'53 := y5'.fr hf46 (by first | exact (fun h => h) | exact zT1 (by omega) | (show ¬ (_ ∨ _); omega) | (show ¬ (_ ∧ _); omega))
          have y6'54 := y6'.fr hf46 (by first | exact (fun h => h) | exact zT1 (by omega) | (show ¬ (_ ∨ _); omega) | (show ¬ (_ ∧ _); omega)) (by first | exact (fun h => h) | exact zT1 (by omega) | (show ¬ (_ ∨ _); omega) | (show ¬ (_ ∧ _); omega))
          have y7'55 := y7'.fr hf46 (by first | exact (fun h => h) | exact zT1 (by omega) | (show ¬ (_ ∨ _); omega) | (show ¬ (_ ∧ _); omega)) (by first | exact (fun h => h) | exact zT1 (by omega) | (show ¬ (_ ∨ _); omega) | (show ¬ (_ ∧ _); omega))
          have y8'56 := y8'.fr hf46 (by first | exact (fun h => h) | exact zT1 (by omega) | (show ¬ (_ ∨ _); omega) | (show ¬ (_ ∧ _); omega)) (by first | exact (fun h => h) | exact zT1 (by omega) | (show ¬ (_ ∨ _); omega) | (show ¬ (_ ∧ _); omega))
          have y9'57 := y9'.fr hf46 (by first | exact (fun h => h) | exact zT1 (by omega) | (show ¬ (_ ∨ _); omega) | (show ¬ (_ ∧ _); omega)) (by first | exact (fun h => h) | exact zT1 (by omega) | (show ¬ (_ ∨ _); omega) | (show ¬ (_ ∧ _); omega))
          have y10'58 := y10'.fr hf46 (fun s h1 h2 => by first | exact (fun h => h) | exact zT1 (by omega) | (show ¬ (_ ∨ _); omega) | (show ¬ (_ ∧ _); omega))
          have y11'59 := y11'.fr hf46 (fun s h1 h2 h3 => by first | exact (fun h => h) | exact zT1 (by omega) | (show ¬ (_ ∨ _); omega) | (show ¬ (_ ∧ _); omega)) hw.1
          refine z_iinc 0 [(2, .int (iI (i + 1))), (0, .ref (a t)), (1, .ref (a (t + 6 + 16 * w.toNat)))] O dX2_endAll_48 (by decide) rfl rfl ?_
          refine z_goto 18 O dX2_endAll_51 (by decide) ?_
          have hL9 : zRow (zEn x) H43 r (t + 4) (a (t + 4)) 16 16 (fun c => zLk G w (i + 1) (16 + c) - 1) := hR48.to (fun c c0 c1 => by rw [← zLk_1 (g := G) (w := w) hi0 (by omega)]; unfold zU; by_cases z : c = i; (· rw [if_pos z, if_pos (by omega)]; rfl); (· rw [if_neg z, if_neg (by omega)]))
          exact ih (i + 1) H43 (by omega) (by omega) (((hf'.up (fun s h => by first | exact h.elim | omega | (simp at h ⊢; omega)))).tr (hf46.up (fun s h => by first | exact h.elim | omega | (simp at h ⊢; omega)))) y0'49 y1'50 y2'51 hL9 y4'52 y5'53 y6'54 y7'55 y8'56 y9'57 y10'58 y11'59
  have hL0 : zRow (zEn x) H22 r (t + 4) (a (t + 4)) 16 16 (fun c => zLk G w 0 (16 + c) - 1) := by rw [zLk_0]; exact sL31
  exact loop 16 0 H22 (by omega) (by omega) (((hf6.up (fun s h => by first | exact h.elim | omega | (simp at h ⊢; omega)))).tr (hf25.up (fun s h => by first | exact h.elim | omega | (simp at h ⊢; omega)))) sO28 sQ29 sV30 hL0 hO32 hQ33 hR34 hR27 hPL35 hPR36 hWs37 hOt38

/-- an inner failure, seen by the work around it -/
def fsD (G : Int → Int) (w : Int) : Int → Int := if G (sIn G w 3) < G 32 then zU (zU G (sIn G w 3) (G (sIn G w 3) + 1)) 33 (G 33 + 1) else zU G (sIn G w 4) 1
theorem fsD_n {G : Int → Int} {w j : Int} (h : j ≠ wA w (G (at_ w 0) - 1) 3) (h1 : j ≠ wA w (G (at_ w 0) - 1) 4) (h2 : j ≠ 33) : fsD G w j = G j := by
  unfold fsD sIn
  split
  · rw [zU_n h2, zU_n h]
  · rw [zU_n h1]
theorem c_X2_forgiveOrSpoil {E : zE} (hst : E.1.stackTraces = false) {H : Heap} {r : zH} {a : Nat → Nat} {t : Nat} {w : Int} {G : Int → Int} (h : zSt E H r a t G) (hI : sWi G w) (hd : 0 < G (at_ w 0)) : zC E yX2_forgiveOrSpoil cX2_forgiveOrSpoil 2 (some .int) 0 0 [.ref (a t), .ref (a (t + 6 + 16 * w.toNat + 10 + (G (at_ w 0) - 1).toNat))] H 0 0 (zRi (if G (sIn G w 3) < G 32 then 1 else 2) (fun H1 => zFr H r H1 r (fun s => t ≤ s ∧ s < t + 64) ∧ zSt E H1 r a t (fsD G w))) zN := by
  refine zC.of (by decide) (Nat.le_of_ble_eq_true rfl) hst ?_
  intro x O hE hpo hpx
  subst hE
  change zG x H 0 0 0 [(0, .ref (a t)), (1, .ref (a (t + 6 + 16 * w.toNat + 10 + (G (at_ w 0) - 1).toNat)))] []
  obtain ⟨sO, sQ, sV, sL, sWs⟩ := id h
  obtain ⟨hWk, hOt⟩ := zSt_w sWs hI.1
  obtain ⟨np, f1, f2, V, hO, hQ, hLg, hRg, hPL, hPR, hWs, hRl⟩ := id hWk
  have hm := hI.2.1
  have hl := hI.2.2.1
  have hr2 := hI.2.2.2.1
  have hw := hI.1
  have hN4 : ∀ i : Int, 0 ≤ i → i < G (at_ w 0) → 0 ≤ G (wA w i 2) ∧ G (wA w i 2) ≤ 4 := fun i p q => (hI.2.2.2.2.2.2.2.2.1 i p q).1
  have hWo1 := hWs.at (e := (G (at_ w 0) - 1)) (by omega) (by omega)
  have ht := hRl.2.2.1 (G (at_ w 0) - 1) (by omega) (by omega)
  have e3 : V (G (at_ w 0) - 1) 3 = G (sIn G w 3) := ht.2.2.1
  have hk3 := hI.2.2.2.2.2.2.2.2.1 (G (at_ w 0) - 1) (by omega) (by omega)
  have hs3 : G (sIn G w 3) = G (wA w (G (at_ w 0) - 1) 3) := rfl
  have h32 := hI.2.2.2.2.2.2.2.2.2.2
  refine z_aload_n 1 O dX2_forgiveOrSpoil_0 rfl ?_
  refine z_getf kF_X2_206 O dX2_forgiveOrSpoil_1 hWo1.1 rfl ?_
  refine z_aload_n 0 O dX2_forgiveOrSpoil_4 rfl ?_
  refine z_getf kF_X2_29 O dX2_forgiveOrSpoil_5 sO.1 rfl ?_
  refine z_icmp_ge 33 O dX2_forgiveOrSpoil_8 (by decide) ⟨by omega, by omega⟩ ⟨by omega, by omega⟩ (fun c_8 => ?_) (fun c_8 => ?_)
  · skip
    refine z_aload_n 1 O dX2_forgiveOrSpoil_33 rfl ?_
    refine z_iconst 1 O dX2_forgiveOrSpoil_34 (by decide +kernel) ?_
    refine z_putf kP_X2_207 O (fun h => nomatch h) dX2_forgiveOrSpoil_35 hWo1.1 (by decide +kernel) rfl (Nat.le_of_ble_eq_true rfl) (fun H2 hO3 hC4 => ?_)
    have hf5 := hWo1.ch hC4
    have ho6 : zO (zEn x) H2 r (t + 6 + 16 * w.toNat + 10 + (G (at_ w 0) - 1).toNat) (a (t + 6 + 16 * w.toNat + 10 + (G (at_ w 0) - 1).toNat)) 3 [.int (iI (V (G (at_ w 0) - 1) 0)), .int (iI (V (G (at_ w 0) - 1) 1)), .int (iI (V (G (at_ w 0) - 1) 2)), .int (iI (V (G (at_ w 0) - 1) 3)), .int (iI 1)] := ⟨hO3, hWo1.2⟩
    have sO7 := sO.fr hf5 (by first | exact (fun h => h) | exact zT1 (by omega) | (show ¬ (_ ∨ _); omega) | (show ¬ (_ ∧ _); omega))
    have sQ8 := sQ.fr hf5 (by first | exact (fun h => h) | exact zT1 (by omega) | (show ¬ (_ ∨ _); omega) | (show ¬ (_ ∧ _); omega))
    have sV9 := sV.fr hf5 (by first | exact (fun h => h) | exact zT1 (by omega) | (show ¬ (_ ∨ _); omega) | (show ¬ (_ ∧ _); omega)) (by first | exact (fun h => h) | exact zT1 (by omega) | (show ¬ (_ ∨ _); omega) | (show ¬ (_ ∧ _); omega))
    have sL10 := sL.fr hf5 (by first | exact (fun h => h) | exact zT1 (by omega) | (show ¬ (_ ∨ _); omega) | (show ¬ (_ ∧ _); omega)) (by first | exact (fun h => h) | exact zT1 (by omega) | (show ¬ (_ ∨ _); omega) | (show ¬ (_ ∧ _); omega))
    have hO11 := hO.fr hf5 (by first | exact (fun h => h) | exact zT1 (by omega) | (show ¬ (_ ∨ _); omega) | (show ¬ (_ ∧ _); omega))
    have hQ12 := hQ.fr hf5 (by first | exact (fun h => h) | exact zT1 (by omega) | (show ¬ (_ ∨ _); omega) | (show ¬ (_ ∧ _); omega))
    have hLg13 := hLg.fr hf5 (by first | exact (fun h => h) | exact zT1 (by omega) | (show ¬ (_ ∨ _); omega) | (show ¬ (_ ∧ _); omega)) (by first | exact (fun h => h) | exact zT1 (by omega) | (show ¬ (_ ∨ _); omega) | (show ¬ (_ ∧ _); omega))
    have hRg14 := hRg.fr hf5 (by first | exact (fun h => h) | exact zT1 (by omega) | (show ¬ (_ ∨ _); omega) | (show ¬ (_ ∧ _); omega)) (by first | exact (fun h => h) | exact zT1 (by omega) | (show ¬ (_ ∨ _); omega) | (show ¬ (_ ∧ _); omega))
    have hPL15 := hPL.fr hf5 (by first | exact (fun h => h) | exact zT1 (by omega) | (show ¬ (_ ∨ _); omega) | (show ¬ (_ ∧ _); omega)) (by first | exact (fun h => h) | exact zT1 (by omega) | (show ¬ (_ ∨ _); omega) | (show ¬ (_ ∧ _); omega))
    have hPR16 := hPR.fr hf5 (by first | exact (fun h => h) | exact zT1 (by omega) | (show ¬ (_ ∨ _); omega) | (show ¬ (_ ∧ _); omega)) (by first | exact (fun h => h) | exact zT1 (by omega) | (show ¬ (_ ∨ _); omega) | (show ¬ (_ ∧ _); omega))
    have hOt17 := hOt.fr hf5 (fun s h1 h2 h3 => by first | exact (fun h => h) | exact zT1 (by omega) | (show ¬ (_ ∨ _); omega) | (show ¬ (_ ∧ _); omega)) hw.1
    refine z_iconst 2 O dX2_forgiveOrSpoil_38 (by decide +kernel) ?_
    exact z_ireti O dX2_forgiveOrSpoil_39 rfl (by omega) (by omega) hpo (by first | exact (if_pos (by omega)).symm | exact (if_neg (by omega)).symm) (⟨(hf5.up (fun s h => by first | exact h.elim | omega | (simp at h ⊢; omega))), (zSt.mk (w := w) sO7 sQ8 sV9 sL10 (zWkr.mk hO11 hQ12 hLg13 hRg14 hPL15 hPR16 (hWs.set (T := (fun s => s = t + 6 + 16 * w.toNat + 10 + (G (at_ w 0) - 1).toNat ∨ s < t + 6 + 16 * w.toNat + 10 ∨ t + 6 + 16 * w.toNat + 15 ≤ s)) (hf5.up (fun s h => by first | exact h.elim | omega | (simp at h ⊢; omega))) (by omega) (by omega) (fun s h1 h2 h3 => by (show ¬ (_ ∨ _); omega)) ho6) (by have q := at_e w 0; have q3 := wA_e w (G (at_ w 0) - 1) 3; have q4 := wA_e w (G (at_ w 0) - 1) 4; exact fsD_n (by omega) (by omega) (by omega)) (by have q := at_e w 3; have q3 := wA_e w (G (at_ w 0) - 1) 3; have q4 := wA_e w (G (at_ w 0) - 1) 4; exact fsD_n (by omega) (by omega) (by omega)) (by have q := at_e w 4; have q3 := wA_e w (G (at_ w 0) - 1) 3; have q4 := wA_e w (G (at_ w 0) - 1) 4; exact fsD_n (by omega) (by omega) (by omega)) (by have q := at_e w 1; have q3 := wA_e w (G (at_ w 0) - 1) 3; have q4 := wA_e w (G (at_ w 0) - 1) 4; exact fsD_n (by omega) (by omega) (by omega)) (by have q := at_e w 2; have q3 := wA_e w (G (at_ w 0) - 1) 3; have q4 := wA_e w (G (at_ w 0) - 1) 4; exact fsD_n (by omega) (by omega) (by omega)) (fun k k0 k1 => (by have q := at_e w (70 + k); have q3 := wA_e w (G (at_ w 0) - 1) 3; have q4 := wA_e w (G (at_ w 0) - 1) 4; exact (fsD_n (by omega) (by omega) (by omega)).symm)) (fun k k0 k1 => (by have q := at_e w (710 + k); have q3 := wA_e w (G (at_ w 0) - 1) 3; have q4 := wA_e w (G (at_ w 0) - 1) 4; exact (fsD_n (by omega) (by omega) (by omega)).symm)) (hRl.mild ⟨by omega, by omega⟩ hN4 (by have q := at_e w 0; have q3 := wA_e w (G (at_ w 0) - 1) 3; have q4 := wA_e w (G (at_ w 0) - 1) 4; exact fsD_n (by omega) (by omega) (by omega)) (by unfold fsD; rw [if_neg (by omega)]; have q : sIn G w 4 = 36 + 1350 * w + (5 + 13 * (G (at_ w 0) - 1) + 4) := rfl; have q3 := wA_e w (G (at_ w 0) - 1) 3; rw [zU_n (by omega)]; exact e3.symm) (by unfold fsD; rw [if_neg (by omega)]; exact zU_s) (fun i k i0 i1 k0 k1 z => by have q := wA_e w i k; have q3 := wA_e w (G (at_ w 0) - 1) 3; have q4 := wA_e w (G (at_ w 0) - 1) 4; exact fsD_n (by omega) (by omega) (by omega)))) (hOt17.too hI.2.2.2.2.2.2.2.2.2.1 (fun j j0 j1 => by have q := at_e w 0; have q2 := at_e w 1350; have q3 := wA_e w (G (at_ w 0) - 1) 3; have q4 := wA_e w (G (at_ w 0) - 1) 4; exact fsD_n (by omega) (by omega) (by omega))) hw (by have q3 := wA_e w (G (at_ w 0) - 1) 3; have q4 := wA_e w (G (at_ w 0) - 1) 4; exact fsD_n (by omega) (by omega) (by omega)) (by unfold fsD; rw [if_neg (by omega)]; have q : sIn G w 4 = 36 + 1350 * w + (5 + 13 * (G (at_ w 0) - 1) + 4) := rfl; exact zU_n (by omega)) (by have q3 := wA_e w (G (at_ w 0) - 1) 3; have q4 := wA_e w (G (at_ w 0) - 1) 4; exact fsD_n (by omega) (by omega) (by omega)) (by have q3 := wA_e w (G (at_ w 0) - 1) 3; have q4 := wA_e w (G (at_ w 0) - 1) 4; exact fsD_n (by omega) (by omega) (by omega)) (fun j j0 j1 => (by have q3 := wA_e w (G (at_ w 0) - 1) 3; have q4 := wA_e w (G (at_ w 0) - 1) 4; exact (fsD_n (by omega) (by omega) (by omega)).symm)) (fun j j0 j1 => (by have q3 := wA_e w (G (at_ w 0) - 1) 3; have q4 := wA_e w (G (at_ w 0) - 1) 4; rw [fsD_n (by omega) (by omega) (by omega)])))⟩)
  · skip
    refine z_aload_n 1 O dX2_forgiveOrSpoil_11 rfl ?_
    refine z_dup O dX2_forgiveOrSpoil_12 rfl ?_
    refine z_getf kF_X2_206 O dX2_forgiveOrSpoil_13 hWo1.1 rfl ?_
    refine z_iconst 1 O dX2_forgiveOrSpoil_16 (by decide +kernel) ?_
    refine z_iadd O dX2_forgiveOrSpoil_17 ?_
    refine z_putf kP_X2_206 O (fun h => nomatch h) dX2_forgiveOrSpoil_18 hWo1.1 rfl rfl (Nat.le_of_ble_eq_true rfl) (fun H18 hO19 hC20 => ?_)
    have hf21 := hWo1.ch hC20
    have ho22 : zO (zEn x) H18 r (t + 6 + 16 * w.toNat + 10 + (G (at_ w 0) - 1).toNat) (a (t + 6 + 16 * w.toNat + 10 + (G (at_ w 0) - 1).toNat)) 3 [.int (iI (V (G (at_ w 0) - 1) 0)), .int (iI (V (G (at_ w 0) - 1) 1)), .int (iI (V (G (at_ w 0) - 1) 2)), .int (iI ((V (G (at_ w 0) - 1) 3) + 1)), .int (iI (V (G (at_ w 0) - 1) 4))] := ⟨hO19, hWo1.2⟩
    have sO23 := sO.fr hf21 (by first | exact (fun h => h) | exact zT1 (by omega) | (show ¬ (_ ∨ _); omega) | (show ¬ (_ ∧ _); omega))
    have sQ24 := sQ.fr hf21 (by first | exact (fun h => h) | exact zT1 (by omega) | (show ¬ (_ ∨ _); omega) | (show ¬ (_ ∧ _); omega))
    have sV25 := sV.fr hf21 (by first | exact (fun h => h) | exact zT1 (by omega) | (show ¬ (_ ∨ _); omega) | (show ¬ (_ ∧ _); omega)) (by first | exact (fun h => h) | exact zT1 (by omega) | (show ¬ (_ ∨ _); omega) | (show ¬ (_ ∧ _); omega))
    have sL26 := sL.fr hf21 (by first | exact (fun h => h) | exact zT1 (by omega) | (show ¬ (_ ∨ _); omega) | (show ¬ (_ ∧ _); omega)) (by first | exact (fun h => h) | exact zT1 (by omega) | (show ¬ (_ ∨ _); omega) | (show ¬ (_ ∧ _); omega))
    have hO27 := hO.fr hf21 (by first | exact (fun h => h) | exact zT1 (by omega) | (show ¬ (_ ∨ _); omega) | (show ¬ (_ ∧ _); omega))
    have hQ28 := hQ.fr hf21 (by first | exact (fun h => h) | exact zT1 (by omega) | (show ¬ (_ ∨ _); omega) | (show ¬ (_ ∧ _); omega))
    have hLg29 := hLg.fr hf21 (by first | exact (fun h => h) | exact zT1 (by omega) | (show ¬ (_ ∨ _); omega) | (show ¬ (_ ∧ _); omega)) (by first | exact (fun h => h) | exact zT1 (by omega) | (show ¬ (_ ∨ _); omega) | (show ¬ (_ ∧ _); omega))
    have hRg30 := hRg.fr hf21 (by first | exact (fun h => h) | exact zT1 (by omega) | (show ¬ (_ ∨ _); omega) | (show ¬ (_ ∧ _); omega)) (by first | exact (fun h => h) | exact zT1 (by omega) | (show ¬ (_ ∨ _); omega) | (show ¬ (_ ∧ _); omega))
    have hPL31 := hPL.fr hf21 (by first | exact (fun h => h) | exact zT1 (by omega) | (show ¬ (_ ∨ _); omega) | (show ¬ (_ ∧ _); omega)) (by first | exact (fun h => h) | exact zT1 (by omega) | (show ¬ (_ ∨ _); omega) | (show ¬ (_ ∧ _); omega))
    have hPR32 := hPR.fr hf21 (by first | exact (fun h => h) | exact zT1 (by omega) | (show ¬ (_ ∨ _); omega) | (show ¬ (_ ∧ _); omega)) (by first | exact (fun h => h) | exact zT1 (by omega) | (show ¬ (_ ∨ _); omega) | (show ¬ (_ ∧ _); omega))
    have hOt33 := hOt.fr hf21 (fun s h1 h2 h3 => by first | exact (fun h => h) | exact zT1 (by omega) | (show ¬ (_ ∨ _); omega) | (show ¬ (_ ∧ _); omega)) hw.1
    refine z_aload_n 0 O dX2_forgiveOrSpoil_21 rfl ?_
    refine z_dup O dX2_forgiveOrSpoil_22 rfl ?_
    refine z_getf kF_X2_49 O dX2_forgiveOrSpoil_23 sO23.1 rfl ?_
    refine z_iconst 1 O dX2_forgiveOrSpoil_26 (by decide +kernel) ?_
    refine z_iadd O dX2_forgiveOrSpoil_27 ?_
    refine z_putf kP_X2_49 O (fun h => nomatch h) dX2_forgiveOrSpoil_28 sO23.1 rfl rfl (Nat.le_of_ble_eq_true rfl) (fun H34 hO35 hC36 => ?_)
    have hf37 := sO23.ch hC36
    have ho38 : zO (zEn x) H34 r t (a t) 2 [.ref (a (t + 2)), .ref (a (t + 4)), .ref (a (t + 1)), .int (iI (G 32)), .int (iI ((G 33) + 1)), .int (iI (G 34)), .int (iI (G 35))] := ⟨hO35, sO23.2⟩
    have sQ39 := sQ24.fr hf37 (by first | exact (fun h => h) | exact zT1 (by omega) | (show ¬ (_ ∨ _); omega) | (show ¬ (_ ∧ _); omega))
    have sV40 := sV25.fr hf37 (by first | exact (fun h => h) | exact zT1 (by omega) | (show ¬ (_ ∨ _); omega) | (show ¬ (_ ∧ _); omega)) (by first | exact (fun h => h) | exact zT1 (by omega) | (show ¬ (_ ∨ _); omega) | (show ¬ (_ ∧ _); omega))
    have sL41 := sL26.fr hf37 (by first | exact (fun h => h) | exact zT1 (by omega) | (show ¬ (_ ∨ _); omega) | (show ¬ (_ ∧ _); omega)) (by first | exact (fun h => h) | exact zT1 (by omega) | (show ¬ (_ ∨ _); omega) | (show ¬ (_ ∧ _); omega))
    have hO42 := hO27.fr hf37 (by first | exact (fun h => h) | exact zT1 (by omega) | (show ¬ (_ ∨ _); omega) | (show ¬ (_ ∧ _); omega))
    have hQ43 := hQ28.fr hf37 (by first | exact (fun h => h) | exact zT1 (by omega) | (show ¬ (_ ∨ _); omega) | (show ¬ (_ ∧ _); omega))
    have hLg44 := hLg29.fr hf37 (by first | exact (fun h => h) | exact zT1 (by omega) | (show ¬ (_ ∨ _); omega) | (show ¬ (_ ∧ _); omega)) (by first | exact (fun h => h) | exact zT1 (by omega) | (show ¬ (_ ∨ _); omega) | (show ¬ (_ ∧ _); omega))
    have hRg45 := hRg30.fr hf37 (by first | exact (fun h => h) | exact zT1 (by omega) | (show ¬ (_ ∨ _); omega) | (show ¬ (_ ∧ _); omega)) (by first | exact (fun h => h) | exact zT1 (by omega) | (show ¬ (_ ∨ _); omega) | (show ¬ (_ ∧ _); omega))
    have hPL46 := hPL31.fr hf37 (by first | exact (fun h => h) | exact zT1 (by omega) | (show ¬ (_ ∨ _); omega) | (show ¬ (_ ∧ _); omega)) (by first | exact (fun h => h) | exact zT1 (by omega) | (show ¬ (_ ∨ _); omega) | (show ¬ (_ ∧ _); omega))
    have hPR47 := hPR32.fr hf37 (by first | exact (fun h => h) | exact zT1 (by omega) | (show ¬ (_ ∨ _); omega) | (show ¬ (_ ∧ _); omega)) (by first | exact (fun h => h) | exact zT1 (by omega) | (show ¬ (_ ∨ _); omega) | (show ¬ (_ ∧ _); omega))
    have hOt48 := hOt33.fr hf37 (fun s h1 h2 h3 => by first | exact (fun h => h) | exact zT1 (by omega) | (show ¬ (_ ∨ _); omega) | (show ¬ (_ ∧ _); omega)) hw.1
    have ho49 := ho22.fr hf37 (by first | exact (fun h => h) | exact zT1 (by omega) | (show ¬ (_ ∨ _); omega) | (show ¬ (_ ∧ _); omega))
    refine z_iconst 1 O dX2_forgiveOrSpoil_31 (by decide +kernel) ?_
    exact z_ireti O dX2_forgiveOrSpoil_32 rfl (by omega) (by omega) hpo (by first | exact (if_pos (by omega)).symm | exact (if_neg (by omega)).symm) (⟨(((hf21.up (fun s h => by first | exact h.elim | omega | (simp at h ⊢; omega)))).tr (hf37.up (fun s h => by first | exact h.elim | omega | (simp at h ⊢; omega)))), (zSt.mk (w := w) ho38 sQ39 sV40 sL41 (zWkr.mk hO42 hQ43 hLg44 hRg45 hPL46 hPR47 (hWs.set (T := (fun s => s = t + 6 + 16 * w.toNat + 10 + (G (at_ w 0) - 1).toNat ∨ s < t + 6 + 16 * w.toNat + 10 ∨ t + 6 + 16 * w.toNat + 15 ≤ s)) ((hf21.up (fun s h => by first | exact h.elim | omega | (simp at h ⊢; omega))).tr (hf37.up (fun s h => by first | exact h.elim | omega | (simp at h ⊢; omega)))) (by omega) (by omega) (fun s h1 h2 h3 => by (show ¬ (_ ∨ _); omega)) ho49) (by have q := at_e w 0; have q3 := wA_e w (G (at_ w 0) - 1) 3; have q4 := wA_e w (G (at_ w 0) - 1) 4; exact fsD_n (by omega) (by omega) (by omega)) (by have q := at_e w 3; have q3 := wA_e w (G (at_ w 0) - 1) 3; have q4 := wA_e w (G (at_ w 0) - 1) 4; exact fsD_n (by omega) (by omega) (by omega)) (by have q := at_e w 4; have q3 := wA_e w (G (at_ w 0) - 1) 3; have q4 := wA_e w (G (at_ w 0) - 1) 4; exact fsD_n (by omega) (by omega) (by omega)) (by have q := at_e w 1; have q3 := wA_e w (G (at_ w 0) - 1) 3; have q4 := wA_e w (G (at_ w 0) - 1) 4; exact fsD_n (by omega) (by omega) (by omega)) (by have q := at_e w 2; have q3 := wA_e w (G (at_ w 0) - 1) 3; have q4 := wA_e w (G (at_ w 0) - 1) 4; exact fsD_n (by omega) (by omega) (by omega)) (fun k k0 k1 => (by have q := at_e w (70 + k); have q3 := wA_e w (G (at_ w 0) - 1) 3; have q4 := wA_e w (G (at_ w 0) - 1) 4; exact (fsD_n (by omega) (by omega) (by omega)).symm)) (fun k k0 k1 => (by have q := at_e w (710 + k); have q3 := wA_e w (G (at_ w 0) - 1) 3; have q4 := wA_e w (G (at_ w 0) - 1) 4; exact (fsD_n (by omega) (by omega) (by omega)).symm)) (hRl.mild ⟨by omega, by omega⟩ hN4 (by have q := at_e w 0; have q3 := wA_e w (G (at_ w 0) - 1) 3; have q4 := wA_e w (G (at_ w 0) - 1) 4; exact fsD_n (by omega) (by omega) (by omega)) (by unfold fsD; rw [if_pos (by omega)]; have q := wA_e w (G (at_ w 0) - 1) 3; rw [zU_n (by omega)]; exact zU_s.trans (by rw [e3])) (by unfold fsD; rw [if_pos (by omega)]; have q := wA_e w (G (at_ w 0) - 1) 4; have q3 : sIn G w 3 = 36 + 1350 * w + (5 + 13 * (G (at_ w 0) - 1) + 3) := rfl; rw [zU_n (by omega), zU_n (by omega)]; exact ht.2.2.2.1.symm) (fun i k i0 i1 k0 k1 z => by have q := wA_e w i k; have q3 := wA_e w (G (at_ w 0) - 1) 3; have q4 := wA_e w (G (at_ w 0) - 1) 4; exact fsD_n (by omega) (by omega) (by omega)))) (hOt48.too hI.2.2.2.2.2.2.2.2.2.1 (fun j j0 j1 => by have q := at_e w 0; have q2 := at_e w 1350; have q3 := wA_e w (G (at_ w 0) - 1) 3; have q4 := wA_e w (G (at_ w 0) - 1) 4; exact fsD_n (by omega) (by omega) (by omega))) hw (by have q3 := wA_e w (G (at_ w 0) - 1) 3; have q4 := wA_e w (G (at_ w 0) - 1) 4; exact fsD_n (by omega) (by omega) (by omega)) (by unfold fsD; rw [if_pos (by omega)]; exact zU_s) (by have q3 := wA_e w (G (at_ w 0) - 1) 3; have q4 := wA_e w (G (at_ w 0) - 1) 4; exact fsD_n (by omega) (by omega) (by omega)) (by have q3 := wA_e w (G (at_ w 0) - 1) 3; have q4 := wA_e w (G (at_ w 0) - 1) 4; exact fsD_n (by omega) (by omega) (by omega)) (fun j j0 j1 => (by have q3 := wA_e w (G (at_ w 0) - 1) 3; have q4 := wA_e w (G (at_ w 0) - 1) 4; exact (fsD_n (by omega) (by omega) (by omega)).symm)) (fun j j0 j1 => (by have q3 := wA_e w (G (at_ w 0) - 1) 3; have q4 := wA_e w (G (at_ w 0) - 1) 4; rw [fsD_n (by omega) (by omega) (by omega)])))⟩)

