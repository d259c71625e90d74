/-! the class: failing (written by program: wip/whole/gen/class9.py) -/
theorem c_X2_endBadly {E : zE} (hst : E.1.stackTraces = false) {H : Heap} {r : zH} {a : Nat → Nat} {t : Nat} {G : Int → Int} {N : Int} {w : Int} (h : zSt E H r a t G) (hG : sW G N) (hw : 0 ≤ w ∧ w ≤ 2) (hd : 0 < G (at_ w 0)) : zC E yX2_endBadly cX2_endBadly 4 (some .int) 4 117 [.ref (a t), .ref (a (t + 6 + 16 * w.toNat))] H 1024 20480 (zRi (sFailR G w) (zUp E H r a t (sFail G w))) zN := by
  refine zC.of2 (by decide) (Nat.le_of_ble_eq_true rfl) hst ?_
  intro x O hE hpo hpx hH
  subst hE
  change zG x H 0 0 0 [(0, .ref (a t)), (1, .ref (a (t + 6 + 16 * w.toNat)))] []
  obtain ⟨sO, sQ, sV, sL, sWs⟩ := id h
  obtain ⟨hWk, hOt⟩ := zSt_w sWs hw
  obtain ⟨np, f1, f2, V, hO, hQ, hLg, hRg, hPL, hPR, hWs, hRl⟩ := id hWk
  have hm := hG.m hw
  have hl := hG.l hw
  have hI := hG.i hw
  have hin := hG.in hw hd
  have hs6 := hG.2.2.2.2
  obtain ⟨hu, u1, u2⟩ := hI.un (n := (G (at_ w 1) - G (sIn G w 0)).toNat) (by omega)
  have a0 := at_e w 0
  have a1 := at_e w 1
  have a2 := at_e w 2
  have a3 := at_e w 3
  have a4 := at_e w 4
  have a70 := at_e w 70
  have a709 := at_e w 709
  have ap := at_e w 1350
  have x2 : (sUn (G (at_ w 1) - G (sIn G w 0)).toNat G w) (at_ w 2) = G (at_ w 2) := u1 _ (by omega) (by omega)
  have x1 : (sUn (G (at_ w 1) - G (sIn G w 0)).toNat G w) (at_ w 1) = G (sIn G w 0) := by rw [u2]; omega
  obtain ⟨hv, v2, v1, vj⟩ := hu.rn (o := (decide (G (at_ w 0) = 1))) (n := (G (at_ w 2) - G (sIn G w 1)).toNat) (by rw [x2]; omega) (fun _ => by rw [x1]; omega)
  have hV0 : V (G (at_ w 0) - 1) 0 = G (sIn G w 0) := (hRl.2.2.1 (G (at_ w 0) - 1) (by omega) (by omega)).1
  have hV1 : V (G (at_ w 0) - 1) 1 = G (sIn G w 1) := (hRl.2.2.1 (G (at_ w 0) - 1) (by omega) (by omega)).2.1
  have hj : ∀ j : Int, 16 ≤ j → j ≠ 35 → j ≠ at_ w 1 → j ≠ at_ w 2 → ¬ (at_ w 70 ≤ j ∧ j ≤ at_ w 709) → (sRn (G (at_ w 2) - G (sIn G w 1)).toNat (sUn (G (at_ w 1) - G (sIn G w 0)).toNat G w) w (decide (G (at_ w 0) = 1))) j = G j := fun j q0 q1 q2 q3 q4 => (vj j q0 q1 q2 q3 q4).trans (u1 j q0 q2)
  have hd1 : (sRn (G (at_ w 2) - G (sIn G w 1)).toNat (sUn (G (at_ w 1) - G (sIn G w 0)).toNat G w) w (decide (G (at_ w 0) = 1))) (at_ w 0) = G (at_ w 0) := hj _ (by omega) (by omega) (by omega) (by omega) (by omega)
  have hF : (sF1 G w) = zU (sRn (G (at_ w 2) - G (sIn G w 1)).toNat (sUn (G (at_ w 1) - G (sIn G w 0)).toNat G w) w (decide (G (at_ w 0) = 1))) (at_ w 0) ((sRn (G (at_ w 2) - G (sIn G w 1)).toNat (sUn (G (at_ w 1) - G (sIn G w 0)).toNat G w) w (decide (G (at_ w 0) = 1))) (at_ w 0) - 1) := by rw [sF1_c hI hd hin.1 hin.2.1 (by omega), hd1]
  have hF0 : (sF1 G w) (at_ w 0) = G (at_ w 0) - 1 := by rw [hF, zU_s, hd1]
  have hFj : ∀ j : Int, j ≠ at_ w 0 → (sF1 G w) j = (sRn (G (at_ w 2) - G (sIn G w 1)).toNat (sUn (G (at_ w 1) - G (sIn G w 0)).toNat G w) w (decide (G (at_ w 0) = 1))) j := fun j q => by rw [hF]; exact zU_n q
  have hIF : sWi (sF1 G w) w := by rw [hF]; exact hv.dec (by rw [hd1]; exact hd)
  refine z_aload_n 1 O dX2_endBadly_0 rfl ?_
  refine z_Vr [] [] kM_X2_162 O dX2_endBadly_1 (by have c := c_X4_innermost hst hWk; rw [if_pos hd] at c; exact c) rfl rfl hO.1 (by decide) (Nat.le_of_ble_eq_true rfl) (by omega) (by omega) (Nat.le_of_ble_eq_true rfl) zNx ?_
  refine z_astore_n [(2, .ref (a (t + 6 + 16 * w.toNat + 10 + (G (at_ w 0) - 1).toNat))), (0, .ref (a t)), (1, .ref (a (t + 6 + 16 * w.toNat)))] O dX2_endBadly_4 (by decide) rfl ?_
  refine z_aload_n 0 O dX2_endBadly_5 rfl ?_
  refine z_ifnonnull 11 O dX2_endBadly_6 (by decide) ?_
  refine z_aload_n 1 O dX2_endBadly_11 rfl ?_
  refine z_aload_n 2 O dX2_endBadly_12 rfl ?_
  refine z_aload_n 0 O dX2_endBadly_13 rfl ?_
  have hWo1 := hWs.at (e := (G (at_ w 0) - 1)) (by omega) (by omega)
  refine z_getf kF_X2_193 O dX2_endBadly_14 hWo1.1 rfl ?_
  rw [show V (G (at_ w 0) - 1) 0 = G (sIn G w 0) from hV0]
  refine z_Vvm [.ref (a (t + 6 + 16 * w.toNat)), .int (iI (G (sIn G w 0)))] [] kM_X2_174 O dX2_endBadly_17 (c_X2_rollBack hst h hI ⟨by omega, by omega⟩) rfl rfl sO.1 (by decide) (Nat.le_of_ble_eq_true rfl) (by omega) (by omega) (Nat.le_of_ble_eq_true rfl) zNx (fun H2 hp3 hz4 => ?_)
  obtain ⟨hf5, hR6, hR7⟩ := hp3
  have sO8 := sO.fr hf5 (by first | exact (fun h => h) | exact zT1 (by omega) | (show ¬ (_ ∨ _); omega) | (show ¬ (_ ∧ _); omega))
  have sQ9 := sQ.fr hf5 (by first | exact (fun h => h) | exact zT1 (by omega) | (show ¬ (_ ∨ _); omega) | (show ¬ (_ ∧ _); omega))
  have sL10 := sL.fr hf5 (by first | exact (fun h => h) | exact zT1 (by omega) | (show ¬ (_ ∨ _); omega) | (show ¬ (_ ∧ _); omega)) (by first | exact (fun h => h) | exact zT1 (by omega) | (show ¬ (_ ∨ _); omega) | (show ¬ (_ ∧ _); omega))
  have hO11 := hO.fr hf5 (by first | exact (fun h => h) | exact zT1 (by omega) | (show ¬ (_ ∨ _); omega) | (show ¬ (_ ∧ _); omega))
  have hQ12 := hQ.fr hf5 (by first | exact (fun h => h) | exact zT1 (by omega) | (show ¬ (_ ∨ _); omega) | (show ¬ (_ ∧ _); omega))
  have hRg13 := hRg.fr hf5 (by first | exact (fun h => h) | exact zT1 (by omega) | (show ¬ (_ ∨ _); omega) | (show ¬ (_ ∧ _); omega)) (by first | exact (fun h => h) | exact zT1 (by omega) | (show ¬ (_ ∨ _); omega) | (show ¬ (_ ∧ _); omega))
  have hPL14 := hPL.fr hf5 (by first | exact (fun h => h) | exact zT1 (by omega) | (show ¬ (_ ∨ _); omega) | (show ¬ (_ ∧ _); omega)) (by first | exact (fun h => h) | exact zT1 (by omega) | (show ¬ (_ ∨ _); omega) | (show ¬ (_ ∧ _); omega))
  have hPR15 := hPR.fr hf5 (by first | exact (fun h => h) | exact zT1 (by omega) | (show ¬ (_ ∨ _); omega) | (show ¬ (_ ∧ _); omega)) (by first | exact (fun h => h) | exact zT1 (by omega) | (show ¬ (_ ∨ _); omega) | (show ¬ (_ ∧ _); omega))
  have hWs16 := hWs.fr hf5 (fun s h1 h2 => by first | exact (fun h => h) | exact zT1 (by omega) | (show ¬ (_ ∨ _); omega) | (show ¬ (_ ∧ _); omega))
  have hOt17 := hOt.fr hf5 (fun s h1 h2 h3 => by first | exact (fun h => h) | exact zT1 (by omega) | (show ¬ (_ ∨ _); omega) | (show ¬ (_ ∧ _); omega)) hw.1
  refine z_meter (fun ha1 ha2 => ?_)
  rw [hH] at ha1 ha2
  refine z_aload_n 1 O dX2_endBadly_20 rfl ?_
  refine z_aload_n 2 O dX2_endBadly_21 rfl ?_
  refine z_aload_n 0 O dX2_endBadly_22 rfl ?_
  have hWo18 := hWs16.at (e := (G (at_ w 0) - 1)) (by omega) (by omega)
  refine z_getf kF_X2_196 O dX2_endBadly_23 hWo18.1 rfl ?_
  rw [show V (G (at_ w 0) - 1) 1 = G (sIn G w 1) from hV1]
  have sO9 : zO (zEn x) H2 r t (a t) 2 [.ref (a (t + 2)), .ref (a (t + 4)), .ref (a (t + 1)), .int (iI (G 32)), .int (iI (G 33)), .int (iI (G 34)), .int (iI ((sUn (G (at_ w 1) - G (sIn G w 0)).toNat G w) 35))] := by rw [u1 35 (by omega) (by omega)]; exact sO8
  have hL9 : zRow (zEn x) H2 r (t + 6 + 16 * w.toNat + 2) (a (t + 6 + 16 * w.toNat + 2)) 1024 ((sUn (G (at_ w 1) - G (sIn G w 0)).toNat G w) (at_ w 1)) (fun k => (sUn (G (at_ w 1) - G (sIn G w 0)).toNat G w) (at_ w (70 + k))) := by rw [x1]; exact hR7.to (fun k k0 k1 => by have q := at_e w (70 + k); exact (u1 _ (by omega) (by omega)).symm)
  have hR9 : zRow (zEn x) H2 r (t + 6 + 16 * w.toNat + 4) (a (t + 6 + 16 * w.toNat + 4)) 1024 ((sUn (G (at_ w 1) - G (sIn G w 0)).toNat G w) (at_ w 2)) (fun k => (sUn (G (at_ w 1) - G (sIn G w 0)).toNat G w) (at_ w (710 + k))) := by rw [x2]; exact hRg13.to (fun k k0 k1 => by have q := at_e w (710 + k); exact (u1 _ (by omega) (by omega)).symm)
  have hsr : sRI (sUn (G (at_ w 1) - G (sIn G w 0)).toNat G w) w (decide (G (at_ w 0) = 1)) (((sUn (G (at_ w 1) - G (sIn G w 0)).toNat G w) (at_ w 2) - G (sIn G w 1)).toNat : Int) := ⟨hw.1, ⟨hu.2.2.1.1, fun _ => by rw [x1, x2]; omega⟩, ⟨by rw [x2]; omega, hu.2.2.2.1.2⟩, hu.2.2.2.2.2.1, hu.2.2.2.2.1, hu.2.2.2.2.2.2.1⟩
  refine z_Vvm [.ref (a (t + 6 + 16 * w.toNat)), .int (iI (G (sIn G w 1)))] [] kM_X2_199 O dX2_endBadly_26 (by have c9 := c_X2_doRegrets hst sO9 hR6 hO11 hL9 hR9 hw ⟨by omega, by rw [x2]; omega⟩ hsr rfl ⟨by omega, by omega⟩; rw [x2] at c9; exact c9) rfl rfl sO8.1 (by decide) (Nat.le_of_ble_eq_true rfl) (by omega) (by omega) (Nat.le_of_ble_eq_true rfl) zNx (fun H19 hp20 hz21 => ?_)
  obtain ⟨r22, hf23, hg24, sO25, sV26, hLg27, hRg28⟩ := hp20
  have sQ29 := sQ9.fr hf23 (by first | exact (fun h => h) | exact zT1 (by omega) | (show ¬ (_ ∨ _); omega) | (show ¬ (_ ∧ _); omega))
  have sL30 := sL10.fr hf23 (by first | exact (fun h => h) | exact zT1 (by omega) | (show ¬ (_ ∨ _); omega) | (show ¬ (_ ∧ _); omega)) (by first | exact (fun h => h) | exact zT1 (by omega) | (show ¬ (_ ∨ _); omega) | (show ¬ (_ ∧ _); omega))
  have hO31 := hO11.fr hf23 (by first | exact (fun h => h) | exact zT1 (by omega) | (show ¬ (_ ∨ _); omega) | (show ¬ (_ ∧ _); omega))
  have hQ32 := hQ12.fr hf23 (by first | exact (fun h => h) | exact zT1 (by omega) | (show ¬ (_ ∨ _); omega) | (show ¬ (_ ∧ _); omega))
  have hPL33 := hPL14.fr hf23 (by first | exact (fun h => h) | exact zT1 (by omega) | (show ¬ (_ ∨ _); omega) | (show ¬ (_ ∧ _); omega)) (by first | exact (fun h => h) | exact zT1 (by omega) | (show ¬ (_ ∨ _); omega) | (show ¬ (_ ∧ _); omega))
  have hPR34 := hPR15.fr hf23 (by first | exact (fun h => h) | exact zT1 (by omega) | (show ¬ (_ ∨ _); omega) | (show ¬ (_ ∧ _); omega)) (by first | exact (fun h => h) | exact zT1 (by omega) | (show ¬ (_ ∨ _); omega) | (show ¬ (_ ∧ _); omega))
  have hWs35 := hWs16.fr hf23 (fun s h1 h2 => by first | exact (fun h => h) | exact zT1 (by omega) | (show ¬ (_ ∨ _); omega) | (show ¬ (_ ∧ _); omega))
  have hOt36 := hOt17.fr hf23 (fun s h1 h2 h3 => by first | exact (fun h => h) | exact zT1 (by omega) | (show ¬ (_ ∨ _); omega) | (show ¬ (_ ∧ _); omega)) hw.1
  have hg1 := hg24.1
  have hg2 := hg24.2
  have hg3 := hf23.1
  refine z_meter (fun hb1 hb2 => ?_)
  rw [hH] at hb1 hb2
  refine z_tight (a' := (min (zPh t r22 - zPh t r) 1024)) (b' := (min (20 * (zPh t r22 - zPh t r)) 20480)) (by rw [hH]; omega) (by rw [hH]; omega) ?_
  refine z_aload_n 2 O dX2_endBadly_29 rfl ?_
  have hWk9 : zWkr (zEn x) H19 r22 a (t + 6 + 16 * w.toNat) w (sRn (G (at_ w 2) - G (sIn G w 1)).toNat (sUn (G (at_ w 1) - G (sIn G w 0)).toNat G w) w (decide (G (at_ w 0) = 1))) := (zWkr.mk hO31 hQ32 hLg27 hRg28 hPL33 hPR34 hWs35 (hj _ (by omega) (by omega) (by omega) (by omega) (by omega)) (hj _ (by omega) (by omega) (by omega) (by omega) (by omega)) (hj _ (by omega) (by omega) (by omega) (by omega) (by omega)) rfl (by rw [v2, x2]; omega) (fun k k0 k1 => rfl) (fun k k0 k1 => by have q := at_e w (710 + k); exact (vj _ (by omega) (by omega) (by omega) (by omega) (by omega)).symm) (hRl.to (fun i p q => (hG.k hw p q).2.2.1) (hj _ (by omega) (by omega) (by omega) (by omega) (by omega)) (fun i k i0 i1 k0 k1 => by have q := wA_e w i k; exact hj _ (by omega) (by omega) (by omega) (by omega) (by omega))))
  refine z_Vvm [] [] kM_X2_187 O dX2_endBadly_30 (c_X4_leaveWork hst hWk9 hw.1 (by rw [hd1]; exact hd) (fun i p q => (hv.2.2.2.2.2.2.2.2.1 i p q).1)) rfl rfl hO31.1 (by decide) (Nat.le_of_ble_eq_true rfl) (by omega) (by omega) (Nat.le_of_ble_eq_true rfl) zNx (fun H37 hp38 hz39 => ?_)
  obtain ⟨hf40, hWk41⟩ := hp38
  rw [← hF] at hWk41
  have sO42 := sO25.fr hf40 (by first | exact (fun h => h) | exact zT1 (by omega) | (show ¬ (_ ∨ _); omega) | (show ¬ (_ ∧ _); omega))
  have sQ43 := sQ29.fr hf40 (by first | exact (fun h => h) | exact zT1 (by omega) | (show ¬ (_ ∨ _); omega) | (show ¬ (_ ∧ _); omega))
  have sV44 := sV26.fr hf40 (by first | exact (fun h => h) | exact zT1 (by omega) | (show ¬ (_ ∨ _); omega) | (show ¬ (_ ∧ _); omega)) (by first | exact (fun h => h) | exact zT1 (by omega) | (show ¬ (_ ∨ _); omega) | (show ¬ (_ ∧ _); omega))
  have sL45 := sL30.fr hf40 (by first | exact (fun h => h) | exact zT1 (by omega) | (show ¬ (_ ∨ _); omega) | (show ¬ (_ ∧ _); omega)) (by first | exact (fun h => h) | exact zT1 (by omega) | (show ¬ (_ ∨ _); omega) | (show ¬ (_ ∧ _); omega))
  have hOt46 := hOt36.fr hf40 (fun s h1 h2 h3 => by first | exact (fun h => h) | exact zT1 (by omega) | (show ¬ (_ ∨ _); omega) | (show ¬ (_ ∧ _); omega)) hw.1
  refine z_aload_n 2 O dX2_endBadly_33 rfl ?_
  by_cases hd47 : 0 < (sF1 G w) (at_ w 0)
  · skip
    obtain ⟨_, _, _, _, hO48, _⟩ := id hWk41
    refine z_Vr [] [] kM_X2_162 O dX2_endBadly_34 (by have c := c_X4_innermost hst hWk41; rw [if_pos hd47] at c; exact c) rfl rfl hO48.1 (by decide) (Nat.le_of_ble_eq_true rfl) (by omega) (by omega) (Nat.le_of_ble_eq_true rfl) zNx ?_
    refine z_astore_n [(3, .ref (a (t + 6 + 16 * w.toNat + 10 + ((sF1 G w) (at_ w 0) - 1).toNat))), (2, .ref (a (t + 6 + 16 * w.toNat + 10 + (G (at_ w 0) - 1).toNat))), (0, .ref (a t)), (1, .ref (a (t + 6 + 16 * w.toNat)))] O dX2_endBadly_37 (by decide) rfl ?_
    refine z_aload_n 0 O dX2_endBadly_38 rfl ?_
    refine z_ifnonnull 59 O dX2_endBadly_39 (by decide) ?_
    refine z_aload_n 2 O dX2_endBadly_59 rfl ?_
    refine z_aload_n 0 O dX2_endBadly_60 rfl ?_
    have hz49 : zSt (zEn x) H37 r22 a t (sF1 G w) := (zSt.mk (w := w) sO42 sQ43 sV44 sL45 hWk41 (hOt46.too hI.2.2.2.2.2.2.2.2.2.1 (fun j j0 j1 => by rw [hFj _ (by omega)]; exact hj _ (by omega) (by omega) (by omega) (by omega) (by omega))) hw (by rw [hFj _ (by omega)]; exact hj _ (by omega) (by omega) (by omega) (by omega) (by omega)) (by rw [hFj _ (by omega)]; exact hj _ (by omega) (by omega) (by omega) (by omega) (by omega)) (by rw [hFj _ (by omega)]; exact hj _ (by omega) (by omega) (by omega) (by omega) (by omega)) (hFj _ (by omega)) (fun j j0 j1 => (hFj _ (by omega)).symm) (fun j j0 j1 => by rw [hFj _ (by omega), hj _ (by omega) (by omega) (by omega) (by omega) (by omega)]))
    refine z_Vim [.ref (a (t + 6 + 16 * w.toNat + 10 + ((sF1 G w) (at_ w 0) - 1).toNat))] [] kM_X2_202 O dX2_endBadly_61 (c_X2_forgiveOrSpoil hst hz49 hIF (by omega)) rfl rfl sO42.1 (by decide) (Nat.le_of_ble_eq_true rfl) (by omega) (by omega) (Nat.le_of_ble_eq_true rfl) zNx (fun H50 hp51 hz52 => ?_)
    obtain ⟨hf53, hz54⟩ := hp51
    refine z_meter (fun hm1 hm2 => ?_)
    rw [hH] at hm1 hm2
    have hgw : zGw t H r H50 r22 := ⟨by omega, by omega⟩
    exact z_ireti O dX2_endBadly_64 rfl (by omega) (by omega) hpo (by unfold sFailR; first | rw [if_pos (show G (at_ w 0) = 1 by omega)] | rw [if_neg (show ¬ G (at_ w 0) = 1 by omega)]) (⟨r22, (((((((hf5.up (fun s h => by first | exact h.elim | omega | (simp at h ⊢; omega)))).tr (hf23.up (fun s h => by first | exact h.elim | omega | (simp at h ⊢; omega))))).tr (hf40.up (fun s h => by first | exact h.elim | omega | (simp at h ⊢; omega))))).tr (hf53.up (fun s h => by first | exact h.elim | omega | (simp at h ⊢; omega)))), hgw, (by unfold sFail; rw [if_neg (by omega)]; exact hz54)⟩)
  · skip
    obtain ⟨_, _, _, _, hO55, _⟩ := id hWk41
    refine z_Vr [] [] kM_X2_162 O dX2_endBadly_34 (by have c := c_X4_innermost hst hWk41; rw [if_neg hd47] at c; exact c) rfl rfl hO55.1 (by decide) (Nat.le_of_ble_eq_true rfl) (by omega) (by omega) (Nat.le_of_ble_eq_true rfl) zNx ?_
    refine z_astore_nN [(3, .null), (2, .ref (a (t + 6 + 16 * w.toNat + 10 + (G (at_ w 0) - 1).toNat))), (0, .ref (a t)), (1, .ref (a (t + 6 + 16 * w.toNat)))] O dX2_endBadly_37 (by decide) rfl ?_
    refine z_aload_nN 0 O dX2_endBadly_38 rfl ?_
    refine z_ifnonnullN O dX2_endBadly_39 ?_
    refine z_aload_n 2 O dX2_endBadly_42 rfl ?_
    refine z_aload_n 3 O dX2_endBadly_43 rfl ?_
    have hz56 : zSt (zEn x) H37 r22 a t (sF1 G w) := (zSt.mk (w := w) sO42 sQ43 sV44 sL45 hWk41 (hOt46.too hI.2.2.2.2.2.2.2.2.2.1 (fun j j0 j1 => by rw [hFj _ (by omega)]; exact hj _ (by omega) (by omega) (by omega) (by omega) (by omega))) hw (by rw [hFj _ (by omega)]; exact hj _ (by omega) (by omega) (by omega) (by omega) (by omega)) (by rw [hFj _ (by omega)]; exact hj _ (by omega) (by omega) (by omega) (by omega) (by omega)) (by rw [hFj _ (by omega)]; exact hj _ (by omega) (by omega) (by omega) (by omega) (by omega)) (hFj _ (by omega)) (fun j j0 j1 => (hFj _ (by omega)).symm) (fun j j0 j1 => by rw [hFj _ (by omega), hj _ (by omega) (by omega) (by omega) (by omega) (by omega)]))
    refine z_Vvm [.ref (a (t + 6 + 16 * w.toNat))] [] kM_X2_190 O dX2_endBadly_44 (c_X2_endAll hst hz56 hIF) rfl rfl sO42.1 (by decide) (Nat.le_of_ble_eq_true rfl) (by omega) (by omega) (Nat.le_of_ble_eq_true rfl) zNx (fun H57 hp58 hz59 => ?_)
    obtain ⟨hf60, hz61⟩ := hp58
    obtain ⟨sO61, sQ61, sV61, sL61, sWs61⟩ := id hz61
    obtain ⟨hWk61, hOt61⟩ := zSt_w sWs61 hw
    obtain ⟨np, f1, f2, V, hO61, hQ61, hLg61, hRg61, hPL61, hPR61, hWs61, hRl9⟩ := id hWk61
    refine z_aload_n 3 O dX2_endBadly_47 rfl ?_
    refine z_dup O dX2_endBadly_48 rfl ?_
    refine z_getf kF_X2_87 O dX2_endBadly_49 hO61.1 rfl ?_
    refine z_iconst 1 O dX2_endBadly_52 (by decide +kernel) ?_
    refine z_iadd O dX2_endBadly_53 ?_
    refine z_putf kP_X2_87 O (fun h => nomatch h) dX2_endBadly_54 hO61.1 rfl rfl (Nat.le_of_ble_eq_true rfl) (fun H63 hO64 hC65 => ?_)
    have hf66 := hO61.ch hC65
    have ho67 : zO (zEn x) H63 r22 (t + 6 + 16 * w.toNat) (a (t + 6 + 16 * w.toNat)) 4 [.int (iI w), .ref (a (t + 6 + 16 * w.toNat + 1)), .ref (a (t + 6 + 16 * w.toNat + 2)), .ref (a (t + 6 + 16 * w.toNat + 4)), .ref (a (t + 6 + 16 * w.toNat + 6)), .ref (a (t + 6 + 16 * w.toNat + 8)), .int (iI ((sEnd (sF1 G w) w) (at_ w 0))), .int (iI ((sEnd (sF1 G w) w) (at_ w 3))), .int (iI (((sEnd (sF1 G w) w) (at_ w 4)) + 1))] := ⟨hO64, hO61.2⟩
    have sO68 := sO61.fr hf66 (by first | exact (fun h => h) | exact zT1 (by omega) | (show ¬ (_ ∨ _); omega) | (show ¬ (_ ∧ _); omega))
    have sQ69 := sQ61.fr hf66 (by first | exact (fun h => h) | exact zT1 (by omega) | (show ¬ (_ ∨ _); omega) | (show ¬ (_ ∧ _); omega))
    have sV70 := sV61.fr hf66 (by first | exact (fun h => h) | exact zT1 (by omega) | (show ¬ (_ ∨ _); omega) | (show ¬ (_ ∧ _); omega)) (by first | exact (fun h => h) | exact zT1 (by omega) | (show ¬ (_ ∨ _); omega) | (show ¬ (_ ∧ _); omega))
    have sL71 := sL61.fr hf66 (by first | exact (fun h => h) | exact zT1 (by omega) | (show ¬ (_ ∨ _); omega) | (show ¬ (_ ∧ _); omega)) (by first | exact (fun h => h) | exact zT1 (by omega) | (show ¬ (_ ∨ _); omega) | (show ¬ (_ ∧ _); omega))
    have hQ72 := hQ61.fr hf66 (by first | exact (fun h => h) | exact zT1 (by omega) | (show ¬ (_ ∨ _); omega) | (show ¬ (_ ∧ _); omega))
    have hLg73 := hLg61.fr hf66 (by first | exact (fun h => h) | exact zT1 (by omega) | (show ¬ (_ ∨ _); omega) | (show ¬ (_ ∧ _); omega)) (by first | exact (fun h => h) | exact zT1 (by omega) | (show ¬ (_ ∨ _); omega) | (show ¬ (_ ∧ _); omega))
    have hRg74 := hRg61.fr hf66 (by first | exact (fun h => h) | exact zT1 (by omega) | (show ¬ (_ ∨ _); omega) | (show ¬ (_ ∧ _); omega)) (by first | exact (fun h => h) | exact zT1 (by omega) | (show ¬ (_ ∨ _); omega) | (show ¬ (_ ∧ _); omega))
    have hPL75 := hPL61.fr hf66 (by first | exact (fun h => h) | exact zT1 (by omega) | (show ¬ (_ ∨ _); omega) | (show ¬ (_ ∧ _); omega)) (by first | exact (fun h => h) | exact zT1 (by omega) | (show ¬ (_ ∨ _); omega) | (show ¬ (_ ∧ _); omega))
    have hPR76 := hPR61.fr hf66 (by first | exact (fun h => h) | exact zT1 (by omega) | (show ¬ (_ ∨ _); omega) | (show ¬ (_ ∧ _); omega)) (by first | exact (fun h => h) | exact zT1 (by omega) | (show ¬ (_ ∨ _); omega) | (show ¬ (_ ∧ _); omega))
    have hWs77 := hWs61.fr hf66 (fun s h1 h2 => by first | exact (fun h => h) | exact zT1 (by omega) | (show ¬ (_ ∨ _); omega) | (show ¬ (_ ∧ _); omega))
    have hOt78 := hOt61.fr hf66 (fun s h1 h2 h3 => by first | exact (fun h => h) | exact zT1 (by omega) | (show ¬ (_ ∨ _); omega) | (show ¬ (_ ∧ _); omega)) hw.1
    refine z_iconst 0 O dX2_endBadly_57 (by decide +kernel) ?_
    refine z_meter (fun hm1 hm2 => ?_)
    rw [hH] at hm1 hm2
    have hgw : zGw t H r H63 r22 := ⟨by omega, by omega⟩
    exact z_ireti O dX2_endBadly_58 rfl (by omega) (by omega) hpo (by unfold sFailR; first | rw [if_pos (show G (at_ w 0) = 1 by omega)] | rw [if_neg (show ¬ G (at_ w 0) = 1 by omega)]) (⟨r22, (((((((((hf5.up (fun s h => by first | exact h.elim | omega | (simp at h ⊢; omega)))).tr (hf23.up (fun s h => by first | exact h.elim | omega | (simp at h ⊢; omega))))).tr (hf40.up (fun s h => by first | exact h.elim | omega | (simp at h ⊢; omega))))).tr (hf60.up (fun s h => by first | exact h.elim | omega | (simp at h ⊢; omega))))).tr (hf66.up (fun s h => by first | exact h.elim | omega | (simp at h ⊢; omega)))), hgw, (by unfold sFail; rw [if_pos (by omega), show G (at_ w 4) = (sEnd (sF1 G w) w) (at_ w 4) from (by rw [sEnd_n (by omega) (by omega) (by omega), hFj _ (by omega)]; exact (hj _ (by omega) (by omega) (by omega) (by omega) (by omega)).symm)]; exact (zSt.mk (w := w) sO68 sQ69 sV70 sL71 (zWkr.mk ho67 hQ72 hLg73 hRg74 hPL75 hPR76 hWs77 (by have q := at_e w 0; have q9 := at_e w 4; exact zU_n (by omega)) (by have q := at_e w 3; have q9 := at_e w 4; exact zU_n (by omega)) zU_s (by have q := at_e w 1; have q9 := at_e w 4; exact zU_n (by omega)) (by have q := at_e w 2; have q9 := at_e w 4; exact zU_n (by omega)) (fun k k0 k1 => by have q := at_e w (70 + k); have q9 := at_e w 4; exact (zU_n (by omega)).symm) (fun k k0 k1 => by have q := at_e w (710 + k); have q9 := at_e w 4; exact (zU_n (by omega)).symm) (hRl9.to (fun i p q => (hIF.en.2.2.2.2.2.2.2.2.1 i p q).1) (by have q := at_e w 0; have q9 := at_e w 4; exact zU_n (by omega)) (fun i k9 i0 i1 k0 k1 => by have q := wA_e w i k9; have q9 := at_e w 4; exact zU_n (by omega)))) (hOt78.too hIF.en.2.2.2.2.2.2.2.2.2.1 (fun j j0 j1 => by have q := at_e w 0; have q2 := at_e w 1350; have q9 := at_e w 4; exact zU_n (by omega))) hw (by have q9 := at_e w 4; exact zU_n (by omega)) (by have q9 := at_e w 4; exact zU_n (by omega)) (by have q9 := at_e w 4; exact zU_n (by omega)) (by have q9 := at_e w 4; exact zU_n (by omega)) (fun j j0 j1 => (by have q9 := at_e w 4; exact (zU_n (by omega)).symm)) (fun j j0 j1 => (by have q9 := at_e w 4; rw [zU_n (by omega)]))))⟩)

