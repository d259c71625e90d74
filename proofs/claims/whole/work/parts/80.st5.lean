/-! the class: going back, done, failed (written by program: wip/whole/gen/class8.py) -/
theorem c_X2_goBack {E : zE} (hst : E.1.stackTraces = false) {H : Heap} {r : zH} {a : Nat → Nat} {t : Nat} {G : Int → Int} {N : Int} {w i : Int} (h : zSt E H r a t G) (hG : sW G N) (hw : 0 ≤ w ∧ w ≤ 2) (hp : sHp G w i = true) (hzi : zR i) : zC E yX2_goBack cX2_goBack 6 (some .int) 3 66 [.ref (a t), .ref (a (t + 6 + 16 * w.toNat)), .int (iI i)] H 0 0 (zRi (G (at_ w 1) - G (sIn G w (5 + i))) (fun H1 => zFr H r H1 r (fun s => t ≤ s ∧ s < t + 64) ∧ zSt E H1 r a t (sBack G w i))) zN := by
  refine zC.of (by decide) (Nat.le_of_ble_eq_true rfl) hst ?_
  intro x O hE hpo hpx
  subst hE
  change zG x H 0 0 0 [(0, .ref (a t)), (1, .ref (a (t + 6 + 16 * w.toNat))), (2, .int (iI i))] []
  obtain ⟨sO, sQ, sV, sL, sWs⟩ := id h
  obtain ⟨hWk, hOt⟩ := zSt_w sWs hw
  obtain ⟨np, f1, f2, V, hO, hQ, hLg, hRg, hPL, hPR, hWs, hRl⟩ := id hWk
  have hm := hG.m hw
  have hl := hG.l hw
  have hI := hG.i hw
  have hp2 := sHp_t.mp hp
  have hd := hp2.1
  have hin := hG.in hw hd
  have hpl := (hRl.2.2.1 (G (at_ w 0) - 1) (by omega) (by omega)).2.2.2.2.2.2 i hp2.2.1 (by have : sIn G w 2 = wA w (G (at_ w 0) - 1) 2 := rfl; rw [← this]; omega)
  have ht := (hRl.2.2.1 (G (at_ w 0) - 1) (by omega) (by omega)).2.2.2.2
  have hnp := ht.1
  rw [if_neg (by omega)] at hnp
  have hsi : G (sIn G w 2) = G (wA w (G (at_ w 0) - 1) 2) := rfl
  have hpt := hin.2.2.2.2.2 i hp2.2.1 (by omega)
  have hs5 : G (sIn G w (5 + i)) = G (wA w (G (at_ w 0) - 1) (5 + i)) := rfl
  have hs9 : G (sIn G w (9 + i)) = G (wA w (G (at_ w 0) - 1) (9 + i)) := rfl
  have hpn := hPL.n
  have htp := ht.2.1
  obtain ⟨hu, u1, u2⟩ := hI.un (n := (G (at_ w 1) - G (wA w (G (at_ w 0) - 1) (5 + i))).toNat) (by omega)
  have eb : ∀ j : Int, sBack G w i j = if j = 36 + 1350 * w + (5 + 13 * (G (at_ w 0) - 1) + 2) then i + 1 else if j = 36 + 1350 * w + 2 then G (wA w (G (at_ w 0) - 1) (9 + i)) else sUn (G (at_ w 1) - G (wA w (G (at_ w 0) - 1) (5 + i))).toNat G w j := fun j => rfl
  refine z_aload_n 1 O dX2_goBack_0 rfl ?_
  refine z_Vr [] [] kM_X2_162 O dX2_goBack_1 (by have c := c_X4_innermost hst hWk; rw [if_pos hd] at c; exact c) rfl rfl hO.1 (by decide) (Nat.le_of_ble_eq_true rfl) (by omega) (by omega) (Nat.le_of_ble_eq_true rfl) zNx ?_
  refine z_astore_n [(3, .ref (a (t + 6 + 16 * w.toNat + 10 + (G (at_ w 0) - 1).toNat))), (0, .ref (a t)), (1, .ref (a (t + 6 + 16 * w.toNat))), (2, .int (iI i))] O dX2_goBack_4 (by decide) rfl ?_
  refine z_aload_n 0 O dX2_goBack_5 rfl ?_
  refine z_ifnull O dX2_goBack_6 ?_
  refine z_aload_n 2 O dX2_goBack_9 rfl ?_
  refine z_iload_n 3 O dX2_goBack_10 rfl ?_
  refine z_Vi [.int (iI i)] [] kM_X2_104 O dX2_goBack_11 (by have c := c_X4_hasPoint hst hWk hG hw hzi; rw [hp] at c; exact c) rfl rfl hO.1 (by decide) (Nat.le_of_ble_eq_true rfl) (by omega) (by omega) (Nat.le_of_ble_eq_true rfl) zNx ?_
  refine z_ifb_ne 19 O dX2_goBack_14 (by decide) (fun c_14 => ?_) (fun c_14 => ?_)
  · skip
    refine z_aload_n 0 O dX2_goBack_19 rfl ?_
    have hWo1 := hWs.at (e := (G (at_ w 0) - 1)) (by omega) (by omega)
    refine z_getf kF_X2_166 O dX2_goBack_20 hWo1.1 rfl ?_
    refine z_iload_n 3 O dX2_goBack_23 rfl ?_
    refine z_iadd O dX2_goBack_24 ?_
    refine z_istore [(4, .int (iI ((V (G (at_ w 0) - 1) 2) + i))), (3, .ref (a (t + 6 + 16 * w.toNat + 10 + (G (at_ w 0) - 1).toNat))), (0, .ref (a t)), (1, .ref (a (t + 6 + 16 * w.toNat))), (2, .int (iI i))] O dX2_goBack_25 (by decide) rfl ?_
    refine z_aload_n 3 O dX2_goBack_27 rfl ?_
    refine z_getf kF_X2_72 O dX2_goBack_28 hO.1 rfl ?_
    obtain ⟨it2, hRo3⟩ := hLg.o
    refine z_getf kF_X2_75 O dX2_goBack_31 hRo3.1 rfl ?_
    refine z_istore [(5, .int (iI (G (at_ w 1)))), (4, .int (iI ((V (G (at_ w 0) - 1) 2) + i))), (3, .ref (a (t + 6 + 16 * w.toNat + 10 + (G (at_ w 0) - 1).toNat))), (0, .ref (a t)), (1, .ref (a (t + 6 + 16 * w.toNat))), (2, .int (iI i))] O dX2_goBack_34 (by decide) rfl ?_
    refine z_aload_n 3 O dX2_goBack_36 rfl ?_
    refine z_aload_n 4 O dX2_goBack_37 rfl ?_
    refine z_aload_n 4 O dX2_goBack_38 rfl ?_
    refine z_getf kF_X2_171 O dX2_goBack_39 hO.1 rfl ?_
    refine z_iload 1 O dX2_goBack_42 rfl ?_
    obtain ⟨it4, hRo5⟩ := hPL.o
    refine z_Vi [.int (iI ((V (G (at_ w 0) - 1) 2) + i))] [.ref (a (t + 6 + 16 * w.toNat)), .ref (a t)] kM_X2_65 O dX2_goBack_44 (c_X1_get hst hPL ⟨by omega, by omega⟩) rfl rfl hRo5.1 (by decide) (Nat.le_of_ble_eq_true rfl) (by omega) (by omega) (Nat.le_of_ble_eq_true rfl) zNx ?_
    rw [show zRg np f1 ((V (G (at_ w 0) - 1) 2) + i) = G (wA w (G (at_ w 0) - 1) (5 + i)) from (by unfold zRg; rw [if_pos ⟨by omega, by omega⟩]; exact hpl.1)]
    refine z_Vvm [.ref (a (t + 6 + 16 * w.toNat)), .int (iI (G (wA w (G (at_ w 0) - 1) (5 + i))))] [] kM_X2_174 O dX2_goBack_47 (c_X2_rollBack hst h hI ⟨by omega, by omega⟩) rfl rfl sO.1 (by decide) (Nat.le_of_ble_eq_true rfl) (by omega) (by omega) (Nat.le_of_ble_eq_true rfl) zNx (fun H6 hp7 hz8 => ?_)
    obtain ⟨hf9, hR10, hR11⟩ := hp7
    have sO12 := sO.fr hf9 (by first | exact (fun h => h) | exact zT1 (by omega) | (show ¬ (_ ∨ _); omega) | (show ¬ (_ ∧ _); omega))
    have sQ13 := sQ.fr hf9 (by first | exact (fun h => h) | exact zT1 (by omega) | (show ¬ (_ ∨ _); omega) | (show ¬ (_ ∧ _); omega))
    have sL14 := sL.fr hf9 (by first | exact (fun h => h) | exact zT1 (by omega) | (show ¬ (_ ∨ _); omega) | (show ¬ (_ ∧ _); omega)) (by first | exact (fun h => h) | exact zT1 (by omega) | (show ¬ (_ ∨ _); omega) | (show ¬ (_ ∧ _); omega))
    have hO15 := hO.fr hf9 (by first | exact (fun h => h) | exact zT1 (by omega) | (show ¬ (_ ∨ _); omega) | (show ¬ (_ ∧ _); omega))
    have hQ16 := hQ.fr hf9 (by first | exact (fun h => h) | exact zT1 (by omega) | (show ¬ (_ ∨ _); omega) | (show ¬ (_ ∧ _); omega))
    have hRg17 := hRg.fr hf9 (by first | exact (fun h => h) | exact zT1 (by omega) | (show ¬ (_ ∨ _); omega) | (show ¬ (_ ∧ _); omega)) (by first | exact (fun h => h) | exact zT1 (by omega) | (show ¬ (_ ∨ _); omega) | (show ¬ (_ ∧ _); omega))
    have hPL18 := hPL.fr hf9 (by first | exact (fun h => h) | exact zT1 (by omega) | (show ¬ (_ ∨ _); omega) | (show ¬ (_ ∧ _); omega)) (by first | exact (fun h => h) | exact zT1 (by omega) | (show ¬ (_ ∨ _); omega) | (show ¬ (_ ∧ _); omega))
    have hPR19 := hPR.fr hf9 (by first | exact (fun h => h) | exact zT1 (by omega) | (show ¬ (_ ∨ _); omega) | (show ¬ (_ ∧ _); omega)) (by first | exact (fun h => h) | exact zT1 (by omega) | (show ¬ (_ ∨ _); omega) | (show ¬ (_ ∧ _); omega))
    have hWs20 := hWs.fr hf9 (fun s h1 h2 => by first | exact (fun h => h) | exact zT1 (by omega) | (show ¬ (_ ∨ _); omega) | (show ¬ (_ ∧ _); omega))
    have hOt21 := hOt.fr hf9 (fun s h1 h2 h3 => by first | exact (fun h => h) | exact zT1 (by omega) | (show ¬ (_ ∨ _); omega) | (show ¬ (_ ∧ _); omega)) hw.1
    refine z_aload_n 4 O dX2_goBack_50 rfl ?_
    refine z_getf kF_X2_159 O dX2_goBack_51 hO15.1 rfl ?_
    refine z_aload_n 4 O dX2_goBack_54 rfl ?_
    refine z_getf kF_X2_178 O dX2_goBack_55 hO15.1 rfl ?_
    refine z_iload 1 O dX2_goBack_58 rfl ?_
    obtain ⟨it22, hRo23⟩ := hPR19.o
    refine z_Vi [.int (iI ((V (G (at_ w 0) - 1) 2) + i))] [.ref (a (t + 6 + 16 * w.toNat + 4))] kM_X2_65 O dX2_goBack_60 (c_X1_get hst hPR19 ⟨by omega, by omega⟩) rfl rfl hRo23.1 (by decide) (Nat.le_of_ble_eq_true rfl) (by omega) (by omega) (Nat.le_of_ble_eq_true rfl) zNx ?_
    rw [show zRg np f2 ((V (G (at_ w 0) - 1) 2) + i) = G (wA w (G (at_ w 0) - 1) (9 + i)) from (by unfold zRg; rw [if_pos ⟨by omega, by omega⟩]; exact hpl.2)]
    obtain ⟨it24, hRo25⟩ := hRg17.o
    refine z_Vvm [.int (iI (G (wA w (G (at_ w 0) - 1) (9 + i))))] [] kM_X2_181 O dX2_goBack_63 (c_X1_cutTo hst hRg17 ⟨by omega, by omega⟩) rfl rfl hRo25.1 (by decide) (Nat.le_of_ble_eq_true rfl) (by omega) (by omega) (Nat.le_of_ble_eq_true rfl) zNx (fun H26 hp27 hz28 => ?_)
    obtain ⟨hf29, hr30⟩ := hp27
    have hR31 : zRow (zEn x) H26 r (t + 6 + 16 * w.toNat + 4) (a (t + 6 + 16 * w.toNat + 4)) 1024 (G (wA w (G (at_ w 0) - 1) (9 + i))) (fun k => G (at_ w (710 + k))) := by rw [show zRc (G (at_ w 2)) (G (wA w (G (at_ w 0) - 1) (9 + i))) = G (wA w (G (at_ w 0) - 1) (9 + i)) from (by unfold zRc; split <;> omega)] at hr30; exact hr30
    have sO32 := sO12.fr hf29 (by first | exact (fun h => h) | exact zT1 (by omega) | (show ¬ (_ ∨ _); omega) | (show ¬ (_ ∧ _); omega))
    have sQ33 := sQ13.fr hf29 (by first | exact (fun h => h) | exact zT1 (by omega) | (show ¬ (_ ∨ _); omega) | (show ¬ (_ ∧ _); omega))
    have hR34 := hR10.fr hf29 (by first | exact (fun h => h) | exact zT1 (by omega) | (show ¬ (_ ∨ _); omega) | (show ¬ (_ ∧ _); omega)) (by first | exact (fun h => h) | exact zT1 (by omega) | (show ¬ (_ ∨ _); omega) | (show ¬ (_ ∧ _); omega))
    have sL35 := sL14.fr hf29 (by first | exact (fun h => h) | exact zT1 (by omega) | (show ¬ (_ ∨ _); omega) | (show ¬ (_ ∧ _); omega)) (by first | exact (fun h => h) | exact zT1 (by omega) | (show ¬ (_ ∨ _); omega) | (show ¬ (_ ∧ _); omega))
    have hO36 := hO15.fr hf29 (by first | exact (fun h => h) | exact zT1 (by omega) | (show ¬ (_ ∨ _); omega) | (show ¬ (_ ∧ _); omega))
    have hQ37 := hQ16.fr hf29 (by first | exact (fun h => h) | exact zT1 (by omega) | (show ¬ (_ ∨ _); omega) | (show ¬ (_ ∧ _); omega))
    have hR38 := hR11.fr hf29 (by first | exact (fun h => h) | exact zT1 (by omega) | (show ¬ (_ ∨ _); omega) | (show ¬ (_ ∧ _); omega)) (by first | exact (fun h => h) | exact zT1 (by omega) | (show ¬ (_ ∨ _); omega) | (show ¬ (_ ∧ _); omega))
    have hPL39 := hPL18.fr hf29 (by first | exact (fun h => h) | exact zT1 (by omega) | (show ¬ (_ ∨ _); omega) | (show ¬ (_ ∧ _); omega)) (by first | exact (fun h => h) | exact zT1 (by omega) | (show ¬ (_ ∨ _); omega) | (show ¬ (_ ∧ _); omega))
    have hPR40 := hPR19.fr hf29 (by first | exact (fun h => h) | exact zT1 (by omega) | (show ¬ (_ ∨ _); omega) | (show ¬ (_ ∧ _); omega)) (by first | exact (fun h => h) | exact zT1 (by omega) | (show ¬ (_ ∨ _); omega) | (show ¬ (_ ∧ _); omega))
    have hWs41 := hWs20.fr hf29 (fun s h1 h2 => by first | exact (fun h => h) | exact zT1 (by omega) | (show ¬ (_ ∨ _); omega) | (show ¬ (_ ∧ _); omega))
    have hOt42 := hOt21.fr hf29 (fun s h1 h2 h3 => by first | exact (fun h => h) | exact zT1 (by omega) | (show ¬ (_ ∨ _); omega) | (show ¬ (_ ∧ _); omega)) hw.1
    refine z_aload_n 4 O dX2_goBack_66 rfl ?_
    refine z_iload 1 O dX2_goBack_67 rfl ?_
    refine z_iconst 1 O dX2_goBack_69 (by decide +kernel) ?_
    refine z_iadd O dX2_goBack_70 ?_
    refine z_Vvm [.int (iI (((V (G (at_ w 0) - 1) 2) + i) + 1))] [] kM_X2_184 O dX2_goBack_71 (c_X4_cutPoints hst hO36 hPL39 hPR40 ⟨by omega, by omega⟩) rfl rfl hO36.1 (by decide) (Nat.le_of_ble_eq_true rfl) (by omega) (by omega) (Nat.le_of_ble_eq_true rfl) zNx (fun H43 hp44 hz45 => ?_)
    obtain ⟨hf46, hr47, hr48⟩ := hp44
    rw [show zRc np (((V (G (at_ w 0) - 1) 2) + i) + 1) = ((V (G (at_ w 0) - 1) 2) + i) + 1 from (by unfold zRc; split <;> omega)] at hr47 hr48
    have sO49 := sO32.fr hf46 (by first | exact (fun h => h) | exact zT1 (by omega) | (show ¬ (_ ∨ _); omega) | (show ¬ (_ ∧ _); omega))
    have sQ50 := sQ33.fr hf46 (by first | exact (fun h => h) | exact zT1 (by omega) | (show ¬ (_ ∨ _); omega) | (show ¬ (_ ∧ _); omega))
    have hR51 := hR34.fr hf46 (by first | exact (fun h => h) | exact zT1 (by omega) | (show ¬ (_ ∨ _); omega) | (show ¬ (_ ∧ _); omega)) (by first | exact (fun h => h) | exact zT1 (by omega) | (show ¬ (_ ∨ _); omega) | (show ¬ (_ ∧ _); omega))
    have sL52 := sL35.fr hf46 (by first | exact (fun h => h) | exact zT1 (by omega) | (show ¬ (_ ∨ _); omega) | (show ¬ (_ ∧ _); omega)) (by first | exact (fun h => h) | exact zT1 (by omega) | (show ¬ (_ ∨ _); omega) | (show ¬ (_ ∧ _); omega))
    have hO53 := hO36.fr hf46 (by first | exact (fun h => h) | exact zT1 (by omega) | (show ¬ (_ ∨ _); omega) | (show ¬ (_ ∧ _); omega))
    have hQ54 := hQ37.fr hf46 (by first | exact (fun h => h) | exact zT1 (by omega) | (show ¬ (_ ∨ _); omega) | (show ¬ (_ ∧ _); omega))
    have hR55 := hR38.fr hf46 (by first | exact (fun h => h) | exact zT1 (by omega) | (show ¬ (_ ∨ _); omega) | (show ¬ (_ ∧ _); omega)) (by first | exact (fun h => h) | exact zT1 (by omega) | (show ¬ (_ ∨ _); omega) | (show ¬ (_ ∧ _); omega))
    have hR56 := hR31.fr hf46 (by first | exact (fun h => h) | exact zT1 (by omega) | (show ¬ (_ ∨ _); omega) | (show ¬ (_ ∧ _); omega)) (by first | exact (fun h => h) | exact zT1 (by omega) | (show ¬ (_ ∨ _); omega) | (show ¬ (_ ∧ _); omega))
    have hWs57 := hWs41.fr hf46 (fun s h1 h2 => by first | exact (fun h => h) | exact zT1 (by omega) | (show ¬ (_ ∨ _); omega) | (show ¬ (_ ∧ _); omega))
    have hOt58 := hOt42.fr hf46 (fun s h1 h2 h3 => by first | exact (fun h => h) | exact zT1 (by omega) | (show ¬ (_ ∨ _); omega) | (show ¬ (_ ∧ _); omega)) hw.1
    refine z_iload 0 O dX2_goBack_74 rfl ?_
    refine z_aload_n 4 O dX2_goBack_76 rfl ?_
    refine z_getf kF_X2_72 O dX2_goBack_77 hO53.1 rfl ?_
    obtain ⟨it59, hRo60⟩ := hR55.o
    refine z_getf kF_X2_75 O dX2_goBack_80 hRo60.1 rfl ?_
    refine z_isub O dX2_goBack_83 ?_
    exact z_ireti O dX2_goBack_84 rfl (by omega) (by omega) hpo (by omega) (⟨(((((hf9.up (fun s h => by first | exact h.elim | omega | (simp at h ⊢; omega)))).tr (hf29.up (fun s h => by first | exact h.elim | omega | (simp at h ⊢; omega))))).tr (hf46.up (fun s h => by first | exact h.elim | omega | (simp at h ⊢; omega)))), (zSt.mk (w := w) sO49 sQ50 hR51 sL52 (zWkr.mk hO53 hQ54 hR55 hR56 hr47 hr48 hWs57 (by have q := at_e w 0; have q1 := at_e w 1; rw [eb, if_neg (by omega), if_neg (by omega)]; exact u1 _ (by omega) (by omega)) (by have q := at_e w 3; have q1 := at_e w 1; rw [eb, if_neg (by omega), if_neg (by omega)]; exact u1 _ (by omega) (by omega)) (by have q := at_e w 4; have q1 := at_e w 1; rw [eb, if_neg (by omega), if_neg (by omega)]; exact u1 _ (by omega) (by omega)) (by have q := at_e w 1; rw [eb, if_neg (by omega), if_neg (by omega), u2]; omega) (by have q := at_e w 2; rw [eb, if_neg (by omega), if_pos (by omega)]) (fun k k0 k1 => by have q := at_e w (70 + k); have q1 := at_e w 1; rw [eb, if_neg (by omega), if_neg (by omega)]; exact (u1 _ (by omega) (by omega)).symm) (fun k k0 k1 => by have q := at_e w (710 + k); have q1 := at_e w 1; rw [eb, if_neg (by omega), if_neg (by omega)]; exact (u1 _ (by omega) (by omega)).symm) (hRl.back hd ⟨hp2.2.1, by omega⟩ (fun i p q => (hG.k hw p q).2.2.1) (by have q := at_e w 0; have q1 := at_e w 1; rw [eb, if_neg (by omega), if_neg (by omega)]; exact u1 _ (by omega) (by omega)) (by have q := wA_e w (G (at_ w 0) - 1) 2; rw [eb, if_pos (by omega)]) (fun i9 k i0 i1 k0 k1 z => by have q := wA_e w i9 k; have q1 := at_e w 1; rw [eb, if_neg (by omega), if_neg (by omega)]; exact u1 _ (by omega) (by omega)))) (hOt58.too hI.2.2.2.2.2.2.2.2.2.1 (fun j j0 j1 => by have q := at_e w 0; have q2 := at_e w 1350; have q1 := at_e w 1; rw [eb, if_neg (by omega), if_neg (by omega)]; exact u1 _ (by omega) (by omega))) hw (by have q1 := at_e w 1; rw [eb, if_neg (by omega), if_neg (by omega)]; exact u1 _ (by omega) (by omega)) (by have q1 := at_e w 1; rw [eb, if_neg (by omega), if_neg (by omega)]; exact u1 _ (by omega) (by omega)) (by have q1 := at_e w 1; rw [eb, if_neg (by omega), if_neg (by omega)]; exact u1 _ (by omega) (by omega)) (by have q1 := at_e w 1; rw [eb, if_neg (by omega), if_neg (by omega)]; exact u1 _ (by omega) (by omega)) (fun j j0 j1 => by rw [eb, if_neg (by omega), if_neg (by omega)]) (fun j j0 j1 => by have q1 := at_e w 1; rw [eb, if_neg (by omega), if_neg (by omega), u1 _ (by omega) (by omega)]))⟩)
  · exfalso; exact absurd c_14 (by decide)

theorem sWi.en {G : Int → Int} {w : Int} (h : sWi G w) : sWi (sEnd G w) w := by
  obtain ⟨hw, hm, hl, hr, hE, hR, hV, hK, hk, hO, h32⟩ := id h
  have q0 := at_e w 0
  have q1 := at_e w 1
  have q2 := at_e w 2
  have qp := at_e w 1350
  refine h.to (fun j a b => sEnd_n (by omega) (by omega) (by omega)) (by rw [sEnd_n (by omega) (by omega) (by omega)]; omega) (by rw [sEnd_1 hw.1]; omega) (by rw [sEnd_2 hw.1]; omega) (fun k a b => ?_) (fun k a b => ?_) (fun c a b => ?_) (sEnd_k hw.1 hK) (fun i k a b c d => ?_) (sEnd_n (by omega) (by omega) (by omega))
  · rw [sEnd_1 hw.1] at b; omega
  · rw [sEnd_2 hw.1] at b; omega
  · rw [sEnd_n (by omega) (by omega) (by omega)]; exact hV c a b
  · have := wA_e w i k
    exact sEnd_n (by omega) (by omega) (by omega)
theorem c_X2_endWell {E : zE} (hst : E.1.stackTraces = false) {H : Heap} {r : zH} {a : Nat → Nat} {t : Nat} {G : Int → Int} {N : Int} {w : Int} (h : zSt E H r a t G) (hG : sW G N) (hw : 0 ≤ w ∧ w ≤ 2) (hd : 0 < G (at_ w 0)) : zC E yX2_endWell cX2_endWell 2 (some .int) 3 63 [.ref (a t), .ref (a (t + 6 + 16 * w.toNat))] H 0 0 (zRi (G (at_ w 0) - 1) (fun H1 => zFr H r H1 r (fun s => t ≤ s ∧ s < t + 64) ∧ zSt E H1 r a t (sDone G w))) zN := by
  refine zC.of (by decide) (Nat.le_of_ble_eq_true rfl) hst ?_
  intro x O hE hpo hpx
  subst hE
  change zG x H 0 0 0 [(0, .ref (a t)), (1, .ref (a (t + 6 + 16 * w.toNat)))] []
  obtain ⟨sO, sQ, sV, sL, sWs⟩ := id h
  obtain ⟨hWk, hOt⟩ := zSt_w sWs hw
  have hI := hG.i hw
  have hm := hI.2.1
  have hN4 : ∀ i : Int, 0 ≤ i → i < G (at_ w 0) → 0 ≤ G (wA w i 2) ∧ G (wA w i 2) ≤ 4 := fun i p q => (hI.2.2.2.2.2.2.2.2.1 i p q).1
  have hs0 : zU G (at_ w 0) (G (at_ w 0) - 1) (at_ w 0) = G (at_ w 0) - 1 := zU_s
  refine z_aload_n 1 O dX2_endWell_0 rfl ?_
  obtain ⟨_, _, _, _, hO1, _⟩ := id hWk
  refine z_Vvm [] [] kM_X2_187 O dX2_endWell_1 (c_X4_leaveWork hst hWk hw.1 hd hN4) rfl rfl hO1.1 (by decide) (Nat.le_of_ble_eq_true rfl) (by omega) (by omega) (Nat.le_of_ble_eq_true rfl) zNx (fun H2 hp3 hz4 => ?_)
  obtain ⟨hf5, hWk6⟩ := hp3
  have sO7 := sO.fr hf5 (by first | exact (fun h => h) | exact zT1 (by omega) | (show ¬ (_ ∨ _); omega) | (show ¬ (_ ∧ _); omega))
  have sQ8 := sQ.fr hf5 (by first | exact (fun h => h) | exact zT1 (by omega) | (show ¬ (_ ∨ _); omega) | (show ¬ (_ ∧ _); omega))
  have sV9 := sV.fr hf5 (by first | exact (fun h => h) | exact zT1 (by omega) | (show ¬ (_ ∨ _); omega) | (show ¬ (_ ∧ _); omega)) (by first | exact (fun h => h) | exact zT1 (by omega) | (show ¬ (_ ∨ _); omega) | (show ¬ (_ ∧ _); omega))
  have sL10 := sL.fr hf5 (by first | exact (fun h => h) | exact zT1 (by omega) | (show ¬ (_ ∨ _); omega) | (show ¬ (_ ∧ _); omega)) (by first | exact (fun h => h) | exact zT1 (by omega) | (show ¬ (_ ∨ _); omega) | (show ¬ (_ ∧ _); omega))
  have hOt11 := hOt.fr hf5 (fun s h1 h2 h3 => by first | exact (fun h => h) | exact zT1 (by omega) | (show ¬ (_ ∨ _); omega) | (show ¬ (_ ∧ _); omega)) hw.1
  refine z_aload_n 1 O dX2_endWell_4 rfl ?_
  obtain ⟨_, _, _, _, hO12, _⟩ := id hWk6
  refine z_getf kF_X2_69 O dX2_endWell_5 hO12.1 rfl ?_
  refine z_if_ne 26 O dX2_endWell_8 (by decide) ⟨by omega, by omega⟩ (fun c_8 => ?_) (fun c_8 => ?_)
  · skip
    refine z_aload_n 1 O dX2_endWell_26 rfl ?_
    obtain ⟨_, _, _, _, hO13, _⟩ := id hWk6
    refine z_getf kF_X2_69 O dX2_endWell_27 hO13.1 rfl ?_
    exact z_ireti O dX2_endWell_30 rfl (by omega) (by omega) hpo (by (first | exact hs0 | (have q0 := at_e w 0; have q1 := at_e w 1; have q2 := at_e w 2; rw [sEnd_n (by omega) (by omega) (by omega)]; exact hs0))) (⟨(hf5.up (fun s h => by first | exact h.elim | omega | (simp at h ⊢; omega))), (by unfold sDone; rw [if_neg (by omega)]; exact (zSt.mk (w := w) sO7 sQ8 sV9 sL10 hWk6 (hOt11.too hI.2.2.2.2.2.2.2.2.2.1 (fun j j0 j1 => by have q := at_e w 0; have q2 := at_e w 1350; exact zU_n (by omega))) hw (by have q := at_e w 0; exact zU_n (by omega)) (by have q := at_e w 0; exact zU_n (by omega)) (by have q := at_e w 0; exact zU_n (by omega)) (by have q := at_e w 0; exact zU_n (by omega)) (fun j j0 j1 => (by have q := at_e w 0; exact (zU_n (by omega)).symm)) (fun j j0 j1 => (by have q := at_e w 0; rw [zU_n (by omega)]))))⟩)
  · skip
    refine z_aload_n 0 O dX2_endWell_11 rfl ?_
    refine z_aload_n 1 O dX2_endWell_12 rfl ?_
    have hz14 : zSt (zEn x) H2 r a t (zU G (at_ w 0) (G (at_ w 0) - 1)) := (zSt.mk (w := w) sO7 sQ8 sV9 sL10 hWk6 (hOt11.too hI.2.2.2.2.2.2.2.2.2.1 (fun j j0 j1 => by have q := at_e w 0; have q2 := at_e w 1350; exact zU_n (by omega))) hw (by have q := at_e w 0; exact zU_n (by omega)) (by have q := at_e w 0; exact zU_n (by omega)) (by have q := at_e w 0; exact zU_n (by omega)) (by have q := at_e w 0; exact zU_n (by omega)) (fun j j0 j1 => (by have q := at_e w 0; exact (zU_n (by omega)).symm)) (fun j j0 j1 => (by have q := at_e w 0; rw [zU_n (by omega)])))
    refine z_Vvm [.ref (a (t + 6 + 16 * w.toNat))] [] kM_X2_190 O dX2_endWell_13 (c_X2_endAll hst hz14 (hI.dec hd)) rfl rfl sO7.1 (by decide) (Nat.le_of_ble_eq_true rfl) (by omega) (by omega) (Nat.le_of_ble_eq_true rfl) zNx (fun H15 hp16 hz17 => ?_)
    obtain ⟨hf18, hz19⟩ := hp16
    obtain ⟨sO19, sQ19, sV19, sL19, sWs19⟩ := id hz19
    obtain ⟨hWk19, hOt19⟩ := zSt_w sWs19 hw
    obtain ⟨np, f1, f2, V, hO19, hQ19, hLg19, hRg19, hPL19, hPR19, hWs19, hRl9⟩ := id hWk19
    refine z_aload_n 1 O dX2_endWell_16 rfl ?_
    refine z_dup O dX2_endWell_17 rfl ?_
    refine z_getf kF_X2_84 O dX2_endWell_18 hO19.1 rfl ?_
    refine z_iconst 1 O dX2_endWell_21 (by decide +kernel) ?_
    refine z_iadd O dX2_endWell_22 ?_
    refine z_putf kP_X2_84 O (fun h => nomatch h) dX2_endWell_23 hO19.1 rfl rfl (Nat.le_of_ble_eq_true rfl) (fun H21 hO22 hC23 => ?_)
    have hf24 := hO19.ch hC23
    have ho25 : zO (zEn x) H21 r (t + 6 + 16 * w.toNat) (a (t + 6 + 16 * w.toNat)) 4 [.int (iI w), .ref (a (t + 6 + 16 * w.toNat + 1)), .ref (a (t + 6 + 16 * w.toNat + 2)), .ref (a (t + 6 + 16 * w.toNat + 4)), .ref (a (t + 6 + 16 * w.toNat + 6)), .ref (a (t + 6 + 16 * w.toNat + 8)), .int (iI ((sEnd (zU G (at_ w 0) (G (at_ w 0) - 1)) w) (at_ w 0))), .int (iI (((sEnd (zU G (at_ w 0) (G (at_ w 0) - 1)) w) (at_ w 3)) + 1)), .int (iI ((sEnd (zU G (at_ w 0) (G (at_ w 0) - 1)) w) (at_ w 4)))] := ⟨hO22, hO19.2⟩
    have sO26 := sO19.fr hf24 (by first | exact (fun h => h) | exact zT1 (by omega) | (show ¬ (_ ∨ _); omega) | (show ¬ (_ ∧ _); omega))
    have sQ27 := sQ19.fr hf24 (by first | exact (fun h => h) | exact zT1 (by omega) | (show ¬ (_ ∨ _); omega) | (show ¬ (_ ∧ _); omega))
    have sV28 := sV19.fr hf24 (by first | exact (fun h => h) | exact zT1 (by omega) | (show ¬ (_ ∨ _); omega) | (show ¬ (_ ∧ _); omega)) (by first | exact (fun h => h) | exact zT1 (by omega) | (show ¬ (_ ∨ _); omega) | (show ¬ (_ ∧ _); omega))
    have sL29 := sL19.fr hf24 (by first | exact (fun h => h) | exact zT1 (by omega) | (show ¬ (_ ∨ _); omega) | (show ¬ (_ ∧ _); omega)) (by first | exact (fun h => h) | exact zT1 (by omega) | (show ¬ (_ ∨ _); omega) | (show ¬ (_ ∧ _); omega))
    have hQ30 := hQ19.fr hf24 (by first | exact (fun h => h) | exact zT1 (by omega) | (show ¬ (_ ∨ _); omega) | (show ¬ (_ ∧ _); omega))
    have hLg31 := hLg19.fr hf24 (by first | exact (fun h => h) | exact zT1 (by omega) | (show ¬ (_ ∨ _); omega) | (show ¬ (_ ∧ _); omega)) (by first | exact (fun h => h) | exact zT1 (by omega) | (show ¬ (_ ∨ _); omega) | (show ¬ (_ ∧ _); omega))
    have hRg32 := hRg19.fr hf24 (by first | exact (fun h => h) | exact zT1 (by omega) | (show ¬ (_ ∨ _); omega) | (show ¬ (_ ∧ _); omega)) (by first | exact (fun h => h) | exact zT1 (by omega) | (show ¬ (_ ∨ _); omega) | (show ¬ (_ ∧ _); omega))
    have hPL33 := hPL19.fr hf24 (by first | exact (fun h => h) | exact zT1 (by omega) | (show ¬ (_ ∨ _); omega) | (show ¬ (_ ∧ _); omega)) (by first | exact (fun h => h) | exact zT1 (by omega) | (show ¬ (_ ∨ _); omega) | (show ¬ (_ ∧ _); omega))
    have hPR34 := hPR19.fr hf24 (by first | exact (fun h => h) | exact zT1 (by omega) | (show ¬ (_ ∨ _); omega) | (show ¬ (_ ∧ _); omega)) (by first | exact (fun h => h) | exact zT1 (by omega) | (show ¬ (_ ∨ _); omega) | (show ¬ (_ ∧ _); omega))
    have hWs35 := hWs19.fr hf24 (fun s h1 h2 => by first | exact (fun h => h) | exact zT1 (by omega) | (show ¬ (_ ∨ _); omega) | (show ¬ (_ ∧ _); omega))
    have hOt36 := hOt19.fr hf24 (fun s h1 h2 h3 => by first | exact (fun h => h) | exact zT1 (by omega) | (show ¬ (_ ∨ _); omega) | (show ¬ (_ ∧ _); omega)) hw.1
    refine z_aload_n 1 O dX2_endWell_26 rfl ?_
    refine z_getf kF_X2_69 O dX2_endWell_27 ho25.1 rfl ?_
    exact z_ireti O dX2_endWell_30 rfl (by omega) (by omega) hpo (by (first | exact hs0 | (have q0 := at_e w 0; have q1 := at_e w 1; have q2 := at_e w 2; rw [sEnd_n (by omega) (by omega) (by omega)]; exact hs0))) (⟨(((((hf5.up (fun s h => by first | exact h.elim | omega | (simp at h ⊢; omega)))).tr (hf18.up (fun s h => by first | exact h.elim | omega | (simp at h ⊢; omega))))).tr (hf24.up (fun s h => by first | exact h.elim | omega | (simp at h ⊢; omega)))), (by unfold sDone; rw [if_pos (by omega)]; have q0 := at_e w 0; have q1 := at_e w 1; have q2 := at_e w 2; have q3 := at_e w 3; rw [show G (at_ w 3) = (sEnd (zU G (at_ w 0) (G (at_ w 0) - 1)) w) (at_ w 3) from (by rw [sEnd_n (by omega) (by omega) (by omega), zU_n (by omega)])]; exact (zSt.mk (w := w) sO26 sQ27 sV28 sL29 (zWkr.mk ho25 hQ30 hLg31 hRg32 hPL33 hPR34 hWs35 (by have q := at_e w 0; have q9 := at_e w 3; exact zU_n (by omega)) zU_s (by have q := at_e w 4; have q9 := at_e w 3; exact zU_n (by omega)) (by have q := at_e w 1; have q9 := at_e w 3; exact zU_n (by omega)) (by have q := at_e w 2; have q9 := at_e w 3; exact zU_n (by omega)) (fun k k0 k1 => by have q := at_e w (70 + k); have q9 := at_e w 3; exact (zU_n (by omega)).symm) (fun k k0 k1 => by have q := at_e w (710 + k); have q9 := at_e w 3; exact (zU_n (by omega)).symm) (hRl9.to (fun i p q => ((hI.dec hd).en.2.2.2.2.2.2.2.2.1 i p q).1) (by have q := at_e w 0; have q9 := at_e w 3; exact zU_n (by omega)) (fun i k9 i0 i1 k0 k1 => by have q := wA_e w i k9; have q9 := at_e w 3; exact zU_n (by omega)))) (hOt36.too (hI.dec hd).en.2.2.2.2.2.2.2.2.2.1 (fun j j0 j1 => by have q := at_e w 0; have q2 := at_e w 1350; have q9 := at_e w 3; exact zU_n (by omega))) hw (by have q9 := at_e w 3; exact zU_n (by omega)) (by have q9 := at_e w 3; exact zU_n (by omega)) (by have q9 := at_e w 3; exact zU_n (by omega)) (by have q9 := at_e w 3; exact zU_n (by omega)) (fun j j0 j1 => (by have q9 := at_e w 3; exact (zU_n (by omega)).symm)) (fun j j0 j1 => (by have q9 := at_e w 3; rw [zU_n (by omega)]))))⟩)

