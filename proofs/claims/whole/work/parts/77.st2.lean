/-! the class: states, what they do (written by program: wip/whole/gen/class5.py) -/
theorem c_X2_setValue {E : zE} (hst : E.1.stackTraces = false) {H : Heap} {r : zH} {a : Nat → Nat} {t : Nat} {G : Int → Int} {N : Int} {w c v : Int} (h : zSt E H r a t G) (hG : sW G N) (hw : 0 ≤ w ∧ w ≤ 2) (hc : 0 ≤ c ∧ c ≤ 15) (hv : 0 ≤ v ∧ v ≤ 99) : zC E yX2_setValue cX2_setValue 5 (some .int) 3 91 [.ref (a t), .ref (a (t + 6 + 16 * w.toNat)), .int (iI c), .int (iI v)] H 1024 20480 (zRi (G c) (zUp E H r a t (sWrite G w c v))) zN := by
  refine zC.of2 (by decide) (Nat.le_of_ble_eq_true rfl) hst ?_
  intro x O hE hpo hpx hH
  subst hE
  change zG x H 0 0 0 [(0, .ref (a t)), (1, .ref (a (t + 6 + 16 * w.toNat))), (2, .int (iI c)), (3, .int (iI v))] []
  obtain ⟨sO, sQ, sV, sL, sWs⟩ := id h
  obtain ⟨hWk, hOt⟩ := zSt_w sWs hw
  obtain ⟨np, f1, f2, V, hO, hQ, hLg, hRg, hPL, hPR, hWs, hRl⟩ := id hWk
  have hm := hG.m hw
  have hl := hG.l hw
  have hI := hG.i hw
  have hvc := hG.2.1 c (by omega) (by omega)
  refine z_aload_n 0 O dX2_setValue_0 rfl ?_
  refine z_getf kF_X2_14 O dX2_setValue_1 sO.1 rfl ?_
  refine z_iload_n 2 O dX2_setValue_4 rfl ?_
  obtain ⟨it1, hRo2⟩ := sV.o
  refine z_Vi [.int (iI c)] [] kM_X2_65 O dX2_setValue_5 (c_X1_get hst sV ⟨by omega, by omega⟩) rfl rfl hRo2.1 (by decide) (Nat.le_of_ble_eq_true rfl) (by omega) (by omega) (Nat.le_of_ble_eq_true rfl) zNx ?_
  rw [show zRg 16 G c = G c from (by unfold zRg; exact if_pos ⟨by omega, by omega⟩)]
  refine z_istore [(4, .int (iI (G c))), (0, .ref (a t)), (1, .ref (a (t + 6 + 16 * w.toNat))), (2, .int (iI c)), (3, .int (iI v))] O dX2_setValue_8 (by decide) rfl ?_
  refine z_aload_n 1 O dX2_setValue_10 rfl ?_
  refine z_getf kF_X2_20 O dX2_setValue_11 sO.1 rfl ?_
  refine z_iload_n 3 O dX2_setValue_14 rfl ?_
  refine z_aload_n 2 O dX2_setValue_15 rfl ?_
  refine z_getf kF_X2_78 O dX2_setValue_16 hO.1 rfl ?_
  obtain ⟨it3, hRo4⟩ := sL.o
  refine z_Vvm [.int (iI c), .int (iI w)] [] kM_X2_39 O dX2_setValue_19 (c_X1_set hst sL ⟨by omega, by omega⟩) rfl rfl hRo4.1 (by decide) (Nat.le_of_ble_eq_true rfl) (by omega) (by omega) (Nat.le_of_ble_eq_true rfl) zNx (fun H5 hp6 hz7 => ?_)
  obtain ⟨hf8, hr9⟩ := hp6
  have hR10 : zRow (zEn x) H5 r (t + 4) (a (t + 4)) 16 16 (zU (fun c => G (16 + c) - 1) c w) := by rw [show zRs 16 (fun c => G (16 + c) - 1) c w = zU (fun c => G (16 + c) - 1) c w from (by unfold zRs; exact if_pos ⟨by omega, by omega⟩)] at hr9; exact hr9
  have sO11 := sO.fr hf8 (by first | exact (fun h => h) | exact zT1 (by omega) | (show ¬ (_ ∨ _); omega) | (show ¬ (_ ∧ _); omega))
  have sQ12 := sQ.fr hf8 (by first | exact (fun h => h) | exact zT1 (by omega) | (show ¬ (_ ∨ _); omega) | (show ¬ (_ ∧ _); omega))
  have sV13 := sV.fr hf8 (by first | exact (fun h => h) | exact zT1 (by omega) | (show ¬ (_ ∨ _); omega) | (show ¬ (_ ∧ _); omega)) (by first | exact (fun h => h) | exact zT1 (by omega) | (show ¬ (_ ∨ _); omega) | (show ¬ (_ ∧ _); omega))
  have hO14 := hO.fr hf8 (by first | exact (fun h => h) | exact zT1 (by omega) | (show ¬ (_ ∨ _); omega) | (show ¬ (_ ∧ _); omega))
  have hQ15 := hQ.fr hf8 (by first | exact (fun h => h) | exact zT1 (by omega) | (show ¬ (_ ∨ _); omega) | (show ¬ (_ ∧ _); omega))
  have hLg16 := hLg.fr hf8 (by first | exact (fun h => h) | exact zT1 (by omega) | (show ¬ (_ ∨ _); omega) | (show ¬ (_ ∧ _); omega)) (by first | exact (fun h => h) | exact zT1 (by omega) | (show ¬ (_ ∨ _); omega) | (show ¬ (_ ∧ _); omega))
  have hRg17 := hRg.fr hf8 (by first | exact (fun h => h) | exact zT1 (by omega) | (show ¬ (_ ∨ _); omega) | (show ¬ (_ ∧ _); omega)) (by first | exact (fun h => h) | exact zT1 (by omega) | (show ¬ (_ ∨ _); omega) | (show ¬ (_ ∧ _); omega))
  have hPL18 := hPL.fr hf8 (by first | exact (fun h => h) | exact zT1 (by omega) | (show ¬ (_ ∨ _); omega) | (show ¬ (_ ∧ _); omega)) (by first | exact (fun h => h) | exact zT1 (by omega) | (show ¬ (_ ∨ _); omega) | (show ¬ (_ ∧ _); omega))
  have hPR19 := hPR.fr hf8 (by first | exact (fun h => h) | exact zT1 (by omega) | (show ¬ (_ ∨ _); omega) | (show ¬ (_ ∧ _); omega)) (by first | exact (fun h => h) | exact zT1 (by omega) | (show ¬ (_ ∨ _); omega) | (show ¬ (_ ∧ _); omega))
  have hWs20 := hWs.fr hf8 (fun s h1 h2 => by first | exact (fun h => h) | exact zT1 (by omega) | (show ¬ (_ ∨ _); omega) | (show ¬ (_ ∧ _); omega))
  have hOt21 := hOt.fr hf8 (fun s h1 h2 h3 => by first | exact (fun h => h) | exact zT1 (by omega) | (show ¬ (_ ∨ _); omega) | (show ¬ (_ ∧ _); omega)) hw.1
  refine z_aload_n 2 O dX2_setValue_22 rfl ?_
  refine z_getf kF_X2_72 O dX2_setValue_23 hO14.1 rfl ?_
  refine z_bipush 100 O dX2_setValue_26 (by decide +kernel) ?_
  refine z_iload_n 3 O dX2_setValue_28 rfl ?_
  refine z_imul O dX2_setValue_29 ?_
  refine z_iload 0 O dX2_setValue_30 rfl ?_
  refine z_iadd O dX2_setValue_32 ?_
  obtain ⟨it22, hRo23⟩ := hLg16.o
  have hcap24 := hLg16.cap
  have hrn26 := hLg16.n
  have hpc25 := zPc_R (n := G (at_ w 1)) hcap24.1 hrn26.1
  refine z_Vvm [.int (iI ((100 * c) + (G c)))] [] kM_X2_33 O dX2_setValue_33 (c_X1_push hst hLg16 (by omega) (Or.inl ⟨by omega, rfl⟩)) rfl rfl hRo23.1 (by decide) (Nat.le_of_ble_eq_true rfl) (by omega) (by omega) (Nat.le_of_ble_eq_true rfl) zNx (fun H27 hp28 hz29 => ?_)
  obtain ⟨r30, hf31, hr32, hc33⟩ := hp28
  have sO34 := sO11.fr hf31 (by first | exact (fun h => h) | exact zT1 (by omega) | (show ¬ (_ ∨ _); omega) | (show ¬ (_ ∧ _); omega))
  have sQ35 := sQ12.fr hf31 (by first | exact (fun h => h) | exact zT1 (by omega) | (show ¬ (_ ∨ _); omega) | (show ¬ (_ ∧ _); omega))
  have sV36 := sV13.fr hf31 (by first | exact (fun h => h) | exact zT1 (by omega) | (show ¬ (_ ∨ _); omega) | (show ¬ (_ ∧ _); omega)) (by first | exact (fun h => h) | exact zT1 (by omega) | (show ¬ (_ ∨ _); omega) | (show ¬ (_ ∧ _); omega))
  have hR37 := hR10.fr hf31 (by first | exact (fun h => h) | exact zT1 (by omega) | (show ¬ (_ ∨ _); omega) | (show ¬ (_ ∧ _); omega)) (by first | exact (fun h => h) | exact zT1 (by omega) | (show ¬ (_ ∨ _); omega) | (show ¬ (_ ∧ _); omega))
  have hO38 := hO14.fr hf31 (by first | exact (fun h => h) | exact zT1 (by omega) | (show ¬ (_ ∨ _); omega) | (show ¬ (_ ∧ _); omega))
  have hQ39 := hQ15.fr hf31 (by first | exact (fun h => h) | exact zT1 (by omega) | (show ¬ (_ ∨ _); omega) | (show ¬ (_ ∧ _); omega))
  have hRg40 := hRg17.fr hf31 (by first | exact (fun h => h) | exact zT1 (by omega) | (show ¬ (_ ∨ _); omega) | (show ¬ (_ ∧ _); omega)) (by first | exact (fun h => h) | exact zT1 (by omega) | (show ¬ (_ ∨ _); omega) | (show ¬ (_ ∧ _); omega))
  have hPL41 := hPL18.fr hf31 (by first | exact (fun h => h) | exact zT1 (by omega) | (show ¬ (_ ∨ _); omega) | (show ¬ (_ ∧ _); omega)) (by first | exact (fun h => h) | exact zT1 (by omega) | (show ¬ (_ ∨ _); omega) | (show ¬ (_ ∧ _); omega))
  have hPR42 := hPR19.fr hf31 (by first | exact (fun h => h) | exact zT1 (by omega) | (show ¬ (_ ∨ _); omega) | (show ¬ (_ ∧ _); omega)) (by first | exact (fun h => h) | exact zT1 (by omega) | (show ¬ (_ ∨ _); omega) | (show ¬ (_ ∧ _); omega))
  have hWs43 := hWs20.fr hf31 (fun s h1 h2 => by first | exact (fun h => h) | exact zT1 (by omega) | (show ¬ (_ ∨ _); omega) | (show ¬ (_ ∧ _); omega))
  have hOt44 := hOt21.fr hf31 (fun s h1 h2 h3 => by first | exact (fun h => h) | exact zT1 (by omega) | (show ¬ (_ ∨ _); omega) | (show ¬ (_ ∧ _); omega)) hw.1
  refine z_aload_n 1 O dX2_setValue_36 rfl ?_
  refine z_getf kF_X2_14 O dX2_setValue_37 sO34.1 rfl ?_
  refine z_iload_n 3 O dX2_setValue_40 rfl ?_
  refine z_iload_n 4 O dX2_setValue_41 rfl ?_
  obtain ⟨it45, hRo46⟩ := sV36.o
  refine z_Vvm [.int (iI c), .int (iI v)] [] kM_X2_39 O dX2_setValue_42 (c_X1_set hst sV36 ⟨by omega, by omega⟩) rfl rfl hRo46.1 (by decide) (Nat.le_of_ble_eq_true rfl) (by omega) (by omega) (Nat.le_of_ble_eq_true rfl) zNx (fun H47 hp48 hz49 => ?_)
  obtain ⟨hf50, hr51⟩ := hp48
  have hR52 : zRow (zEn x) H47 r30 (t + 2) (a (t + 2)) 16 16 (zU G c v) := by rw [show zRs 16 G c v = zU G c v from (by unfold zRs; exact if_pos ⟨by omega, by omega⟩)] at hr51; exact hr51
  have sO53 := sO34.fr hf50 (by first | exact (fun h => h) | exact zT1 (by omega) | (show ¬ (_ ∨ _); omega) | (show ¬ (_ ∧ _); omega))
  have sQ54 := sQ35.fr hf50 (by first | exact (fun h => h) | exact zT1 (by omega) | (show ¬ (_ ∨ _); omega) | (show ¬ (_ ∧ _); omega))
  have hR55 := hR37.fr hf50 (by first | exact (fun h => h) | exact zT1 (by omega) | (show ¬ (_ ∨ _); omega) | (show ¬ (_ ∧ _); omega)) (by first | exact (fun h => h) | exact zT1 (by omega) | (show ¬ (_ ∨ _); omega) | (show ¬ (_ ∧ _); omega))
  have hO56 := hO38.fr hf50 (by first | exact (fun h => h) | exact zT1 (by omega) | (show ¬ (_ ∨ _); omega) | (show ¬ (_ ∧ _); omega))
  have hQ57 := hQ39.fr hf50 (by first | exact (fun h => h) | exact zT1 (by omega) | (show ¬ (_ ∨ _); omega) | (show ¬ (_ ∧ _); omega))
  have hr58 := hr32.fr hf50 (by first | exact (fun h => h) | exact zT1 (by omega) | (show ¬ (_ ∨ _); omega) | (show ¬ (_ ∧ _); omega)) (by first | exact (fun h => h) | exact zT1 (by omega) | (show ¬ (_ ∨ _); omega) | (show ¬ (_ ∧ _); omega))
  have hRg59 := hRg40.fr hf50 (by first | exact (fun h => h) | exact zT1 (by omega) | (show ¬ (_ ∨ _); omega) | (show ¬ (_ ∧ _); omega)) (by first | exact (fun h => h) | exact zT1 (by omega) | (show ¬ (_ ∨ _); omega) | (show ¬ (_ ∧ _); omega))
  have hPL60 := hPL41.fr hf50 (by first | exact (fun h => h) | exact zT1 (by omega) | (show ¬ (_ ∨ _); omega) | (show ¬ (_ ∧ _); omega)) (by first | exact (fun h => h) | exact zT1 (by omega) | (show ¬ (_ ∨ _); omega) | (show ¬ (_ ∧ _); omega))
  have hPR61 := hPR42.fr hf50 (by first | exact (fun h => h) | exact zT1 (by omega) | (show ¬ (_ ∨ _); omega) | (show ¬ (_ ∧ _); omega)) (by first | exact (fun h => h) | exact zT1 (by omega) | (show ¬ (_ ∨ _); omega) | (show ¬ (_ ∧ _); omega))
  have hWs62 := hWs43.fr hf50 (fun s h1 h2 => by first | exact (fun h => h) | exact zT1 (by omega) | (show ¬ (_ ∨ _); omega) | (show ¬ (_ ∧ _); omega))
  have hOt63 := hOt44.fr hf50 (fun s h1 h2 h3 => by first | exact (fun h => h) | exact zT1 (by omega) | (show ¬ (_ ∨ _); omega) | (show ¬ (_ ∧ _); omega)) hw.1
  refine z_aload_n 1 O dX2_setValue_45 rfl ?_
  refine z_dup O dX2_setValue_46 rfl ?_
  refine z_getf kF_X2_52 O dX2_setValue_47 sO53.1 rfl ?_
  refine z_iconst 1 O dX2_setValue_50 (by decide +kernel) ?_
  refine z_iadd O dX2_setValue_51 ?_
  refine z_putf kP_X2_52 O (fun h => nomatch h) dX2_setValue_52 sO53.1 rfl rfl (Nat.le_of_ble_eq_true rfl) (fun H64 hO65 hC66 => ?_)
  have hf67 := sO53.ch hC66
  have ho68 : zO (zEn x) H64 r30 t (a t) 2 [.ref (a (t + 2)), .ref (a (t + 4)), .ref (a (t + 1)), .int (iI (G 32)), .int (iI (G 33)), .int (iI ((G 34) + 1)), .int (iI (G 35))] := ⟨hO65, sO53.2⟩
  have sQ69 := sQ54.fr hf67 (by first | exact (fun h => h) | exact zT1 (by omega) | (show ¬ (_ ∨ _); omega) | (show ¬ (_ ∧ _); omega))
  have hR70 := hR52.fr hf67 (by first | exact (fun h => h) | exact zT1 (by omega) | (show ¬ (_ ∨ _); omega) | (show ¬ (_ ∧ _); omega)) (by first | exact (fun h => h) | exact zT1 (by omega) | (show ¬ (_ ∨ _); omega) | (show ¬ (_ ∧ _); omega))
  have hR71 := hR55.fr hf67 (by first | exact (fun h => h) | exact zT1 (by omega) | (show ¬ (_ ∨ _); omega) | (show ¬ (_ ∧ _); omega)) (by first | exact (fun h => h) | exact zT1 (by omega) | (show ¬ (_ ∨ _); omega) | (show ¬ (_ ∧ _); omega))
  have hO72 := hO56.fr hf67 (by first | exact (fun h => h) | exact zT1 (by omega) | (show ¬ (_ ∨ _); omega) | (show ¬ (_ ∧ _); omega))
  have hQ73 := hQ57.fr hf67 (by first | exact (fun h => h) | exact zT1 (by omega) | (show ¬ (_ ∨ _); omega) | (show ¬ (_ ∧ _); omega))
  have hr74 := hr58.fr hf67 (by first | exact (fun h => h) | exact zT1 (by omega) | (show ¬ (_ ∨ _); omega) | (show ¬ (_ ∧ _); omega)) (by first | exact (fun h => h) | exact zT1 (by omega) | (show ¬ (_ ∨ _); omega) | (show ¬ (_ ∧ _); omega))
  have hRg75 := hRg59.fr hf67 (by first | exact (fun h => h) | exact zT1 (by omega) | (show ¬ (_ ∨ _); omega) | (show ¬ (_ ∧ _); omega)) (by first | exact (fun h => h) | exact zT1 (by omega) | (show ¬ (_ ∨ _); omega) | (show ¬ (_ ∧ _); omega))
  have hPL76 := hPL60.fr hf67 (by first | exact (fun h => h) | exact zT1 (by omega) | (show ¬ (_ ∨ _); omega) | (show ¬ (_ ∧ _); omega)) (by first | exact (fun h => h) | exact zT1 (by omega) | (show ¬ (_ ∨ _); omega) | (show ¬ (_ ∧ _); omega))
  have hPR77 := hPR61.fr hf67 (by first | exact (fun h => h) | exact zT1 (by omega) | (show ¬ (_ ∨ _); omega) | (show ¬ (_ ∧ _); omega)) (by first | exact (fun h => h) | exact zT1 (by omega) | (show ¬ (_ ∨ _); omega) | (show ¬ (_ ∧ _); omega))
  have hWs78 := hWs62.fr hf67 (fun s h1 h2 => by first | exact (fun h => h) | exact zT1 (by omega) | (show ¬ (_ ∨ _); omega) | (show ¬ (_ ∧ _); omega))
  have hOt79 := hOt63.fr hf67 (fun s h1 h2 h3 => by first | exact (fun h => h) | exact zT1 (by omega) | (show ¬ (_ ∨ _); omega) | (show ¬ (_ ∧ _); omega)) hw.1
  refine z_iload 0 O dX2_setValue_55 rfl ?_
  refine z_meter (fun hm1 hm2 => ?_)
  rw [hH] at hm1 hm2
  have p0 := zPh_up (t := t) (w := w.toNat) (d := 0) hc33 (by omega) (by omega) (by omega)
  have hgw : zGw t H r H64 r30 := ⟨by omega, by omega⟩
  exact z_ireti O dX2_setValue_57 rfl (by omega) (by omega) hpo (by rfl) (⟨r30, (((((((hf8.up (fun s h => by first | exact h.elim | omega | (simp at h ⊢; omega)))).tr (hf31.up (fun s h => by first | exact h.elim | omega | (simp at h ⊢; omega))))).tr (hf50.up (fun s h => by first | exact h.elim | omega | (simp at h ⊢; omega))))).tr (hf67.up (fun s h => by first | exact h.elim | omega | (simp at h ⊢; omega)))), hgw, (zSt.mk (w := w) ho68 sQ69 hR70 hR71 (zWkr.mk hO72 hQ73 hr74 hRg75 hPL76 hPR77 hWs78 (by have q := at_e w 0; rw [sWrite_e hw.1 ⟨by omega, by omega⟩ hl.1]; (repeat first | rw [if_pos (by omega)] | rw [if_neg (by omega)])) (by have q := at_e w 3; rw [sWrite_e hw.1 ⟨by omega, by omega⟩ hl.1]; (repeat first | rw [if_pos (by omega)] | rw [if_neg (by omega)])) (by have q := at_e w 4; rw [sWrite_e hw.1 ⟨by omega, by omega⟩ hl.1]; (repeat first | rw [if_pos (by omega)] | rw [if_neg (by omega)])) (by have q := at_e w 1; rw [sWrite_e hw.1 ⟨by omega, by omega⟩ hl.1]; (repeat first | rw [if_pos (by omega)] | rw [if_neg (by omega)])) (by have q := at_e w 2; rw [sWrite_e hw.1 ⟨by omega, by omega⟩ hl.1]; (repeat first | rw [if_pos (by omega)] | rw [if_neg (by omega)])) (fun k k0 k1 => by have q := at_e w (70 + k); rw [sWrite_e hw.1 ⟨by omega, by omega⟩ hl.1]; show zU _ _ _ _ = _; unfold zU; by_cases z : k = G (at_ w 1); (· rw [if_pos z]; (repeat first | rw [if_pos (by omega)] | rw [if_neg (by omega)])); (· rw [if_neg z]; (repeat first | rw [if_pos (by omega)] | rw [if_neg (by omega)]))) (fun k k0 k1 => by have q := at_e w (710 + k); rw [sWrite_e hw.1 ⟨by omega, by omega⟩ hl.1]; (repeat first | rw [if_pos (by omega)] | rw [if_neg (by omega)])) (hRl.to (fun i p q => (hG.k hw p q).2.2.1) (by have q := at_e w 0; rw [sWrite_e hw.1 ⟨by omega, by omega⟩ hl.1]; (repeat first | rw [if_pos (by omega)] | rw [if_neg (by omega)])) (fun i k i0 i1 k0 k1 => by have q := wA_e w i k; rw [sWrite_e hw.1 ⟨by omega, by omega⟩ hl.1]; (repeat first | rw [if_pos (by omega)] | rw [if_neg (by omega)])))) (hOt79.too hI.2.2.2.2.2.2.2.2.2.1 (fun j j0 j1 => by have q := at_e w 0; have q2 := at_e w 1350; rw [sWrite_e hw.1 ⟨by omega, by omega⟩ hl.1]; (repeat first | rw [if_pos (by omega)] | rw [if_neg (by omega)]))) hw (by rw [sWrite_e hw.1 ⟨by omega, by omega⟩ hl.1]; (repeat first | rw [if_pos (by omega)] | rw [if_neg (by omega)])) (by rw [sWrite_e hw.1 ⟨by omega, by omega⟩ hl.1]; (repeat first | rw [if_pos (by omega)] | rw [if_neg (by omega)])) (by rw [sWrite_e hw.1 ⟨by omega, by omega⟩ hl.1]; (repeat first | rw [if_pos (by omega)] | rw [if_neg (by omega)])) (by rw [sWrite_e hw.1 ⟨by omega, by omega⟩ hl.1]; (repeat first | rw [if_pos (by omega)] | rw [if_neg (by omega)])) (fun j j0 j1 => by rw [sWrite_e hw.1 ⟨by omega, by omega⟩ hl.1]; show zU _ _ _ _ = _; unfold zU; by_cases z : j = c; (· rw [if_pos z]; (repeat first | rw [if_pos (by omega)] | rw [if_neg (by omega)])); (· rw [if_neg z]; (repeat first | rw [if_pos (by omega)] | rw [if_neg (by omega)]))) (fun j j0 j1 => by rw [sWrite_e hw.1 ⟨by omega, by omega⟩ hl.1]; show zU _ _ _ _ = _; unfold zU; by_cases z : j = c; (· rw [if_pos z]; (repeat first | rw [if_pos (by omega)] | rw [if_neg (by omega)]); (try omega)); (· rw [if_neg z]; (repeat first | rw [if_pos (by omega)] | rw [if_neg (by omega)]))))⟩)

theorem c_X2_takeRegret {E : zE} (hst : E.1.stackTraces = false) {H : Heap} {r : zH} {a : Nat → Nat} {t : Nat} {G : Int → Int} {N : Int} {w c v : Int} (h : zSt E H r a t G) (hG : sW G N) (hN : N ≤ 639) (hw : 0 ≤ w ∧ w ≤ 2) (hc : 0 ≤ c ∧ c ≤ 15) (hv : 1 ≤ v ∧ v ≤ 99) (hd : 0 < G (at_ w 0)) : zC E yX2_takeRegret cX2_takeRegret 4 (some .int) 3 91 [.ref (a t), .ref (a (t + 6 + 16 * w.toNat)), .int (iI c), .int (iI v)] H 1024 20480 (zRi (sRg (sRegret G w c v) w (G (at_ w 0) - 1)) (zUp E H r a t (sRegret G w c v))) zN := by
  refine zC.of2 (by decide) (Nat.le_of_ble_eq_true rfl) hst ?_
  intro x O hE hpo hpx hH
  subst hE
  change zG x H 0 0 0 [(0, .ref (a t)), (1, .ref (a (t + 6 + 16 * w.toNat))), (2, .int (iI c)), (3, .int (iI v))] []
  obtain ⟨sO, sQ, sV, sL, sWs⟩ := id h
  obtain ⟨hWk, hOt⟩ := zSt_w sWs hw
  obtain ⟨np, f1, f2, V, hO, hQ, hLg, hRg, hPL, hPR, hWs, hRl⟩ := id hWk
  have hm := hG.m hw
  have hl := hG.l hw
  have hI := hG.i hw
  refine z_aload_n 0 O dX2_takeRegret_0 rfl ?_
  refine z_getf kF_X2_20 O dX2_takeRegret_1 sO.1 rfl ?_
  refine z_iload_n 2 O dX2_takeRegret_4 rfl ?_
  refine z_aload_n 1 O dX2_takeRegret_5 rfl ?_
  refine z_getf kF_X2_78 O dX2_takeRegret_6 hO.1 rfl ?_
  obtain ⟨it1, hRo2⟩ := sL.o
  refine z_Vvm [.int (iI c), .int (iI w)] [] kM_X2_39 O dX2_takeRegret_9 (c_X1_set hst sL ⟨by omega, by omega⟩) rfl rfl hRo2.1 (by decide) (Nat.le_of_ble_eq_true rfl) (by omega) (by omega) (Nat.le_of_ble_eq_true rfl) zNx (fun H3 hp4 hz5 => ?_)
  obtain ⟨hf6, hr7⟩ := hp4
  have hR8 : zRow (zEn x) H3 r (t + 4) (a (t + 4)) 16 16 (zU (fun c => G (16 + c) - 1) c w) := by rw [show zRs 16 (fun c => G (16 + c) - 1) c w = zU (fun c => G (16 + c) - 1) c w from (by unfold zRs; exact if_pos ⟨by omega, by omega⟩)] at hr7; exact hr7
  have sO9 := sO.fr hf6 (by first | exact (fun h => h) | exact zT1 (by omega) | (show ¬ (_ ∨ _); omega) | (show ¬ (_ ∧ _); omega))
  have sQ10 := sQ.fr hf6 (by first | exact (fun h => h) | exact zT1 (by omega) | (show ¬ (_ ∨ _); omega) | (show ¬ (_ ∧ _); omega))
  have sV11 := sV.fr hf6 (by first | exact (fun h => h) | exact zT1 (by omega) | (show ¬ (_ ∨ _); omega) | (show ¬ (_ ∧ _); omega)) (by first | exact (fun h => h) | exact zT1 (by omega) | (show ¬ (_ ∨ _); omega) | (show ¬ (_ ∧ _); omega))
  have hO12 := hO.fr hf6 (by first | exact (fun h => h) | exact zT1 (by omega) | (show ¬ (_ ∨ _); omega) | (show ¬ (_ ∧ _); omega))
  have hQ13 := hQ.fr hf6 (by first | exact (fun h => h) | exact zT1 (by omega) | (show ¬ (_ ∨ _); omega) | (show ¬ (_ ∧ _); omega))
  have hLg14 := hLg.fr hf6 (by first | exact (fun h => h) | exact zT1 (by omega) | (show ¬ (_ ∨ _); omega) | (show ¬ (_ ∧ _); omega)) (by first | exact (fun h => h) | exact zT1 (by omega) | (show ¬ (_ ∨ _); omega) | (show ¬ (_ ∧ _); omega))
  have hRg15 := hRg.fr hf6 (by first | exact (fun h => h) | exact zT1 (by omega) | (show ¬ (_ ∨ _); omega) | (show ¬ (_ ∧ _); omega)) (by first | exact (fun h => h) | exact zT1 (by omega) | (show ¬ (_ ∨ _); omega) | (show ¬ (_ ∧ _); omega))
  have hPL16 := hPL.fr hf6 (by first | exact (fun h => h) | exact zT1 (by omega) | (show ¬ (_ ∨ _); omega) | (show ¬ (_ ∧ _); omega)) (by first | exact (fun h => h) | exact zT1 (by omega) | (show ¬ (_ ∨ _); omega) | (show ¬ (_ ∧ _); omega))
  have hPR17 := hPR.fr hf6 (by first | exact (fun h => h) | exact zT1 (by omega) | (show ¬ (_ ∨ _); omega) | (show ¬ (_ ∧ _); omega)) (by first | exact (fun h => h) | exact zT1 (by omega) | (show ¬ (_ ∨ _); omega) | (show ¬ (_ ∧ _); omega))
  have hWs18 := hWs.fr hf6 (fun s h1 h2 => by first | exact (fun h => h) | exact zT1 (by omega) | (show ¬ (_ ∨ _); omega) | (show ¬ (_ ∧ _); omega))
  have hOt19 := hOt.fr hf6 (fun s h1 h2 h3 => by first | exact (fun h => h) | exact zT1 (by omega) | (show ¬ (_ ∨ _); omega) | (show ¬ (_ ∧ _); omega)) hw.1
  refine z_aload_n 1 O dX2_takeRegret_12 rfl ?_
  refine z_getf kF_X2_159 O dX2_takeRegret_13 hO12.1 rfl ?_
  refine z_bipush 100 O dX2_takeRegret_16 (by decide +kernel) ?_
  refine z_iload_n 2 O dX2_takeRegret_18 rfl ?_
  refine z_imul O dX2_takeRegret_19 ?_
  refine z_iload_n 3 O dX2_takeRegret_20 rfl ?_
  refine z_iadd O dX2_takeRegret_21 ?_
  obtain ⟨it20, hRo21⟩ := hRg15.o
  have hcap22 := hRg15.cap
  have hrn24 := hRg15.n
  have hpc23 := zPc_R (n := G (at_ w 2)) hcap22.1 hrn24.1
  refine z_Vvm [.int (iI ((100 * c) + v))] [] kM_X2_33 O dX2_takeRegret_22 (c_X1_push hst hRg15 (by omega) (Or.inl ⟨by omega, rfl⟩)) rfl rfl hRo21.1 (by decide) (Nat.le_of_ble_eq_true rfl) (by omega) (by omega) (Nat.le_of_ble_eq_true rfl) zNx (fun H25 hp26 hz27 => ?_)
  obtain ⟨r28, hf29, hr30, hc31⟩ := hp26
  have sO32 := sO9.fr hf29 (by first | exact (fun h => h) | exact zT1 (by omega) | (show ¬ (_ ∨ _); omega) | (show ¬ (_ ∧ _); omega))
  have sQ33 := sQ10.fr hf29 (by first | exact (fun h => h) | exact zT1 (by omega) | (show ¬ (_ ∨ _); omega) | (show ¬ (_ ∧ _); omega))
  have sV34 := sV11.fr hf29 (by first | exact (fun h => h) | exact zT1 (by omega) | (show ¬ (_ ∨ _); omega) | (show ¬ (_ ∧ _); omega)) (by first | exact (fun h => h) | exact zT1 (by omega) | (show ¬ (_ ∨ _); omega) | (show ¬ (_ ∧ _); omega))
  have hR35 := hR8.fr hf29 (by first | exact (fun h => h) | exact zT1 (by omega) | (show ¬ (_ ∨ _); omega) | (show ¬ (_ ∧ _); omega)) (by first | exact (fun h => h) | exact zT1 (by omega) | (show ¬ (_ ∨ _); omega) | (show ¬ (_ ∧ _); omega))
  have hO36 := hO12.fr hf29 (by first | exact (fun h => h) | exact zT1 (by omega) | (show ¬ (_ ∨ _); omega) | (show ¬ (_ ∧ _); omega))
  have hQ37 := hQ13.fr hf29 (by first | exact (fun h => h) | exact zT1 (by omega) | (show ¬ (_ ∨ _); omega) | (show ¬ (_ ∧ _); omega))
  have hLg38 := hLg14.fr hf29 (by first | exact (fun h => h) | exact zT1 (by omega) | (show ¬ (_ ∨ _); omega) | (show ¬ (_ ∧ _); omega)) (by first | exact (fun h => h) | exact zT1 (by omega) | (show ¬ (_ ∨ _); omega) | (show ¬ (_ ∧ _); omega))
  have hPL39 := hPL16.fr hf29 (by first | exact (fun h => h) | exact zT1 (by omega) | (show ¬ (_ ∨ _); omega) | (show ¬ (_ ∧ _); omega)) (by first | exact (fun h => h) | exact zT1 (by omega) | (show ¬ (_ ∨ _); omega) | (show ¬ (_ ∧ _); omega))
  have hPR40 := hPR17.fr hf29 (by first | exact (fun h => h) | exact zT1 (by omega) | (show ¬ (_ ∨ _); omega) | (show ¬ (_ ∧ _); omega)) (by first | exact (fun h => h) | exact zT1 (by omega) | (show ¬ (_ ∨ _); omega) | (show ¬ (_ ∧ _); omega))
  have hWs41 := hWs18.fr hf29 (fun s h1 h2 => by first | exact (fun h => h) | exact zT1 (by omega) | (show ¬ (_ ∨ _); omega) | (show ¬ (_ ∧ _); omega))
  have hOt42 := hOt19.fr hf29 (fun s h1 h2 h3 => by first | exact (fun h => h) | exact zT1 (by omega) | (show ¬ (_ ∨ _); omega) | (show ¬ (_ ∧ _); omega)) hw.1
  refine z_aload_n 1 O dX2_takeRegret_25 rfl ?_
  refine z_aload_n 1 O dX2_takeRegret_26 rfl ?_
  refine z_getf kF_X2_69 O dX2_takeRegret_27 hO36.1 rfl ?_
  refine z_iconst 1 O dX2_takeRegret_30 (by decide +kernel) ?_
  refine z_isub O dX2_takeRegret_31 ?_
  have h43 : zWkr (zEn x) H25 r28 a (t + 6 + 16 * w.toNat) w (sRegret G w c v) := (zWkr.mk hO36 hQ37 hLg38 hr30 hPL39 hPR40 hWs41 (by have q := at_e w 0; rw [sRegret_e _ hw.1 ⟨by omega, by omega⟩]; (repeat first | rw [if_pos (by omega)] | rw [if_neg (by omega)])) (by have q := at_e w 3; rw [sRegret_e _ hw.1 ⟨by omega, by omega⟩]; (repeat first | rw [if_pos (by omega)] | rw [if_neg (by omega)])) (by have q := at_e w 4; rw [sRegret_e _ hw.1 ⟨by omega, by omega⟩]; (repeat first | rw [if_pos (by omega)] | rw [if_neg (by omega)])) (by have q := at_e w 1; rw [sRegret_e _ hw.1 ⟨by omega, by omega⟩]; (repeat first | rw [if_pos (by omega)] | rw [if_neg (by omega)])) (by have q := at_e w 2; rw [sRegret_e _ hw.1 ⟨by omega, by omega⟩]; (repeat first | rw [if_pos (by omega)] | rw [if_neg (by omega)])) (fun k k0 k1 => by have q := at_e w (70 + k); rw [sRegret_e _ hw.1 ⟨by omega, by omega⟩]; (repeat first | rw [if_pos (by omega)] | rw [if_neg (by omega)])) (fun k k0 k1 => by have q := at_e w (710 + k); rw [sRegret_e _ hw.1 ⟨by omega, by omega⟩]; show zU _ _ _ _ = _; unfold zU; by_cases z : k = G (at_ w 2); (· rw [if_pos z]; (repeat first | rw [if_pos (by omega)] | rw [if_neg (by omega)])); (· rw [if_neg z]; (repeat first | rw [if_pos (by omega)] | rw [if_neg (by omega)]))) (hRl.to (fun i p q => (hG.k hw p q).2.2.1) (by have q := at_e w 0; rw [sRegret_e _ hw.1 ⟨by omega, by omega⟩]; (repeat first | rw [if_pos (by omega)] | rw [if_neg (by omega)])) (fun i k i0 i1 k0 k1 => by have q := wA_e w i k; rw [sRegret_e _ hw.1 ⟨by omega, by omega⟩]; (repeat first | rw [if_pos (by omega)] | rw [if_neg (by omega)]))))
  refine z_Vi [.int (iI ((G (at_ w 0)) - 1))] [] kM_X2_124 O dX2_takeRegret_32 (by have c9 := c_X4_countRegrets hst h43 (hG.regret hw ⟨by omega, by omega⟩ ⟨by omega, by omega⟩ hN) hw (i := (G (at_ w 0)) - 1) (by omega); rw [show sRegret G w c v (at_ w 0) = G (at_ w 0) from (by have q := at_e w 0; rw [sRegret_e _ hw.1 ⟨by omega, by omega⟩]; (repeat first | rw [if_pos (by omega)] | rw [if_neg (by omega)])), if_pos (by omega)] at c9; exact c9) rfl rfl hO36.1 (by decide) (Nat.le_of_ble_eq_true rfl) (by omega) (by omega) (Nat.le_of_ble_eq_true rfl) zNx ?_
  refine z_meter (fun hm1 hm2 => ?_)
  rw [hH] at hm1 hm2
  have p0 := zPh_up (t := t) (w := w.toNat) (d := 1) hc31 (by omega) (by omega) (by omega)
  have hgw : zGw t H r H25 r28 := ⟨by omega, by omega⟩
  exact z_ireti O dX2_takeRegret_35 rfl (by omega) (by omega) hpo (by rfl) (⟨r28, (((hf6.up (fun s h => by first | exact h.elim | omega | (simp at h ⊢; omega)))).tr (hf29.up (fun s h => by first | exact h.elim | omega | (simp at h ⊢; omega)))), hgw, (zSt.mk (w := w) sO32 sQ33 sV34 hR35 h43 (hOt42.too hI.2.2.2.2.2.2.2.2.2.1 (fun j j0 j1 => by have q := at_e w 0; have q2 := at_e w 1350; rw [sRegret_e _ hw.1 ⟨by omega, by omega⟩]; (repeat first | rw [if_pos (by omega)] | rw [if_neg (by omega)]))) hw (by rw [sRegret_e _ hw.1 ⟨by omega, by omega⟩]; (repeat first | rw [if_pos (by omega)] | rw [if_neg (by omega)])) (by rw [sRegret_e _ hw.1 ⟨by omega, by omega⟩]; (repeat first | rw [if_pos (by omega)] | rw [if_neg (by omega)])) (by rw [sRegret_e _ hw.1 ⟨by omega, by omega⟩]; (repeat first | rw [if_pos (by omega)] | rw [if_neg (by omega)])) (by rw [sRegret_e _ hw.1 ⟨by omega, by omega⟩]; (repeat first | rw [if_pos (by omega)] | rw [if_neg (by omega)])) (fun j j0 j1 => by rw [sRegret_e _ hw.1 ⟨by omega, by omega⟩]; (repeat first | rw [if_pos (by omega)] | rw [if_neg (by omega)])) (fun j j0 j1 => by rw [sRegret_e _ hw.1 ⟨by omega, by omega⟩]; show zU _ _ _ _ = _; unfold zU; by_cases z : j = c; (· rw [if_pos z]; (repeat first | rw [if_pos (by omega)] | rw [if_neg (by omega)]); (try omega)); (· rw [if_neg z]; (repeat first | rw [if_pos (by omega)] | rw [if_neg (by omega)]))))⟩)

