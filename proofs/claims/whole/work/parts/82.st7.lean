/-! the class: deeds (written by program: wip/whole/gen/class10.py) -/
theorem alD_s {G : Int → Int} {k w u v : Int} (h : alD G k w u v = true) : (k = 0 → G (at_ w 0) < 5) ∧ (k = 1 → 0 < G (at_ w 0)) ∧ (k = 2 → 0 < G (at_ w 0)) ∧ (k = 3 → 0 < G (at_ w 0) ∧ G (sIn G w 2) < 4) ∧ (k = 4 → sHp G w u = true) ∧ (k = 5 → (0 ≤ u ∧ u ≤ 15) ∧ (1 ≤ v ∧ v ≤ 99) ∧ 0 < G (at_ w 0) ∨ (k = 5 ∧ ((0 ≤ u ∧ u ≤ 15) ∧ (1 ≤ v ∧ v ≤ 99) ∧ ¬ G (at_ w 0) = 0))) ∧ (k = 6 → (0 ≤ u ∧ u ≤ 15) ∧ (0 ≤ v ∧ v ≤ 99) ∧ sRe G w u = 0) := by
  unfold alD at h
  refine ⟨fun e => ?_, fun e => ?_, fun e => ?_, fun e => ?_, fun e => ?_, fun e => ?_, fun e => ?_⟩ <;> subst e <;> simp only [if_pos, if_neg, reduceCtorEq, if_true, if_false, show ¬ ((1 : Int) = 0) by decide, show ¬ ((2 : Int) = 0) by decide, show ¬ ((2 : Int) = 1) by decide, show ¬ ((3 : Int) = 0) by decide, show ¬ ((3 : Int) = 1) by decide, show ¬ ((3 : Int) = 2) by decide, show ¬ ((4 : Int) = 0) by decide, show ¬ ((4 : Int) = 1) by decide, show ¬ ((4 : Int) = 2) by decide, show ¬ ((4 : Int) = 3) by decide, show ¬ ((5 : Int) = 0) by decide, show ¬ ((5 : Int) = 1) by decide, show ¬ ((5 : Int) = 2) by decide, show ¬ ((5 : Int) = 3) by decide, show ¬ ((5 : Int) = 4) by decide, show ¬ ((6 : Int) = 0) by decide, show ¬ ((6 : Int) = 1) by decide, show ¬ ((6 : Int) = 2) by decide, show ¬ ((6 : Int) = 3) by decide, show ¬ ((6 : Int) = 4) by decide, show ¬ ((6 : Int) = 5) by decide] at h
  · exact (sCb_t.mp h).1
  · exact (sOp_t.mp h).1
  · exact of_decide_eq_true h
  · exact ⟨(sCp_t.mp h).1, (sCp_t.mp h).2.2⟩
  · unfold gT at h
    cases hh : sHp G w u with
    | true => rfl
    | false => rw [hh] at h; exact absurd h (by simp)
  · rw [Bool.and_eq_true, Bool.and_eq_true] at h
    exact Or.inr ⟨rfl, sBt_t.mp h.1, sBt_t.mp h.2.1, sRe_m (sCr_t.mp h.2.2).1⟩
  · rw [Bool.and_eq_true, Bool.and_eq_true] at h
    exact ⟨sBt_t.mp h.1, sBt_t.mp h.2.1, of_decide_eq_true h.2.2⟩
theorem sBegin_o {G : Int → Int} {w j : Int} (hd : 0 ≤ G (at_ w 0) ∧ G (at_ w 0) < 5) (h : ¬ (at_ w 0 ≤ j ∧ j < at_ w 1350)) : sBegin G w j = G j := by
  have q := at_e w 0
  have q1 := at_e w 1350
  have p0 := wA_e w (G (at_ w 0)) 0
  have p1 := wA_e w (G (at_ w 0)) 1
  unfold sBegin
  rw [zU_n (by omega), zU_n (by omega), zU_n (by omega), zFl_n (by omega)]
theorem sPoint_o {G : Int → Int} {w j : Int} (hd : 0 < G (at_ w 0) ∧ G (at_ w 0) ≤ 5) (hp : 0 ≤ G (sIn G w 2) ∧ G (sIn G w 2) < 4) (h : ¬ (at_ w 0 ≤ j ∧ j < at_ w 1350)) : sPoint G w j = G j := by
  have q := at_e w 0
  have q1 := at_e w 1350
  have p0 : sIn G w 2 = 36 + 1350 * w + (5 + 13 * (G (at_ w 0) - 1) + 2) := rfl
  have p1 : sIn G w (5 + G (sIn G w 2)) = 36 + 1350 * w + (5 + 13 * (G (at_ w 0) - 1) + (5 + G (sIn G w 2))) := rfl
  have p2 : sIn G w (9 + G (sIn G w 2)) = 36 + 1350 * w + (5 + 13 * (G (at_ w 0) - 1) + (9 + G (sIn G w 2))) := rfl
  rw [sPoint_e, if_neg (by omega), if_neg (by omega), if_neg (by omega)]
theorem c_X2_perform {E : zE} (hst : E.1.stackTraces = false) {H : Heap} {r : zH} {a : Nat → Nat} {t : Nat} {G : Int → Int} {N : Int} {w k u v : Int} (h : zSt E H r a t G) (hG : sW G N) (hN : N ≤ 639) (hw : 0 ≤ w ∧ w ≤ 2) (hk : 0 ≤ k ∧ k ≤ 6) (hu : zR u) (hv : zR v) (ha : alD G k w u v = true) : zC E yX2_perform cX2_perform 5 (some .int) 5 140 [.ref (a t), .int (iI k), .ref (a (t + 6 + 16 * w.toNat)), .int (iI u), .int (iI v)] H 1024 20480 (zRi (vlD G k w u v) (zUp E H r a t (opD G k w u v))) zN := by
  refine zC.of2 (by decide) (Nat.le_of_ble_eq_true rfl) hst ?_
  intro x O hE hpo hpx hH
  subst hE
  change zG x H 0 0 0 [(0, .ref (a t)), (1, .int (iI k)), (2, .ref (a (t + 6 + 16 * w.toNat))), (3, .int (iI u)), (4, .int (iI v))] []
  obtain ⟨sO, sQ, sV, sL, sWs⟩ := id h
  obtain ⟨hWk, hOt⟩ := zSt_w sWs hw
  have hm := hG.m hw
  have hal := alD_s ha
  refine z_iload_n 1 O dX2_perform_0 rfl ?_
  rcases (show k = 0 ∨ k = 1 ∨ k = 2 ∨ k = 3 ∨ k = 4 ∨ k = 5 ∨ k = 6 ∨ (k < 0 ∨ 6 < k) by omega) with c_1 | c_1 | c_1 | c_1 | c_1 | c_1 | c_1 | c_1
  · skip
    refine z_tsw 0 44 O dX2_perform_1 ⟨by omega, by omega⟩ (by omega) (by decide) rfl (by decide) ?_
    refine z_aload_n 2 O dX2_perform_44 rfl ?_
    obtain ⟨_, _, _, _, hO1, _⟩ := id hWk
    refine z_Vim [] [] kM_X2_127 O dX2_perform_45 (c_X4_startWork hst hWk hG hw (hal.1 (by omega))) rfl rfl hO1.1 (by decide) (Nat.le_of_ble_eq_true rfl) (by omega) (by omega) (Nat.le_of_ble_eq_true rfl) zNx (fun H2 hp3 hz4 => ?_)
    obtain ⟨hf5, hWk6⟩ := hp3
    have sO7 := sO.fr hf5 (by first | exact (fun h => h) | exact zT1 (by omega) | (show ¬ (_ ∨ _); omega) | (show ¬ (_ ∧ _); omega))
    have sQ8 := sQ.fr hf5 (by first | exact (fun h => h) | exact zT1 (by omega) | (show ¬ (_ ∨ _); omega) | (show ¬ (_ ∧ _); omega))
    have sV9 := sV.fr hf5 (by first | exact (fun h => h) | exact zT1 (by omega) | (show ¬ (_ ∨ _); omega) | (show ¬ (_ ∧ _); omega)) (by first | exact (fun h => h) | exact zT1 (by omega) | (show ¬ (_ ∨ _); omega) | (show ¬ (_ ∧ _); omega))
    have sL10 := sL.fr hf5 (by first | exact (fun h => h) | exact zT1 (by omega) | (show ¬ (_ ∨ _); omega) | (show ¬ (_ ∧ _); omega)) (by first | exact (fun h => h) | exact zT1 (by omega) | (show ¬ (_ ∨ _); omega) | (show ¬ (_ ∧ _); omega))
    have hOt11 := hOt.fr hf5 (fun s h1 h2 h3 => by first | exact (fun h => h) | exact zT1 (by omega) | (show ¬ (_ ∨ _); omega) | (show ¬ (_ ∧ _); omega)) hw.1
    have hz9 : zSt (zEn x) H2 r a t (sBegin G w) := (zSt.mk (w := w) sO7 sQ8 sV9 sL10 hWk6 (hOt11.too (hG.i hw).2.2.2.2.2.2.2.2.2.1 (fun j j0 j1 => sBegin_o ⟨hm.1, hal.1 (by omega)⟩ j1)) hw (by have q := at_e w 0; exact sBegin_o ⟨hm.1, hal.1 (by omega)⟩ (by omega)) (by have q := at_e w 0; exact sBegin_o ⟨hm.1, hal.1 (by omega)⟩ (by omega)) (by have q := at_e w 0; exact sBegin_o ⟨hm.1, hal.1 (by omega)⟩ (by omega)) (by have q := at_e w 0; exact sBegin_o ⟨hm.1, hal.1 (by omega)⟩ (by omega)) (fun j j0 j1 => (by have q := at_e w 0; exact (sBegin_o ⟨hm.1, hal.1 (by omega)⟩ (by omega)).symm)) (fun j j0 j1 => (by have q := at_e w 0; rw [sBegin_o ⟨hm.1, hal.1 (by omega)⟩ (by omega)])))
    refine z_meter (fun hm1 hm2 => ?_)
    rw [hH] at hm1 hm2
    have hgw : zGw t H r H2 r := ⟨by omega, by omega⟩
    exact z_ireti O dX2_perform_48 rfl (by omega) (by omega) hpo (by unfold vlD; (repeat first | rw [if_pos (by omega)] | rw [if_neg (by omega)])) (⟨r, (hf5.up (fun s h => by first | exact h.elim | omega | (simp at h ⊢; omega))), hgw, (by unfold opD; (repeat first | rw [if_pos (by omega)] | rw [if_neg (by omega)]); exact hz9)⟩)
  · skip
    refine z_tsw 1 49 O dX2_perform_1 ⟨by omega, by omega⟩ (by omega) (by decide) rfl (by decide) ?_
    refine z_aload_n 0 O dX2_perform_49 rfl ?_
    refine z_aload_n 2 O dX2_perform_50 rfl ?_
    refine z_Vim [.ref (a (t + 6 + 16 * w.toNat))] [] kM_X2_131 O dX2_perform_51 (c_X2_endWell hst h hG hw (hal.2.1 (by omega))) rfl rfl sO.1 (by decide) (Nat.le_of_ble_eq_true rfl) (by omega) (by omega) (Nat.le_of_ble_eq_true rfl) zNx (fun H12 hp13 hz14 => ?_)
    obtain ⟨hf15, hz16⟩ := hp13
    refine z_meter (fun hm1 hm2 => ?_)
    rw [hH] at hm1 hm2
    have hgw : zGw t H r H12 r := ⟨by omega, by omega⟩
    exact z_ireti O dX2_perform_54 rfl (by omega) (by omega) hpo (by unfold vlD; (repeat first | rw [if_pos (by omega)] | rw [if_neg (by omega)])) (⟨r, (hf15.up (fun s h => by first | exact h.elim | omega | (simp at h ⊢; omega))), hgw, (by unfold opD; (repeat first | rw [if_pos (by omega)] | rw [if_neg (by omega)]); exact hz16)⟩)
  · skip
    refine z_tsw 2 55 O dX2_perform_1 ⟨by omega, by omega⟩ (by omega) (by decide) rfl (by decide) ?_
    refine z_aload_n 0 O dX2_perform_55 rfl ?_
    refine z_aload_n 2 O dX2_perform_56 rfl ?_
    refine z_Vim [.ref (a (t + 6 + 16 * w.toNat))] [] kM_X2_135 O dX2_perform_57 (c_X2_endBadly hst h hG hw (hal.2.2.1 (by omega))) rfl rfl sO.1 (by decide) (Nat.le_of_ble_eq_true rfl) (by omega) (by omega) (Nat.le_of_ble_eq_true rfl) zNx (fun H17 hp18 hz19 => ?_)
    obtain ⟨r20, hf21, hg22, hz23⟩ := hp18
    exact z_ireti O dX2_perform_60 rfl (by omega) (by omega) hpo (by unfold vlD; (repeat first | rw [if_pos (by omega)] | rw [if_neg (by omega)])) (⟨r20, (hf21.up (fun s h => by first | exact h.elim | omega | (simp at h ⊢; omega))), hg22, (by unfold opD; (repeat first | rw [if_pos (by omega)] | rw [if_neg (by omega)]); exact hz23)⟩)
  · skip
    refine z_tsw 3 61 O dX2_perform_1 ⟨by omega, by omega⟩ (by omega) (by decide) rfl (by decide) ?_
    refine z_aload_n 2 O dX2_perform_61 rfl ?_
    have hc3 := hal.2.2.2.1 (by omega)
    have hi3 := (hG.in hw hc3.1).2.2.1
    obtain ⟨_, _, _, _, hO24, _⟩ := id hWk
    refine z_Vim [] [] kM_X2_138 O dX2_perform_62 (c_X4_setPoint hst hWk hG hw hc3.1 hc3.2 rfl (ts := t)) rfl rfl hO24.1 (by decide) (Nat.le_of_ble_eq_true rfl) (by omega) (by omega) (Nat.le_of_ble_eq_true rfl) zNx (fun H25 hp26 hz27 => ?_)
    obtain ⟨r28, hf29, hWk30, hg31⟩ := hp26
    have sO32 := sO.fr hf29 (by first | exact (fun h => h) | exact zT1 (by omega) | (show ¬ (_ ∨ _); omega) | (show ¬ (_ ∧ _); omega))
    have sQ33 := sQ.fr hf29 (by first | exact (fun h => h) | exact zT1 (by omega) | (show ¬ (_ ∨ _); omega) | (show ¬ (_ ∧ _); omega))
    have sV34 := sV.fr hf29 (by first | exact (fun h => h) | exact zT1 (by omega) | (show ¬ (_ ∨ _); omega) | (show ¬ (_ ∧ _); omega)) (by first | exact (fun h => h) | exact zT1 (by omega) | (show ¬ (_ ∨ _); omega) | (show ¬ (_ ∧ _); omega))
    have sL35 := sL.fr hf29 (by first | exact (fun h => h) | exact zT1 (by omega) | (show ¬ (_ ∨ _); omega) | (show ¬ (_ ∧ _); omega)) (by first | exact (fun h => h) | exact zT1 (by omega) | (show ¬ (_ ∨ _); omega) | (show ¬ (_ ∧ _); omega))
    have hOt36 := hOt.fr hf29 (fun s h1 h2 h3 => by first | exact (fun h => h) | exact zT1 (by omega) | (show ¬ (_ ∨ _); omega) | (show ¬ (_ ∧ _); omega)) hw.1
    have hz9 : zSt (zEn x) H25 r28 a t (sPoint G w) := (zSt.mk (w := w) sO32 sQ33 sV34 sL35 hWk30 (hOt36.too (hG.i hw).2.2.2.2.2.2.2.2.2.1 (fun j j0 j1 => sPoint_o ⟨hc3.1, hm.2⟩ ⟨hi3.1, hc3.2⟩ j1)) hw (by have q := at_e w 0; exact sPoint_o ⟨hc3.1, hm.2⟩ ⟨hi3.1, hc3.2⟩ (by omega)) (by have q := at_e w 0; exact sPoint_o ⟨hc3.1, hm.2⟩ ⟨hi3.1, hc3.2⟩ (by omega)) (by have q := at_e w 0; exact sPoint_o ⟨hc3.1, hm.2⟩ ⟨hi3.1, hc3.2⟩ (by omega)) (by have q := at_e w 0; exact sPoint_o ⟨hc3.1, hm.2⟩ ⟨hi3.1, hc3.2⟩ (by omega)) (fun j j0 j1 => (by have q := at_e w 0; exact (sPoint_o ⟨hc3.1, hm.2⟩ ⟨hi3.1, hc3.2⟩ (by omega)).symm)) (fun j j0 j1 => (by have q := at_e w 0; rw [sPoint_o ⟨hc3.1, hm.2⟩ ⟨hi3.1, hc3.2⟩ (by omega)])))
    exact z_ireti O dX2_perform_65 rfl (by omega) (by omega) hpo (by unfold vlD; (repeat first | rw [if_pos (by omega)] | rw [if_neg (by omega)])) (⟨r28, (hf29.up (fun s h => by first | exact h.elim | omega | (simp at h ⊢; omega))), hg31, (by unfold opD; (repeat first | rw [if_pos (by omega)] | rw [if_neg (by omega)]); exact hz9)⟩)
  · skip
    refine z_tsw 4 66 O dX2_perform_1 ⟨by omega, by omega⟩ (by omega) (by decide) rfl (by decide) ?_
    refine z_aload_n 0 O dX2_perform_66 rfl ?_
    refine z_aload_n 2 O dX2_perform_67 rfl ?_
    refine z_iload_n 3 O dX2_perform_68 rfl ?_
    refine z_Vim [.ref (a (t + 6 + 16 * w.toNat)), .int (iI u)] [] kM_X2_141 O dX2_perform_69 (c_X2_goBack hst h hG hw (hal.2.2.2.2.1 (by omega)) hu) rfl rfl sO.1 (by decide) (Nat.le_of_ble_eq_true rfl) (by omega) (by omega) (Nat.le_of_ble_eq_true rfl) zNx (fun H37 hp38 hz39 => ?_)
    obtain ⟨hf40, hz41⟩ := hp38
    refine z_meter (fun hm1 hm2 => ?_)
    rw [hH] at hm1 hm2
    have hgw : zGw t H r H37 r := ⟨by omega, by omega⟩
    exact z_ireti O dX2_perform_72 rfl (by omega) (by omega) hpo (by unfold vlD; (repeat first | rw [if_pos (by omega)] | rw [if_neg (by omega)])) (⟨r, (hf40.up (fun s h => by first | exact h.elim | omega | (simp at h ⊢; omega))), hgw, (by unfold opD; (repeat first | rw [if_pos (by omega)] | rw [if_neg (by omega)]); exact hz41)⟩)
  · skip
    refine z_tsw 5 73 O dX2_perform_1 ⟨by omega, by omega⟩ (by omega) (by decide) rfl (by decide) ?_
    refine z_aload_n 0 O dX2_perform_73 rfl ?_
    refine z_aload_n 2 O dX2_perform_74 rfl ?_
    refine z_iload_n 3 O dX2_perform_75 rfl ?_
    refine z_iload 4 O dX2_perform_76 rfl ?_
    have hc5 := hal.2.2.2.2.2.1 (by omega)
    refine z_Vim [.ref (a (t + 6 + 16 * w.toNat)), .int (iI u), .int (iI v)] [] kM_X2_144 O dX2_perform_78 (c_X2_takeRegret hst h hG hN hw (by omega) (by omega) (by omega)) rfl rfl sO.1 (by decide) (Nat.le_of_ble_eq_true rfl) (by omega) (by omega) (Nat.le_of_ble_eq_true rfl) zNx (fun H42 hp43 hz44 => ?_)
    obtain ⟨r45, hf46, hg47, hz48⟩ := hp43
    exact z_ireti O dX2_perform_81 rfl (by omega) (by omega) hpo (by unfold vlD; (repeat first | rw [if_pos (by omega)] | rw [if_neg (by omega)])) (⟨r45, (hf46.up (fun s h => by first | exact h.elim | omega | (simp at h ⊢; omega))), hg47, (by unfold opD; (repeat first | rw [if_pos (by omega)] | rw [if_neg (by omega)]); exact hz48)⟩)
  · skip
    refine z_tsw 6 82 O dX2_perform_1 ⟨by omega, by omega⟩ (by omega) (by decide) rfl (by decide) ?_
    refine z_aload_n 0 O dX2_perform_82 rfl ?_
    refine z_aload_n 2 O dX2_perform_83 rfl ?_
    refine z_iload_n 3 O dX2_perform_84 rfl ?_
    refine z_iload 4 O dX2_perform_85 rfl ?_
    have hc6 := hal.2.2.2.2.2.2 (by omega)
    refine z_Vim [.ref (a (t + 6 + 16 * w.toNat)), .int (iI u), .int (iI v)] [] kM_X2_148 O dX2_perform_87 (c_X2_setValue hst h hG hw (by omega) (by omega)) rfl rfl sO.1 (by decide) (Nat.le_of_ble_eq_true rfl) (by omega) (by omega) (Nat.le_of_ble_eq_true rfl) zNx (fun H49 hp50 hz51 => ?_)
    obtain ⟨r52, hf53, hg54, hz55⟩ := hp50
    exact z_ireti O dX2_perform_90 rfl (by omega) (by omega) hpo (by unfold vlD; (repeat first | rw [if_pos (by omega)] | rw [if_neg (by omega)])) (⟨r52, (hf53.up (fun s h => by first | exact h.elim | omega | (simp at h ⊢; omega))), hg54, (by unfold opD; (repeat first | rw [if_pos (by omega)] | rw [if_neg (by omega)]); exact hz55)⟩)
  · exfalso; omega

def atT (G : Int → Int) (k w u v : Int) : Bool := sBt w 0 2 && alD G k w u v
def atR (G : Int → Int) (k w u v : Int) : Int → Int := sIf (atT G k w u v) (opD G k w u v) G
theorem c_X2_attempt {E : zE} (hst : E.1.stackTraces = false) {H : Heap} {r : zH} {a : Nat → Nat} {t : Nat} {G : Int → Int} {N : Int} {w k u v : Int} (h : zSt E H r a t G) (hG : sW G N) (hN : N ≤ 639) (hzw : zR w) (hk : 0 ≤ k ∧ k ≤ 6) (hu : zR u) (hv : zR v) : zC E yX2_attempt cX2_attempt 6 (some .boolean) 6 164 [.ref (a t), .int (iI k), .int (iI w), .int (iI u), .int (iI v)] H 1024 20480 (zRi (zb (atT G k w u v)) (zUp E H r a t (atR G k w u v))) zN := by
  refine zC.of (by decide) (Nat.le_of_ble_eq_true rfl) hst ?_
  intro x O hE hpo hpx
  subst hE
  change zG x H 0 0 0 [(0, .ref (a t)), (1, .int (iI k)), (2, .int (iI w)), (3, .int (iI u)), (4, .int (iI v))] []
  obtain ⟨sO, sQ, sV, sL, sWs⟩ := id h
  refine z_aload_n 0 O dX2_attempt_0 rfl ?_
  refine z_iload_n 2 O dX2_attempt_1 rfl ?_
  by_cases hd1 : 0 ≤ w ∧ w < 3
  · skip
    refine z_Vr [.int (iI w)] [] kM_X2_42 O dX2_attempt_2 (by have c := c_X2_workerAt hst h hG ⟨by omega, by omega⟩ (i := w); rw [if_pos hd1] at c; exact c) rfl rfl sO.1 (by decide) (Nat.le_of_ble_eq_true rfl) (by omega) (by omega) (Nat.le_of_ble_eq_true rfl) zNx ?_
    refine z_astore [(5, .ref (a (t + 6 + 16 * w.toNat))), (0, .ref (a t)), (1, .int (iI k)), (2, .int (iI w)), (3, .int (iI u)), (4, .int (iI v))] O dX2_attempt_5 (by decide) rfl ?_
    refine z_aload 0 O dX2_attempt_7 rfl ?_
    refine z_ifnull O dX2_attempt_9 ?_
    refine z_aload_n 1 O dX2_attempt_12 rfl ?_
    refine z_iload_n 2 O dX2_attempt_13 rfl ?_
    refine z_aload 0 O dX2_attempt_14 rfl ?_
    refine z_iload_n 4 O dX2_attempt_16 rfl ?_
    refine z_iload 5 O dX2_attempt_17 rfl ?_
    have hw : 0 ≤ w ∧ w ≤ 2 := by omega
    refine z_Vi [.int (iI k), .ref (a (t + 6 + 16 * w.toNat)), .int (iI u), .int (iI v)] [] kM_X2_151 O dX2_attempt_19 (c_X2_allows hst h hG hw hk hu hv) rfl rfl sO.1 (by decide) (Nat.le_of_ble_eq_true rfl) (by omega) (by omega) (Nat.le_of_ble_eq_true rfl) zNx ?_
    refine z_ifb_ne 27 O dX2_attempt_22 (by decide) (fun c_22 => ?_) (fun c_22 => ?_)
    · skip
      refine z_aload_n 1 O dX2_attempt_27 rfl ?_
      refine z_iload_n 2 O dX2_attempt_28 rfl ?_
      refine z_aload 0 O dX2_attempt_29 rfl ?_
      refine z_iload_n 4 O dX2_attempt_31 rfl ?_
      refine z_iload 5 O dX2_attempt_32 rfl ?_
      refine z_Vim [.int (iI k), .ref (a (t + 6 + 16 * w.toNat)), .int (iI u), .int (iI v)] [] kM_X2_155 O dX2_attempt_34 (c_X2_perform hst h hG hN hw hk hu hv c_22) rfl rfl sO.1 (by decide) (Nat.le_of_ble_eq_true rfl) (by omega) (by omega) (Nat.le_of_ble_eq_true rfl) zNx (fun H2 hp3 hz4 => ?_)
      obtain ⟨r5, hf6, hg7, hz8⟩ := hp3
      refine z_pop O dX2_attempt_37 rfl ?_
      refine z_iconst 1 O dX2_attempt_38 (by decide +kernel) ?_
      have hat : atT G k w u v = true := by unfold atT; rw [c_22, sBt_t.mpr hw]; rfl
      exact z_iretb O dX2_attempt_39 rfl (by omega) (by omega) hpo (by rw [hat]; rfl) (⟨r5, (hf6.up (fun s h => by first | exact h.elim | omega | (simp at h ⊢; omega))), hg7, (by unfold atR; rw [hat]; exact hz8)⟩)
    · skip
      refine z_iconst 0 O dX2_attempt_25 (by decide +kernel) ?_
      have hat : atT G k w u v = false := by unfold atT; rw [c_22, Bool.and_false]
      exact z_iretb O dX2_attempt_26 rfl (by omega) (by omega) hpo (by rw [hat]; rfl) (⟨r, zFr.rf, zGw.rf, (by unfold atR; rw [hat]; exact h)⟩)
  · skip
    refine z_Vr [.int (iI w)] [] kM_X2_42 O dX2_attempt_2 (by have c := c_X2_workerAt hst h hG ⟨by omega, by omega⟩ (i := w); rw [if_neg hd1] at c; exact c) rfl rfl sO.1 (by decide) (Nat.le_of_ble_eq_true rfl) (by omega) (by omega) (Nat.le_of_ble_eq_true rfl) zNx ?_
    refine z_astoreN [(5, .null), (0, .ref (a t)), (1, .int (iI k)), (2, .int (iI w)), (3, .int (iI u)), (4, .int (iI v))] O dX2_attempt_5 (by decide) rfl ?_
    refine z_aloadN 0 O dX2_attempt_7 rfl ?_
    refine z_ifnullN 25 O dX2_attempt_9 (by decide) ?_
    refine z_iconst 0 O dX2_attempt_25 (by decide +kernel) ?_
    have hat : atT G k w u v = false := by unfold atT; rw [sBt_f.mpr (by omega)]; rfl
    exact z_iretb O dX2_attempt_26 rfl (by omega) (by omega) hpo (by rw [hat]; rfl) (⟨r, zFr.rf, zGw.rf, (by unfold atR; rw [hat]; exact h)⟩)

