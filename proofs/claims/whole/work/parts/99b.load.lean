/-! the class: a story is loaded (written by program: wip/whole/gen/class27.py) -/
theorem c_X5_obeyText {E : zE} (hst : E.1.stackTraces = false) {H : Heap} {r : zH} {a : Nat → Nat} {n : Int} {tx : Int → Int} {K : Int → Int} {N p : Int} (fO : zO E H r 1200 (a 1200) 5 [.ref (a 1202), .ref (a 0), .ref (a 64), .ref (a 1204), .ref (a 1206), .ref (a 1207)]) (fT : zRow E H r 1202 (a 1202) 120 n tx) (hx : ∀ j : Int, 0 ≤ j → j < n → 0 ≤ tx j ∧ tx j ≤ 255) (fS : zSt E H r a 0 K) (hK : sW K N) (hN : N ≤ 639) (hp : 0 ≤ p ∧ p ≤ 800) : zC E yX5_obeyText cX5_obeyText 4 (some .boolean) 7 189 [.ref (a 1200), .int (iI p)] H 1024 20480 (zRi (zb (oT n tx K p)) (zUp E H r a 0 (oR n tx K p))) zN := by
  refine zC.of2 (by decide) (Nat.le_of_ble_eq_true rfl) hst ?_
  intro x O hE hpo hpx hH
  subst hE
  change zG x H 0 0 0 [(0, .ref (a 1200)), (1, .int (iI p))] []
  have h0R : -1 ≤ zRg n tx p ∧ zRg n tx p ≤ 255 := by have := dG_R (p := p) hx; unfold dG at this; omega
  have hd1 := dG_R (p := p + 1) hx
  have hd2 := dG_R (p := p + 2) hx
  have hn2 : -1000 ≤ nG n tx (p + 2) ∧ nG n tx (p + 2) ≤ 3000 := by unfold nG; have := dG_R (p := p + 2 + 1) hx; omega
  have hn4 : -1000 ≤ nG n tx (p + 2 + 2) ∧ nG n tx (p + 2 + 2) ≤ 3000 := by unfold nG; have := dG_R (p := p + 2 + 2) hx; have := dG_R (p := p + 2 + 2 + 1) hx; omega
  refine z_aload_n 0 O dX5_obeyText_0 rfl ?_
  refine z_iload_n 1 O dX5_obeyText_1 rfl ?_
  refine z_iconst 1 O dX5_obeyText_2 (by decide +kernel) ?_
  refine z_iadd O dX5_obeyText_3 ?_
  refine z_Vi [.int (iI (p + 1))] [] kM_X5_321 O dX5_obeyText_4 (c_X5_digitAt hst fO fT hx (p := p + 1) ⟨by omega, by omega⟩) rfl rfl fO.1 (by decide) (Nat.le_of_ble_eq_true rfl) (by omega) (by omega) (Nat.le_of_ble_eq_true rfl) zNx ?_
  refine z_istore_n [(2, .int (iI (dG n tx (p + 1)))), (0, .ref (a 1200)), (1, .int (iI p))] O dX5_obeyText_7 (by decide) rfl ?_
  refine z_iload_n 2 O dX5_obeyText_8 rfl ?_
  refine z_iconst 2 O dX5_obeyText_9 (by decide +kernel) ?_
  refine z_iadd O dX5_obeyText_10 ?_
  refine z_istore_n [(3, .int (iI (p + 2))), (2, .int (iI (dG n tx (p + 1)))), (0, .ref (a 1200)), (1, .int (iI p))] O dX5_obeyText_11 (by decide) rfl ?_
  refine z_aload_n 2 O dX5_obeyText_12 rfl ?_
  refine z_getf kF_X5_14 O dX5_obeyText_13 fO.1 rfl ?_
  refine z_iload_n 3 O dX5_obeyText_16 rfl ?_
  obtain ⟨it1, hRo2⟩ := fT.o
  refine z_Vi [.int (iI p)] [] kM_X5_66 O dX5_obeyText_17 (c_X1_get hst fT ⟨by omega, by omega⟩) rfl rfl hRo2.1 (by decide) (Nat.le_of_ble_eq_true rfl) (by omega) (by omega) (Nat.le_of_ble_eq_true rfl) zNx ?_
  rcases (show (zRg n tx p) = 98 ∨ (zRg n tx p) = 99 ∨ (zRg n tx p) = 100 ∨ (zRg n tx p) = 101 ∨ (zRg n tx p) = 102 ∨ (zRg n tx p) = 103 ∨ (zRg n tx p) = 104 ∨ (zRg n tx p) = 105 ∨ (zRg n tx p) = 106 ∨ (zRg n tx p) = 107 ∨ (zRg n tx p) = 108 ∨ (zRg n tx p) = 109 ∨ (zRg n tx p) = 110 ∨ (zRg n tx p) = 111 ∨ (zRg n tx p) = 112 ∨ (zRg n tx p) = 113 ∨ (zRg n tx p) = 114 ∨ (zRg n tx p) = 115 ∨ ((zRg n tx p) < 98 ∨ 115 < (zRg n tx p)) by omega) with c_20 | c_20 | c_20 | c_20 | c_20 | c_20 | c_20 | c_20 | c_20 | c_20 | c_20 | c_20 | c_20 | c_20 | c_20 | c_20 | c_20 | c_20 | c_20
  · skip
    refine z_tsw 0 108 O dX5_obeyText_20 ⟨by omega, by omega⟩ (by omega) (by decide) rfl (by decide) ?_
    refine z_aload_n 2 O dX5_obeyText_108 rfl ?_
    refine z_getf kF_X5_21 O dX5_obeyText_109 fO.1 rfl ?_
    refine z_iconst 0 O dX5_obeyText_112 (by decide +kernel) ?_
    refine z_iload_n 1 O dX5_obeyText_113 rfl ?_
    refine z_iconst 0 O dX5_obeyText_114 (by decide +kernel) ?_
    refine z_iconst 0 O dX5_obeyText_115 (by decide +kernel) ?_
    obtain ⟨hO3, _⟩ := id fS
    refine z_Vim [.int (iI 0), .int (iI (dG n tx (p + 1))), .int (iI 0), .int (iI 0)] [] kM_X5_224 O dX5_obeyText_116 (c_X2_attempt hst fS hK hN ⟨by omega, by omega⟩ (by omega) ⟨by omega, by omega⟩ ⟨by omega, by omega⟩) rfl rfl hO3.1 (by decide) (Nat.le_of_ble_eq_true rfl) (by omega) (by omega) (Nat.le_of_ble_eq_true rfl) zNx (fun H4 hp5 hz6 => ?_)
    obtain ⟨r7, hf8, hg9, fS10⟩ := hp5
    have fO11 := fO.fr hf8 (by first | exact (fun h => h) | exact zT1 (by omega) | (show ¬ (_ ∨ _); omega) | (show ¬ (_ ∧ _); omega))
    have fT12 := fT.fr hf8 (by first | exact (fun h => h) | exact zT1 (by omega) | (show ¬ (_ ∨ _); omega) | (show ¬ (_ ∧ _); omega)) (by first | exact (fun h => h) | exact zT1 (by omega) | (show ¬ (_ ∨ _); omega) | (show ¬ (_ ∧ _); omega))
    refine z_meter (fun hc1 hc2 => ?_)
    rw [hH] at hc1 hc2
    exact z_iretb O dX5_obeyText_119 rfl (by omega) (by omega) hpo (by rw [show oT n tx K p = (atT K 0 (dG n tx (p + 1)) 0 0) from by unfold oT; (repeat first | rw [if_pos (by omega)] | rw [if_neg (by omega)])]) (⟨r7, hf8, hg9, by rw [show oR n tx K p = (atR K 0 (dG n tx (p + 1)) 0 0) from by unfold oR; (repeat first | rw [if_pos (by omega)] | rw [if_neg (by omega)])]; exact fS10⟩)
  · skip
    refine z_tsw 1 217 O dX5_obeyText_20 ⟨by omega, by omega⟩ (by omega) (by decide) rfl (by decide) ?_
    obtain ⟨sO12, sQ12, sV12, sL12, sWs12⟩ := id fS
    have sWs12 : zAw (zEn x) H r a 0 (fun _ => K) := sWs12
    refine z_aload_n 2 O dX5_obeyText_217 rfl ?_
    refine z_getf kF_X5_21 O dX5_obeyText_218 fO.1 rfl ?_
    refine z_iload_n 1 O dX5_obeyText_221 rfl ?_
    refine z_putf kP_X5_115 O (fun h => nomatch h) dX5_obeyText_222 sO12.1 rfl rfl (Nat.le_of_ble_eq_true rfl) (fun H14 hO15 hC16 => ?_)
    have hf17 := sO12.ch hC16
    have ho18 : zO (zEn x) H14 r 0 (a 0) 2 [.ref (a (0 + 2)), .ref (a (0 + 4)), .ref (a (0 + 1)), .int (iI (dG n tx (p + 1))), .int (iI (K 33)), .int (iI (K 34)), .int (iI (K 35))] := ⟨hO15, sO12.2⟩
    have fO19 := fO.fr hf17 (by first | exact (fun h => h) | exact zT1 (by omega) | (show ¬ (_ ∨ _); omega) | (show ¬ (_ ∧ _); omega))
    have fT20 := fT.fr hf17 (by first | exact (fun h => h) | exact zT1 (by omega) | (show ¬ (_ ∨ _); omega) | (show ¬ (_ ∧ _); omega)) (by first | exact (fun h => h) | exact zT1 (by omega) | (show ¬ (_ ∨ _); omega) | (show ¬ (_ ∧ _); omega))
    have sQ21 := sQ12.fr hf17 (by first | exact (fun h => h) | exact zT1 (by omega) | (show ¬ (_ ∨ _); omega) | (show ¬ (_ ∧ _); omega))
    have sV22 := sV12.fr hf17 (by first | exact (fun h => h) | exact zT1 (by omega) | (show ¬ (_ ∨ _); omega) | (show ¬ (_ ∧ _); omega)) (by first | exact (fun h => h) | exact zT1 (by omega) | (show ¬ (_ ∨ _); omega) | (show ¬ (_ ∧ _); omega))
    have sL23 := sL12.fr hf17 (by first | exact (fun h => h) | exact zT1 (by omega) | (show ¬ (_ ∨ _); omega) | (show ¬ (_ ∧ _); omega)) (by first | exact (fun h => h) | exact zT1 (by omega) | (show ¬ (_ ∨ _); omega) | (show ¬ (_ ∧ _); omega))
    have sWs24 := sWs12.fr hf17 (fun s h1 h2 => by first | exact (fun h => h) | exact zT1 (by omega) | (show ¬ (_ ∨ _); omega) | (show ¬ (_ ∧ _); omega) | (show ¬ (_ < _); omega))
    refine z_iconst 1 O dX5_obeyText_225 (by decide +kernel) ?_
    refine z_meter (fun hc1 hc2 => ?_)
    rw [hH] at hc1 hc2
    have hS9 : zSt (zEn x) H14 r a 0 (zU K 32 (dG n tx (p + 1))) := (show zSt (zEn x) H14 r a 0 (zU K 32 (dG n tx (p + 1))) from ⟨(by rw [zU_s, zU_n (by decide), zU_n (by decide), zU_n (by decide)]; exact ho18), sQ21, sV22.to (fun c p q => (zU_n (by omega)).symm), sL23.to (fun c p q => by rw [zU_n (by omega)]), fun v9 hv9 => (show zWkr (zEn x) H14 r a (0 + 6 + 16 * v9) v9 K from sWs24 v9 hv9).to ⟨(hK.l (w := (v9 : Int)) ⟨by omega, by omega⟩).1, by have := (hK.l (w := (v9 : Int)) ⟨by omega, by omega⟩); omega, (hK.l (w := (v9 : Int)) ⟨by omega, by omega⟩).2.1, by have := (hK.l (w := (v9 : Int)) ⟨by omega, by omega⟩); omega⟩ (fun i p q => (hK.k (w := (v9 : Int)) ⟨by omega, by omega⟩ p q).2.2.1.2) (fun j p q => zU_n (by have := at_e (v9 : Int) 0; omega))⟩)
    exact z_iretb O dX5_obeyText_226 rfl (by omega) (by omega) hpo (by rw [show oT n tx K p = true from by unfold oT; (repeat first | rw [if_pos (by omega)] | rw [if_neg (by omega)])]; rfl) (⟨r, (hf17.up (fun s h => by first | exact h.elim | omega | (simp at h ⊢; omega))), ⟨by omega, by omega⟩, by rw [show oR n tx K p = (zU K 32 (dG n tx (p + 1))) from by unfold oR; (repeat first | rw [if_pos (by omega)] | rw [if_neg (by omega)])]; exact hS9⟩)
  · skip
    refine z_tsw 2 193 O dX5_obeyText_20 ⟨by omega, by omega⟩ (by omega) (by decide) rfl (by decide) ?_
    refine z_aload_n 2 O dX5_obeyText_193 rfl ?_
    refine z_getf kF_X5_21 O dX5_obeyText_194 fO.1 rfl ?_
    refine z_iconst 1 O dX5_obeyText_197 (by decide +kernel) ?_
    refine z_iload_n 1 O dX5_obeyText_198 rfl ?_
    refine z_iconst 0 O dX5_obeyText_199 (by decide +kernel) ?_
    refine z_iconst 0 O dX5_obeyText_200 (by decide +kernel) ?_
    obtain ⟨hO25, _⟩ := id fS
    refine z_Vim [.int (iI 1), .int (iI (dG n tx (p + 1))), .int (iI 0), .int (iI 0)] [] kM_X5_224 O dX5_obeyText_201 (c_X2_attempt hst fS hK hN ⟨by omega, by omega⟩ (by omega) ⟨by omega, by omega⟩ ⟨by omega, by omega⟩) rfl rfl hO25.1 (by decide) (Nat.le_of_ble_eq_true rfl) (by omega) (by omega) (Nat.le_of_ble_eq_true rfl) zNx (fun H26 hp27 hz28 => ?_)
    obtain ⟨r29, hf30, hg31, fS32⟩ := hp27
    have fO33 := fO.fr hf30 (by first | exact (fun h => h) | exact zT1 (by omega) | (show ¬ (_ ∨ _); omega) | (show ¬ (_ ∧ _); omega))
    have fT34 := fT.fr hf30 (by first | exact (fun h => h) | exact zT1 (by omega) | (show ¬ (_ ∨ _); omega) | (show ¬ (_ ∧ _); omega)) (by first | exact (fun h => h) | exact zT1 (by omega) | (show ¬ (_ ∨ _); omega) | (show ¬ (_ ∧ _); omega))
    refine z_meter (fun hc1 hc2 => ?_)
    rw [hH] at hc1 hc2
    exact z_iretb O dX5_obeyText_204 rfl (by omega) (by omega) hpo (by rw [show oT n tx K p = (atT K 1 (dG n tx (p + 1)) 0 0) from by unfold oT; (repeat first | rw [if_pos (by omega)] | rw [if_neg (by omega)])]) (⟨r29, hf30, hg31, by rw [show oR n tx K p = (atR K 1 (dG n tx (p + 1)) 0 0) from by unfold oR; (repeat first | rw [if_pos (by omega)] | rw [if_neg (by omega)])]; exact fS32⟩)
  · skip
    refine z_tsw 3 217 O dX5_obeyText_20 ⟨by omega, by omega⟩ (by omega) (by decide) rfl (by decide) ?_
    obtain ⟨sO34, sQ34, sV34, sL34, sWs34⟩ := id fS
    have sWs34 : zAw (zEn x) H r a 0 (fun _ => K) := sWs34
    refine z_aload_n 2 O dX5_obeyText_217 rfl ?_
    refine z_getf kF_X5_21 O dX5_obeyText_218 fO.1 rfl ?_
    refine z_iload_n 1 O dX5_obeyText_221 rfl ?_
    refine z_putf kP_X5_115 O (fun h => nomatch h) dX5_obeyText_222 sO34.1 rfl rfl (Nat.le_of_ble_eq_true rfl) (fun H36 hO37 hC38 => ?_)
    have hf39 := sO34.ch hC38
    have ho40 : zO (zEn x) H36 r 0 (a 0) 2 [.ref (a (0 + 2)), .ref (a (0 + 4)), .ref (a (0 + 1)), .int (iI (dG n tx (p + 1))), .int (iI (K 33)), .int (iI (K 34)), .int (iI (K 35))] := ⟨hO37, sO34.2⟩
    have fO41 := fO.fr hf39 (by first | exact (fun h => h) | exact zT1 (by omega) | (show ¬ (_ ∨ _); omega) | (show ¬ (_ ∧ _); omega))
    have fT42 := fT.fr hf39 (by first | exact (fun h => h) | exact zT1 (by omega) | (show ¬ (_ ∨ _); omega) | (show ¬ (_ ∧ _); omega)) (by first | exact (fun h => h) | exact zT1 (by omega) | (show ¬ (_ ∨ _); omega) | (show ¬ (_ ∧ _); omega))
    have sQ43 := sQ34.fr hf39 (by first | exact (fun h => h) | exact zT1 (by omega) | (show ¬ (_ ∨ _); omega) | (show ¬ (_ ∧ _); omega))
    have sV44 := sV34.fr hf39 (by first | exact (fun h => h) | exact zT1 (by omega) | (show ¬ (_ ∨ _); omega) | (show ¬ (_ ∧ _); omega)) (by first | exact (fun h => h) | exact zT1 (by omega) | (show ¬ (_ ∨ _); omega) | (show ¬ (_ ∧ _); omega))
    have sL45 := sL34.fr hf39 (by first | exact (fun h => h) | exact zT1 (by omega) | (show ¬ (_ ∨ _); omega) | (show ¬ (_ ∧ _); omega)) (by first | exact (fun h => h) | exact zT1 (by omega) | (show ¬ (_ ∨ _); omega) | (show ¬ (_ ∧ _); omega))
    have sWs46 := sWs34.fr hf39 (fun s h1 h2 => by first | exact (fun h => h) | exact zT1 (by omega) | (show ¬ (_ ∨ _); omega) | (show ¬ (_ ∧ _); omega) | (show ¬ (_ < _); omega))
    refine z_iconst 1 O dX5_obeyText_225 (by decide +kernel) ?_
    refine z_meter (fun hc1 hc2 => ?_)
    rw [hH] at hc1 hc2
    have hS9 : zSt (zEn x) H36 r a 0 (zU K 32 (dG n tx (p + 1))) := (show zSt (zEn x) H36 r a 0 (zU K 32 (dG n tx (p + 1))) from ⟨(by rw [zU_s, zU_n (by decide), zU_n (by decide), zU_n (by decide)]; exact ho40), sQ43, sV44.to (fun c p q => (zU_n (by omega)).symm), sL45.to (fun c p q => by rw [zU_n (by omega)]), fun v9 hv9 => (show zWkr (zEn x) H36 r a (0 + 6 + 16 * v9) v9 K from sWs46 v9 hv9).to ⟨(hK.l (w := (v9 : Int)) ⟨by omega, by omega⟩).1, by have := (hK.l (w := (v9 : Int)) ⟨by omega, by omega⟩); omega, (hK.l (w := (v9 : Int)) ⟨by omega, by omega⟩).2.1, by have := (hK.l (w := (v9 : Int)) ⟨by omega, by omega⟩); omega⟩ (fun i p q => (hK.k (w := (v9 : Int)) ⟨by omega, by omega⟩ p q).2.2.1.2) (fun j p q => zU_n (by have := at_e (v9 : Int) 0; omega))⟩)
    exact z_iretb O dX5_obeyText_226 rfl (by omega) (by omega) hpo (by rw [show oT n tx K p = true from by unfold oT; (repeat first | rw [if_pos (by omega)] | rw [if_neg (by omega)])]; rfl) (⟨r, (hf39.up (fun s h => by first | exact h.elim | omega | (simp at h ⊢; omega))), ⟨by omega, by omega⟩, by rw [show oR n tx K p = (zU K 32 (dG n tx (p + 1))) from by unfold oR; (repeat first | rw [if_pos (by omega)] | rw [if_neg (by omega)])]; exact hS9⟩)
  · skip
    refine z_tsw 4 205 O dX5_obeyText_20 ⟨by omega, by omega⟩ (by omega) (by decide) rfl (by decide) ?_
    refine z_aload_n 2 O dX5_obeyText_205 rfl ?_
    refine z_getf kF_X5_21 O dX5_obeyText_206 fO.1 rfl ?_
    refine z_iconst 2 O dX5_obeyText_209 (by decide +kernel) ?_
    refine z_iload_n 1 O dX5_obeyText_210 rfl ?_
    refine z_iconst 0 O dX5_obeyText_211 (by decide +kernel) ?_
    refine z_iconst 0 O dX5_obeyText_212 (by decide +kernel) ?_
    obtain ⟨hO47, _⟩ := id fS
    refine z_Vim [.int (iI 2), .int (iI (dG n tx (p + 1))), .int (iI 0), .int (iI 0)] [] kM_X5_224 O dX5_obeyText_213 (c_X2_attempt hst fS hK hN ⟨by omega, by omega⟩ (by omega) ⟨by omega, by omega⟩ ⟨by omega, by omega⟩) rfl rfl hO47.1 (by decide) (Nat.le_of_ble_eq_true rfl) (by omega) (by omega) (Nat.le_of_ble_eq_true rfl) zNx (fun H48 hp49 hz50 => ?_)
    obtain ⟨r51, hf52, hg53, fS54⟩ := hp49
    have fO55 := fO.fr hf52 (by first | exact (fun h => h) | exact zT1 (by omega) | (show ¬ (_ ∨ _); omega) | (show ¬ (_ ∧ _); omega))
    have fT56 := fT.fr hf52 (by first | exact (fun h => h) | exact zT1 (by omega) | (show ¬ (_ ∨ _); omega) | (show ¬ (_ ∧ _); omega)) (by first | exact (fun h => h) | exact zT1 (by omega) | (show ¬ (_ ∨ _); omega) | (show ¬ (_ ∧ _); omega))
    refine z_meter (fun hc1 hc2 => ?_)
    rw [hH] at hc1 hc2
    exact z_iretb O dX5_obeyText_216 rfl (by omega) (by omega) hpo (by rw [show oT n tx K p = (atT K 2 (dG n tx (p + 1)) 0 0) from by unfold oT; (repeat first | rw [if_pos (by omega)] | rw [if_neg (by omega)])]) (⟨r51, hf52, hg53, by rw [show oR n tx K p = (atR K 2 (dG n tx (p + 1)) 0 0) from by unfold oR; (repeat first | rw [if_pos (by omega)] | rw [if_neg (by omega)])]; exact fS54⟩)
  · skip
    refine z_tsw 5 171 O dX5_obeyText_20 ⟨by omega, by omega⟩ (by omega) (by decide) rfl (by decide) ?_
    refine z_aload_n 2 O dX5_obeyText_171 rfl ?_
    refine z_getf kF_X5_21 O dX5_obeyText_172 fO.1 rfl ?_
    refine z_iconst 5 O dX5_obeyText_175 (by decide +kernel) ?_
    refine z_iload_n 1 O dX5_obeyText_176 rfl ?_
    refine z_aload_n 2 O dX5_obeyText_177 rfl ?_
    refine z_iload_n 0 O dX5_obeyText_178 rfl ?_
    refine z_Vi [.int (iI (p + 2))] [.int (iI (dG n tx (p + 1))), .int (iI 5), .ref (a 0)] kM_X5_324 O dX5_obeyText_179 (c_X5_numberAt hst fO fT hx (p := p + 2) ⟨by omega, by omega⟩) rfl rfl fO.1 (by decide) (Nat.le_of_ble_eq_true rfl) (by omega) (by omega) (Nat.le_of_ble_eq_true rfl) zNx ?_
    refine z_aload_n 2 O dX5_obeyText_182 rfl ?_
    refine z_iload_n 0 O dX5_obeyText_183 rfl ?_
    refine z_iconst 2 O dX5_obeyText_184 (by decide +kernel) ?_
    refine z_iadd O dX5_obeyText_185 ?_
    refine z_Vi [.int (iI ((p + 2) + 2))] [.int (iI (nG n tx (p + 2))), .int (iI (dG n tx (p + 1))), .int (iI 5), .ref (a 0)] kM_X5_324 O dX5_obeyText_186 (c_X5_numberAt hst fO fT hx (p := (p + 2) + 2) ⟨by omega, by omega⟩) rfl rfl fO.1 (by decide) (Nat.le_of_ble_eq_true rfl) (by omega) (by omega) (Nat.le_of_ble_eq_true rfl) zNx ?_
    obtain ⟨hO57, _⟩ := id fS
    refine z_Vim [.int (iI 5), .int (iI (dG n tx (p + 1))), .int (iI (nG n tx (p + 2))), .int (iI (nG n tx ((p + 2) + 2)))] [] kM_X5_224 O dX5_obeyText_189 (c_X2_attempt hst fS hK hN ⟨by omega, by omega⟩ (by omega) ⟨by omega, by omega⟩ ⟨by omega, by omega⟩) rfl rfl hO57.1 (by decide) (Nat.le_of_ble_eq_true rfl) (by omega) (by omega) (Nat.le_of_ble_eq_true rfl) zNx (fun H58 hp59 hz60 => ?_)
    obtain ⟨r61, hf62, hg63, fS64⟩ := hp59
    have fO65 := fO.fr hf62 (by first | exact (fun h => h) | exact zT1 (by omega) | (show ¬ (_ ∨ _); omega) | (show ¬ (_ ∧ _); omega))
    have fT66 := fT.fr hf62 (by first | exact (fun h => h) | exact zT1 (by omega) | (show ¬ (_ ∨ _); omega) | (show ¬ (_ ∧ _); omega)) (by first | exact (fun h => h) | exact zT1 (by omega) | (show ¬ (_ ∨ _); omega) | (show ¬ (_ ∧ _); omega))
    refine z_meter (fun hc1 hc2 => ?_)
    rw [hH] at hc1 hc2
    exact z_iretb O dX5_obeyText_192 rfl (by omega) (by omega) hpo (by rw [show oT n tx K p = (atT K 5 (dG n tx (p + 1)) (nG n tx (p + 2)) (nG n tx ((p + 2) + 2))) from by unfold oT; (repeat first | rw [if_pos (by omega)] | rw [if_neg (by omega)])]) (⟨r61, hf62, hg63, by rw [show oR n tx K p = (atR K 5 (dG n tx (p + 1)) (nG n tx (p + 2)) (nG n tx ((p + 2) + 2))) from by unfold oR; (repeat first | rw [if_pos (by omega)] | rw [if_neg (by omega)])]; exact fS64⟩)
  · skip
    refine z_tsw 6 217 O dX5_obeyText_20 ⟨by omega, by omega⟩ (by omega) (by decide) rfl (by decide) ?_
    obtain ⟨sO66, sQ66, sV66, sL66, sWs66⟩ := id fS
    have sWs66 : zAw (zEn x) H r a 0 (fun _ => K) := sWs66
    refine z_aload_n 2 O dX5_obeyText_217 rfl ?_
    refine z_getf kF_X5_21 O dX5_obeyText_218 fO.1 rfl ?_
    refine z_iload_n 1 O dX5_obeyText_221 rfl ?_
    refine z_putf kP_X5_115 O (fun h => nomatch h) dX5_obeyText_222 sO66.1 rfl rfl (Nat.le_of_ble_eq_true rfl) (fun H68 hO69 hC70 => ?_)
    have hf71 := sO66.ch hC70
    have ho72 : zO (zEn x) H68 r 0 (a 0) 2 [.ref (a (0 + 2)), .ref (a (0 + 4)), .ref (a (0 + 1)), .int (iI (dG n tx (p + 1))), .int (iI (K 33)), .int (iI (K 34)), .int (iI (K 35))] := ⟨hO69, sO66.2⟩
    have fO73 := fO.fr hf71 (by first | exact (fun h => h) | exact zT1 (by omega) | (show ¬ (_ ∨ _); omega) | (show ¬ (_ ∧ _); omega))
    have fT74 := fT.fr hf71 (by first | exact (fun h => h) | exact zT1 (by omega) | (show ¬ (_ ∨ _); omega) | (show ¬ (_ ∧ _); omega)) (by first | exact (fun h => h) | exact zT1 (by omega) | (show ¬ (_ ∨ _); omega) | (show ¬ (_ ∧ _); omega))
    have sQ75 := sQ66.fr hf71 (by first | exact (fun h => h) | exact zT1 (by omega) | (show ¬ (_ ∨ _); omega) | (show ¬ (_ ∧ _); omega))
    have sV76 := sV66.fr hf71 (by first | exact (fun h => h) | exact zT1 (by omega) | (show ¬ (_ ∨ _); omega) | (show ¬ (_ ∧ _); omega)) (by first | exact (fun h => h) | exact zT1 (by omega) | (show ¬ (_ ∨ _); omega) | (show ¬ (_ ∧ _); omega))
    have sL77 := sL66.fr hf71 (by first | exact (fun h => h) | exact zT1 (by omega) | (show ¬ (_ ∨ _); omega) | (show ¬ (_ ∧ _); omega)) (by first | exact (fun h => h) | exact zT1 (by omega) | (show ¬ (_ ∨ _); omega) | (show ¬ (_ ∧ _); omega))
    have sWs78 := sWs66.fr hf71 (fun s h1 h2 => by first | exact (fun h => h) | exact zT1 (by omega) | (show ¬ (_ ∨ _); omega) | (show ¬ (_ ∧ _); omega) | (show ¬ (_ < _); omega))
    refine z_iconst 1 O dX5_obeyText_225 (by decide +kernel) ?_
    refine z_meter (fun hc1 hc2 => ?_)
    rw [hH] at hc1 hc2
    have hS9 : zSt (zEn x) H68 r a 0 (zU K 32 (dG n tx (p + 1))) := (show zSt (zEn x) H68 r a 0 (zU K 32 (dG n tx (p + 1))) from ⟨(by rw [zU_s, zU_n (by decide), zU_n (by decide), zU_n (by decide)]; exact ho72), sQ75, sV76.to (fun c p q => (zU_n (by omega)).symm), sL77.to (fun c p q => by rw [zU_n (by omega)]), fun v9 hv9 => (show zWkr (zEn x) H68 r a (0 + 6 + 16 * v9) v9 K from sWs78 v9 hv9).to ⟨(hK.l (w := (v9 : Int)) ⟨by omega, by omega⟩).1, by have := (hK.l (w := (v9 : Int)) ⟨by omega, by omega⟩); omega, (hK.l (w := (v9 : Int)) ⟨by omega, by omega⟩).2.1, by have := (hK.l (w := (v9 : Int)) ⟨by omega, by omega⟩); omega⟩ (fun i p q => (hK.k (w := (v9 : Int)) ⟨by omega, by omega⟩ p q).2.2.1.2) (fun j p q => zU_n (by have := at_e (v9 : Int) 0; omega))⟩)
    exact z_iretb O dX5_obeyText_226 rfl (by omega) (by omega) hpo (by rw [show oT n tx K p = true from by unfold oT; (repeat first | rw [if_pos (by omega)] | rw [if_neg (by omega)])]; rfl) (⟨r, (hf71.up (fun s h => by first | exact h.elim | omega | (simp at h ⊢; omega))), ⟨by omega, by omega⟩, by rw [show oR n tx K p = (zU K 32 (dG n tx (p + 1))) from by unfold oR; (repeat first | rw [if_pos (by omega)] | rw [if_neg (by omega)])]; exact hS9⟩)
  · skip
    refine z_tsw 7 217 O dX5_obeyText_20 ⟨by omega, by omega⟩ (by omega) (by decide) rfl (by decide) ?_
    obtain ⟨sO78, sQ78, sV78, sL78, sWs78⟩ := id fS
    have sWs78 : zAw (zEn x) H r a 0 (fun _ => K) := sWs78
    refine z_aload_n 2 O dX5_obeyText_217 rfl ?_
    refine z_getf kF_X5_21 O dX5_obeyText_218 fO.1 rfl ?_
    refine z_iload_n 1 O dX5_obeyText_221 rfl ?_
    refine z_putf kP_X5_115 O (fun h => nomatch h) dX5_obeyText_222 sO78.1 rfl rfl (Nat.le_of_ble_eq_true rfl) (fun H80 hO81 hC82 => ?_)
    have hf83 := sO78.ch hC82
    have ho84 : zO (zEn x) H80 r 0 (a 0) 2 [.ref (a (0 + 2)), .ref (a (0 + 4)), .ref (a (0 + 1)), .int (iI (dG n tx (p + 1))), .int (iI (K 33)), .int (iI (K 34)), .int (iI (K 35))] := ⟨hO81, sO78.2⟩
    have fO85 := fO.fr hf83 (by first | exact (fun h => h) | exact zT1 (by omega) | (show ¬ (_ ∨ _); omega) | (show ¬ (_ ∧ _); omega))
    have fT86 := fT.fr hf83 (by first | exact (fun h => h) | exact zT1 (by omega) | (show ¬ (_ ∨ _); omega) | (show ¬ (_ ∧ _); omega)) (by first | exact (fun h => h) | exact zT1 (by omega) | (show ¬ (_ ∨ _); omega) | (show ¬ (_ ∧ _); omega))
    have sQ87 := sQ78.fr hf83 (by first | exact (fun h => h) | exact zT1 (by omega) | (show ¬ (_ ∨ _); omega) | (show ¬ (_ ∧ _); omega))
    have sV88 := sV78.fr hf83 (by first | exact (fun h => h) | exact zT1 (by omega) | (show ¬ (_ ∨ _); omega) | (show ¬ (_ ∧ _); omega)) (by first | exact (fun h => h) | exact zT1 (by omega) | (show ¬ (_ ∨ _); omega) | (show ¬ (_ ∧ _); omega))
    have sL89 := sL78.fr hf83 (by first | exact (fun h => h) | exact zT1 (by omega) | (show ¬ (_ ∨ _); omega) | (show ¬ (_ ∧ _); omega)) (by first | exact (fun h => h) | exact zT1 (by omega) | (show ¬ (_ ∨ _); omega) | (show ¬ (_ ∧ _); omega))
    have sWs90 := sWs78.fr hf83 (fun s h1 h2 => by first | exact (fun h => h) | exact zT1 (by omega) | (show ¬ (_ ∨ _); omega) | (show ¬ (_ ∧ _); omega) | (show ¬ (_ < _); omega))
    refine z_iconst 1 O dX5_obeyText_225 (by decide +kernel) ?_
    refine z_meter (fun hc1 hc2 => ?_)
    rw [hH] at hc1 hc2
    have hS9 : zSt (zEn x) H80 r a 0 (zU K 32 (dG n tx (p + 1))) := (show zSt (zEn x) H80 r a 0 (zU K 32 (dG n tx (p + 1))) from ⟨(by rw [zU_s, zU_n (by decide), zU_n (by decide), zU_n (by decide)]; exact ho84), sQ87, sV88.to (fun c p q => (zU_n (by omega)).symm), sL89.to (fun c p q => by rw [zU_n (by omega)]), fun v9 hv9 => (show zWkr (zEn x) H80 r a (0 + 6 + 16 * v9) v9 K from sWs90 v9 hv9).to ⟨(hK.l (w := (v9 : Int)) ⟨by omega, by omega⟩).1, by have := (hK.l (w := (v9 : Int)) ⟨by omega, by omega⟩); omega, (hK.l (w := (v9 : Int)) ⟨by omega, by omega⟩).2.1, by have := (hK.l (w := (v9 : Int)) ⟨by omega, by omega⟩); omega⟩ (fun i p q => (hK.k (w := (v9 : Int)) ⟨by omega, by omega⟩ p q).2.2.1.2) (fun j p q => zU_n (by have := at_e (v9 : Int) 0; omega))⟩)
    exact z_iretb O dX5_obeyText_226 rfl (by omega) (by omega) hpo (by rw [show oT n tx K p = true from by unfold oT; (repeat first | rw [if_pos (by omega)] | rw [if_neg (by omega)])]; rfl) (⟨r, (hf83.up (fun s h => by first | exact h.elim | omega | (simp at h ⊢; omega))), ⟨by omega, by omega⟩, by rw [show oR n tx K p = (zU K 32 (dG n tx (p + 1))) from by unfold oR; (repeat first | rw [if_pos (by omega)] | rw [if_neg (by omega)])]; exact hS9⟩)
  · skip
    refine z_tsw 8 217 O dX5_obeyText_20 ⟨by omega, by omega⟩ (by omega) (by decide) rfl (by decide) ?_
    obtain ⟨sO90, sQ90, sV90, sL90, sWs90⟩ := id fS
    have sWs90 : zAw (zEn x) H r a 0 (fun _ => K) := sWs90
    refine z_aload_n 2 O dX5_obeyText_217 rfl ?_
    refine z_getf kF_X5_21 O dX5_obeyText_218 fO.1 rfl ?_
    refine z_iload_n 1 O dX5_obeyText_221 rfl ?_
    refine z_putf kP_X5_115 O (fun h => nomatch h) dX5_obeyText_222 sO90.1 rfl rfl (Nat.le_of_ble_eq_true rfl) (fun H92 hO93 hC94 => ?_)
    have hf95 := sO90.ch hC94
    have ho96 : zO (zEn x) H92 r 0 (a 0) 2 [.ref (a (0 + 2)), .ref (a (0 + 4)), .ref (a (0 + 1)), .int (iI (dG n tx (p + 1))), .int (iI (K 33)), .int (iI (K 34)), .int (iI (K 35))] := ⟨hO93, sO90.2⟩
    have fO97 := fO.fr hf95 (by first | exact (fun h => h) | exact zT1 (by omega) | (show ¬ (_ ∨ _); omega) | (show ¬ (_ ∧ _); omega))
    have fT98 := fT.fr hf95 (by first | exact (fun h => h) | exact zT1 (by omega) | (show ¬ (_ ∨ _); omega) | (show ¬ (_ ∧ _); omega)) (by first | exact (fun h => h) | exact zT1 (by omega) | (show ¬ (_ ∨ _); omega) | (show ¬ (_ ∧ _); omega))
    have sQ99 := sQ90.fr hf95 (by first | exact (fun h => h) | exact zT1 (by omega) | (show ¬ (_ ∨ _); omega) | (show ¬ (_ ∧ _); omega))
    have sV100 := sV90.fr hf95 (by first | exact (fun h => h) | exact zT1 (by omega) | (show ¬ (_ ∨ _); omega) | (show ¬ (_ ∧ _); omega)) (by first | exact (fun h => h) | exact zT1 (by omega) | (show ¬ (_ ∨ _); omega) | (show ¬ (_ ∧ _); omega))
    have sL101 := sL90.fr hf95 (by first | exact (fun h => h) | exact zT1 (by omega) | (show ¬ (_ ∨ _); omega) | (show ¬ (_ ∧ _); omega)) (by first | exact (fun h => h) | exact zT1 (by omega) | (show ¬ (_ ∨ _); omega) | (show ¬ (_ ∧ _); omega))
    have sWs102 := sWs90.fr hf95 (fun s h1 h2 => by first | exact (fun h => h) | exact zT1 (by omega) | (show ¬ (_ ∨ _); omega) | (show ¬ (_ ∧ _); omega) | (show ¬ (_ < _); omega))
    refine z_iconst 1 O dX5_obeyText_225 (by decide +kernel) ?_
    refine z_meter (fun hc1 hc2 => ?_)
    rw [hH] at hc1 hc2
    have hS9 : zSt (zEn x) H92 r a 0 (zU K 32 (dG n tx (p + 1))) := (show zSt (zEn x) H92 r a 0 (zU K 32 (dG n tx (p + 1))) from ⟨(by rw [zU_s, zU_n (by decide), zU_n (by decide), zU_n (by decide)]; exact ho96), sQ99, sV100.to (fun c p q => (zU_n (by omega)).symm), sL101.to (fun c p q => by rw [zU_n (by omega)]), fun v9 hv9 => (show zWkr (zEn x) H92 r a (0 + 6 + 16 * v9) v9 K from sWs102 v9 hv9).to ⟨(hK.l (w := (v9 : Int)) ⟨by omega, by omega⟩).1, by have := (hK.l (w := (v9 : Int)) ⟨by omega, by omega⟩); omega, (hK.l (w := (v9 : Int)) ⟨by omega, by omega⟩).2.1, by have := (hK.l (w := (v9 : Int)) ⟨by omega, by omega⟩); omega⟩ (fun i p q => (hK.k (w := (v9 : Int)) ⟨by omega, by omega⟩ p q).2.2.1.2) (fun j p q => zU_n (by have := at_e (v9 : Int) 0; omega))⟩)
    exact z_iretb O dX5_obeyText_226 rfl (by omega) (by omega) hpo (by rw [show oT n tx K p = true from by unfold oT; (repeat first | rw [if_pos (by omega)] | rw [if_neg (by omega)])]; rfl) (⟨r, (hf95.up (fun s h => by first | exact h.elim | omega | (simp at h ⊢; omega))), ⟨by omega, by omega⟩, by rw [show oR n tx K p = (zU K 32 (dG n tx (p + 1))) from by unfold oR; (repeat first | rw [if_pos (by omega)] | rw [if_neg (by omega)])]; exact hS9⟩)
  · skip
    refine z_tsw 9 217 O dX5_obeyText_20 ⟨by omega, by omega⟩ (by omega) (by decide) rfl (by decide) ?_
    obtain ⟨sO102, sQ102, sV102, sL102, sWs102⟩ := id fS
    have sWs102 : zAw (zEn x) H r a 0 (fun _ => K) := sWs102
    refine z_aload_n 2 O dX5_obeyText_217 rfl ?_
    refine z_getf kF_X5_21 O dX5_obeyText_218 fO.1 rfl ?_
    refine z_iload_n 1 O dX5_obeyText_221 rfl ?_
    refine z_putf kP_X5_115 O (fun h => nomatch h) dX5_obeyText_222 sO102.1 rfl rfl (Nat.le_of_ble_eq_true rfl) (fun H104 hO105 hC106 => ?_)
    have hf107 := sO102.ch hC106
    have ho108 : zO (zEn x) H104 r 0 (a 0) 2 [.ref (a (0 + 2)), .ref (a (0 + 4)), .ref (a (0 + 1)), .int (iI (dG n tx (p + 1))), .int (iI (K 33)), .int (iI (K 34)), .int (iI (K 35))] := ⟨hO105, sO102.2⟩
    have fO109 := fO.fr hf107 (by first | exact (fun h => h) | exact zT1 (by omega) | (show ¬ (_ ∨ _); omega) | (show ¬ (_ ∧ _); omega))
    have fT110 := fT.fr hf107 (by first | exact (fun h => h) | exact zT1 (by omega) | (show ¬ (_ ∨ _); omega) | (show ¬ (_ ∧ _); omega)) (by first | exact (fun h => h) | exact zT1 (by omega) | (show ¬ (_ ∨ _); omega) | (show ¬ (_ ∧ _); omega))
    have sQ111 := sQ102.fr hf107 (by first | exact (fun h => h) | exact zT1 (by omega) | (show ¬ (_ ∨ _); omega) | (show ¬ (_ ∧ _); omega))
    have sV112 := sV102.fr hf107 (by first | exact (fun h => h) | exact zT1 (by omega) | (show ¬ (_ ∨ _); omega) | (show ¬ (_ ∧ _); omega)) (by first | exact (fun h => h) | exact zT1 (by omega) | (show ¬ (_ ∨ _); omega) | (show ¬ (_ ∧ _); omega))
    have sL113 := sL102.fr hf107 (by first | exact (fun h => h) | exact zT1 (by omega) | (show ¬ (_ ∨ _); omega) | (show ¬ (_ ∧ _); omega)) (by first | exact (fun h => h) | exact zT1 (by omega) | (show ¬ (_ ∨ _); omega) | (show ¬ (_ ∧ _); omega))
    have sWs114 := sWs102.fr hf107 (fun s h1 h2 => by first | exact (fun h => h) | exact zT1 (by omega) | (show ¬ (_ ∨ _); omega) | (show ¬ (_ ∧ _); omega) | (show ¬ (_ < _); omega))
    refine z_iconst 1 O dX5_obeyText_225 (by decide +kernel) ?_
    refine z_meter (fun hc1 hc2 => ?_)
    rw [hH] at hc1 hc2
    have hS9 : zSt (zEn x) H104 r a 0 (zU K 32 (dG n tx (p + 1))) := (show zSt (zEn x) H104 r a 0 (zU K 32 (dG n tx (p + 1))) from ⟨(by rw [zU_s, zU_n (by decide), zU_n (by decide), zU_n (by decide)]; exact ho108), sQ111, sV112.to (fun c p q => (zU_n (by omega)).symm), sL113.to (fun c p q => by rw [zU_n (by omega)]), fun v9 hv9 => (show zWkr (zEn x) H104 r a (0 + 6 + 16 * v9) v9 K from sWs114 v9 hv9).to ⟨(hK.l (w := (v9 : Int)) ⟨by omega, by omega⟩).1, by have := (hK.l (w := (v9 : Int)) ⟨by omega, by omega⟩); omega, (hK.l (w := (v9 : Int)) ⟨by omega, by omega⟩).2.1, by have := (hK.l (w := (v9 : Int)) ⟨by omega, by omega⟩); omega⟩ (fun i p q => (hK.k (w := (v9 : Int)) ⟨by omega, by omega⟩ p q).2.2.1.2) (fun j p q => zU_n (by have := at_e (v9 : Int) 0; omega))⟩)
    exact z_iretb O dX5_obeyText_226 rfl (by omega) (by omega) hpo (by rw [show oT n tx K p = true from by unfold oT; (repeat first | rw [if_pos (by omega)] | rw [if_neg (by omega)])]; rfl) (⟨r, (hf107.up (fun s h => by first | exact h.elim | omega | (simp at h ⊢; omega))), ⟨by omega, by omega⟩, by rw [show oR n tx K p = (zU K 32 (dG n tx (p + 1))) from by unfold oR; (repeat first | rw [if_pos (by omega)] | rw [if_neg (by omega)])]; exact hS9⟩)
  · skip
    refine z_tsw 10 217 O dX5_obeyText_20 ⟨by omega, by omega⟩ (by omega) (by decide) rfl (by decide) ?_
    obtain ⟨sO114, sQ114, sV114, sL114, sWs114⟩ := id fS
    have sWs114 : zAw (zEn x) H r a 0 (fun _ => K) := sWs114
    refine z_aload_n 2 O dX5_obeyText_217 rfl ?_
    refine z_getf kF_X5_21 O dX5_obeyText_218 fO.1 rfl ?_
    refine z_iload_n 1 O dX5_obeyText_221 rfl ?_
    refine z_putf kP_X5_115 O (fun h => nomatch h) dX5_obeyText_222 sO114.1 rfl rfl (Nat.le_of_ble_eq_true rfl) (fun H116 hO117 hC118 => ?_)
    have hf119 := sO114.ch hC118
    have ho120 : zO (zEn x) H116 r 0 (a 0) 2 [.ref (a (0 + 2)), .ref (a (0 + 4)), .ref (a (0 + 1)), .int (iI (dG n tx (p + 1))), .int (iI (K 33)), .int (iI (K 34)), .int (iI (K 35))] := ⟨hO117, sO114.2⟩
    have fO121 := fO.fr hf119 (by first | exact (fun h => h) | exact zT1 (by omega) | (show ¬ (_ ∨ _); omega) | (show ¬ (_ ∧ _); omega))
    have fT122 := fT.fr hf119 (by first | exact (fun h => h) | exact zT1 (by omega) | (show ¬ (_ ∨ _); omega) | (show ¬ (_ ∧ _); omega)) (by first | exact (fun h => h) | exact zT1 (by omega) | (show ¬ (_ ∨ _); omega) | (show ¬ (_ ∧ _); omega))
    have sQ123 := sQ114.fr hf119 (by first | exact (fun h => h) | exact zT1 (by omega) | (show ¬ (_ ∨ _); omega) | (show ¬ (_ ∧ _); omega))
    have sV124 := sV114.fr hf119 (by first | exact (fun h => h) | exact zT1 (by omega) | (show ¬ (_ ∨ _); omega) | (show ¬ (_ ∧ _); omega)) (by first | exact (fun h => h) | exact zT1 (by omega) | (show ¬ (_ ∨ _); omega) | (show ¬ (_ ∧ _); omega))
    have sL125 := sL114.fr hf119 (by first | exact (fun h => h) | exact zT1 (by omega) | (show ¬ (_ ∨ _); omega) | (show ¬ (_ ∧ _); omega)) (by first | exact (fun h => h) | exact zT1 (by omega) | (show ¬ (_ ∨ _); omega) | (show ¬ (_ ∧ _); omega))
    have sWs126 := sWs114.fr hf119 (fun s h1 h2 => by first | exact (fun h => h) | exact zT1 (by omega) | (show ¬ (_ ∨ _); omega) | (show ¬ (_ ∧ _); omega) | (show ¬ (_ < _); omega))
    refine z_iconst 1 O dX5_obeyText_225 (by decide +kernel) ?_
    refine z_meter (fun hc1 hc2 => ?_)
    rw [hH] at hc1 hc2
    have hS9 : zSt (zEn x) H116 r a 0 (zU K 32 (dG n tx (p + 1))) := (show zSt (zEn x) H116 r a 0 (zU K 32 (dG n tx (p + 1))) from ⟨(by rw [zU_s, zU_n (by decide), zU_n (by decide), zU_n (by decide)]; exact ho120), sQ123, sV124.to (fun c p q => (zU_n (by omega)).symm), sL125.to (fun c p q => by rw [zU_n (by omega)]), fun v9 hv9 => (show zWkr (zEn x) H116 r a (0 + 6 + 16 * v9) v9 K from sWs126 v9 hv9).to ⟨(hK.l (w := (v9 : Int)) ⟨by omega, by omega⟩).1, by have := (hK.l (w := (v9 : Int)) ⟨by omega, by omega⟩); omega, (hK.l (w := (v9 : Int)) ⟨by omega, by omega⟩).2.1, by have := (hK.l (w := (v9 : Int)) ⟨by omega, by omega⟩); omega⟩ (fun i p q => (hK.k (w := (v9 : Int)) ⟨by omega, by omega⟩ p q).2.2.1.2) (fun j p q => zU_n (by have := at_e (v9 : Int) 0; omega))⟩)
    exact z_iretb O dX5_obeyText_226 rfl (by omega) (by omega) hpo (by rw [show oT n tx K p = true from by unfold oT; (repeat first | rw [if_pos (by omega)] | rw [if_neg (by omega)])]; rfl) (⟨r, (hf119.up (fun s h => by first | exact h.elim | omega | (simp at h ⊢; omega))), ⟨by omega, by omega⟩, by rw [show oR n tx K p = (zU K 32 (dG n tx (p + 1))) from by unfold oR; (repeat first | rw [if_pos (by omega)] | rw [if_neg (by omega)])]; exact hS9⟩)
  · skip
    refine z_tsw 11 217 O dX5_obeyText_20 ⟨by omega, by omega⟩ (by omega) (by decide) rfl (by decide) ?_
    obtain ⟨sO126, sQ126, sV126, sL126, sWs126⟩ := id fS
    have sWs126 : zAw (zEn x) H r a 0 (fun _ => K) := sWs126
    refine z_aload_n 2 O dX5_obeyText_217 rfl ?_
    refine z_getf kF_X5_21 O dX5_obeyText_218 fO.1 rfl ?_
    refine z_iload_n 1 O dX5_obeyText_221 rfl ?_
    refine z_putf kP_X5_115 O (fun h => nomatch h) dX5_obeyText_222 sO126.1 rfl rfl (Nat.le_of_ble_eq_true rfl) (fun H128 hO129 hC130 => ?_)
    have hf131 := sO126.ch hC130
    have ho132 : zO (zEn x) H128 r 0 (a 0) 2 [.ref (a (0 + 2)), .ref (a (0 + 4)), .ref (a (0 + 1)), .int (iI (dG n tx (p + 1))), .int (iI (K 33)), .int (iI (K 34)), .int (iI (K 35))] := ⟨hO129, sO126.2⟩
    have fO133 := fO.fr hf131 (by first | exact (fun h => h) | exact zT1 (by omega) | (show ¬ (_ ∨ _); omega) | (show ¬ (_ ∧ _); omega))
    have fT134 := fT.fr hf131 (by first | exact (fun h => h) | exact zT1 (by omega) | (show ¬ (_ ∨ _); omega) | (show ¬ (_ ∧ _); omega)) (by first | exact (fun h => h) | exact zT1 (by omega) | (show ¬ (_ ∨ _); omega) | (show ¬ (_ ∧ _); omega))
    have sQ135 := sQ126.fr hf131 (by first | exact (fun h => h) | exact zT1 (by omega) | (show ¬ (_ ∨ _); omega) | (show ¬ (_ ∧ _); omega))
    have sV136 := sV126.fr hf131 (by first | exact (fun h => h) | exact zT1 (by omega) | (show ¬ (_ ∨ _); omega) | (show ¬ (_ ∧ _); omega)) (by first | exact (fun h => h) | exact zT1 (by omega) | (show ¬ (_ ∨ _); omega) | (show ¬ (_ ∧ _); omega))
    have sL137 := sL126.fr hf131 (by first | exact (fun h => h) | exact zT1 (by omega) | (show ¬ (_ ∨ _); omega) | (show ¬ (_ ∧ _); omega)) (by first | exact (fun h => h) | exact zT1 (by omega) | (show ¬ (_ ∨ _); omega) | (show ¬ (_ ∧ _); omega))
    have sWs138 := sWs126.fr hf131 (fun s h1 h2 => by first | exact (fun h => h) | exact zT1 (by omega) | (show ¬ (_ ∨ _); omega) | (show ¬ (_ ∧ _); omega) | (show ¬ (_ < _); omega))
    refine z_iconst 1 O dX5_obeyText_225 (by decide +kernel) ?_
    refine z_meter (fun hc1 hc2 => ?_)
    rw [hH] at hc1 hc2
    have hS9 : zSt (zEn x) H128 r a 0 (zU K 32 (dG n tx (p + 1))) := (show zSt (zEn x) H128 r a 0 (zU K 32 (dG n tx (p + 1))) from ⟨(by rw [zU_s, zU_n (by decide), zU_n (by decide), zU_n (by decide)]; exact ho132), sQ135, sV136.to (fun c p q => (zU_n (by omega)).symm), sL137.to (fun c p q => by rw [zU_n (by omega)]), fun v9 hv9 => (show zWkr (zEn x) H128 r a (0 + 6 + 16 * v9) v9 K from sWs138 v9 hv9).to ⟨(hK.l (w := (v9 : Int)) ⟨by omega, by omega⟩).1, by have := (hK.l (w := (v9 : Int)) ⟨by omega, by omega⟩); omega, (hK.l (w := (v9 : Int)) ⟨by omega, by omega⟩).2.1, by have := (hK.l (w := (v9 : Int)) ⟨by omega, by omega⟩); omega⟩ (fun i p q => (hK.k (w := (v9 : Int)) ⟨by omega, by omega⟩ p q).2.2.1.2) (fun j p q => zU_n (by have := at_e (v9 : Int) 0; omega))⟩)
    exact z_iretb O dX5_obeyText_226 rfl (by omega) (by omega) hpo (by rw [show oT n tx K p = true from by unfold oT; (repeat first | rw [if_pos (by omega)] | rw [if_neg (by omega)])]; rfl) (⟨r, (hf131.up (fun s h => by first | exact h.elim | omega | (simp at h ⊢; omega))), ⟨by omega, by omega⟩, by rw [show oR n tx K p = (zU K 32 (dG n tx (p + 1))) from by unfold oR; (repeat first | rw [if_pos (by omega)] | rw [if_neg (by omega)])]; exact hS9⟩)
  · skip
    refine z_tsw 12 217 O dX5_obeyText_20 ⟨by omega, by omega⟩ (by omega) (by decide) rfl (by decide) ?_
    obtain ⟨sO138, sQ138, sV138, sL138, sWs138⟩ := id fS
    have sWs138 : zAw (zEn x) H r a 0 (fun _ => K) := sWs138
    refine z_aload_n 2 O dX5_obeyText_217 rfl ?_
    refine z_getf kF_X5_21 O dX5_obeyText_218 fO.1 rfl ?_
    refine z_iload_n 1 O dX5_obeyText_221 rfl ?_
    refine z_putf kP_X5_115 O (fun h => nomatch h) dX5_obeyText_222 sO138.1 rfl rfl (Nat.le_of_ble_eq_true rfl) (fun H140 hO141 hC142 => ?_)
    have hf143 := sO138.ch hC142
    have ho144 : zO (zEn x) H140 r 0 (a 0) 2 [.ref (a (0 + 2)), .ref (a (0 + 4)), .ref (a (0 + 1)), .int (iI (dG n tx (p + 1))), .int (iI (K 33)), .int (iI (K 34)), .int (iI (K 35))] := ⟨hO141, sO138.2⟩
    have fO145 := fO.fr hf143 (by first | exact (fun h => h) | exact zT1 (by omega) | (show ¬ (_ ∨ _); omega) | (show ¬ (_ ∧ _); omega))
    have fT146 := fT.fr hf143 (by first | exact (fun h => h) | exact zT1 (by omega) | (show ¬ (_ ∨ _); omega) | (show ¬ (_ ∧ _); omega)) (by first | exact (fun h => h) | exact zT1 (by omega) | (show ¬ (_ ∨ _); omega) | (show ¬ (_ ∧ _); omega))
    have sQ147 := sQ138.fr hf143 (by first | exact (fun h => h) | exact zT1 (by omega) | (show ¬ (_ ∨ _); omega) | (show ¬ (_ ∧ _); omega))
    have sV148 := sV138.fr hf143 (by first | exact (fun h => h) | exact zT1 (by omega) | (show ¬ (_ ∨ _); omega) | (show ¬ (_ ∧ _); omega)) (by first | exact (fun h => h) | exact zT1 (by omega) | (show ¬ (_ ∨ _); omega) | (show ¬ (_ ∧ _); omega))
    have sL149 := sL138.fr hf143 (by first | exact (fun h => h) | exact zT1 (by omega) | (show ¬ (_ ∨ _); omega) | (show ¬ (_ ∧ _); omega)) (by first | exact (fun h => h) | exact zT1 (by omega) | (show ¬ (_ ∨ _); omega) | (show ¬ (_ ∧ _); omega))
    have sWs150 := sWs138.fr hf143 (fun s h1 h2 => by first | exact (fun h => h) | exact zT1 (by omega) | (show ¬ (_ ∨ _); omega) | (show ¬ (_ ∧ _); omega) | (show ¬ (_ < _); omega))
    refine z_iconst 1 O dX5_obeyText_225 (by decide +kernel) ?_
    refine z_meter (fun hc1 hc2 => ?_)
    rw [hH] at hc1 hc2
    have hS9 : zSt (zEn x) H140 r a 0 (zU K 32 (dG n tx (p + 1))) := (show zSt (zEn x) H140 r a 0 (zU K 32 (dG n tx (p + 1))) from ⟨(by rw [zU_s, zU_n (by decide), zU_n (by decide), zU_n (by decide)]; exact ho144), sQ147, sV148.to (fun c p q => (zU_n (by omega)).symm), sL149.to (fun c p q => by rw [zU_n (by omega)]), fun v9 hv9 => (show zWkr (zEn x) H140 r a (0 + 6 + 16 * v9) v9 K from sWs150 v9 hv9).to ⟨(hK.l (w := (v9 : Int)) ⟨by omega, by omega⟩).1, by have := (hK.l (w := (v9 : Int)) ⟨by omega, by omega⟩); omega, (hK.l (w := (v9 : Int)) ⟨by omega, by omega⟩).2.1, by have := (hK.l (w := (v9 : Int)) ⟨by omega, by omega⟩); omega⟩ (fun i p q => (hK.k (w := (v9 : Int)) ⟨by omega, by omega⟩ p q).2.2.1.2) (fun j p q => zU_n (by have := at_e (v9 : Int) 0; omega))⟩)
    exact z_iretb O dX5_obeyText_226 rfl (by omega) (by omega) hpo (by rw [show oT n tx K p = true from by unfold oT; (repeat first | rw [if_pos (by omega)] | rw [if_neg (by omega)])]; rfl) (⟨r, (hf143.up (fun s h => by first | exact h.elim | omega | (simp at h ⊢; omega))), ⟨by omega, by omega⟩, by rw [show oR n tx K p = (zU K 32 (dG n tx (p + 1))) from by unfold oR; (repeat first | rw [if_pos (by omega)] | rw [if_neg (by omega)])]; exact hS9⟩)
  · skip
    refine z_tsw 13 217 O dX5_obeyText_20 ⟨by omega, by omega⟩ (by omega) (by decide) rfl (by decide) ?_
    obtain ⟨sO150, sQ150, sV150, sL150, sWs150⟩ := id fS
    have sWs150 : zAw (zEn x) H r a 0 (fun _ => K) := sWs150
    refine z_aload_n 2 O dX5_obeyText_217 rfl ?_
    refine z_getf kF_X5_21 O dX5_obeyText_218 fO.1 rfl ?_
    refine z_iload_n 1 O dX5_obeyText_221 rfl ?_
    refine z_putf kP_X5_115 O (fun h => nomatch h) dX5_obeyText_222 sO150.1 rfl rfl (Nat.le_of_ble_eq_true rfl) (fun H152 hO153 hC154 => ?_)
    have hf155 := sO150.ch hC154
    have ho156 : zO (zEn x) H152 r 0 (a 0) 2 [.ref (a (0 + 2)), .ref (a (0 + 4)), .ref (a (0 + 1)), .int (iI (dG n tx (p + 1))), .int (iI (K 33)), .int (iI (K 34)), .int (iI (K 35))] := ⟨hO153, sO150.2⟩
    have fO157 := fO.fr hf155 (by first | exact (fun h => h) | exact zT1 (by omega) | (show ¬ (_ ∨ _); omega) | (show ¬ (_ ∧ _); omega))
    have fT158 := fT.fr hf155 (by first | exact (fun h => h) | exact zT1 (by omega) | (show ¬ (_ ∨ _); omega) | (show ¬ (_ ∧ _); omega)) (by first | exact (fun h => h) | exact zT1 (by omega) | (show ¬ (_ ∨ _); omega) | (show ¬ (_ ∧ _); omega))
    have sQ159 := sQ150.fr hf155 (by first | exact (fun h => h) | exact zT1 (by omega) | (show ¬ (_ ∨ _); omega) | (show ¬ (_ ∧ _); omega))
    have sV160 := sV150.fr hf155 (by first | exact (fun h => h) | exact zT1 (by omega) | (show ¬ (_ ∨ _); omega) | (show ¬ (_ ∧ _); omega)) (by first | exact (fun h => h) | exact zT1 (by omega) | (show ¬ (_ ∨ _); omega) | (show ¬ (_ ∧ _); omega))
    have sL161 := sL150.fr hf155 (by first | exact (fun h => h) | exact zT1 (by omega) | (show ¬ (_ ∨ _); omega) | (show ¬ (_ ∧ _); omega)) (by first | exact (fun h => h) | exact zT1 (by omega) | (show ¬ (_ ∨ _); omega) | (show ¬ (_ ∧ _); omega))
    have sWs162 := sWs150.fr hf155 (fun s h1 h2 => by first | exact (fun h => h) | exact zT1 (by omega) | (show ¬ (_ ∨ _); omega) | (show ¬ (_ ∧ _); omega) | (show ¬ (_ < _); omega))
    refine z_iconst 1 O dX5_obeyText_225 (by decide +kernel) ?_
    refine z_meter (fun hc1 hc2 => ?_)
    rw [hH] at hc1 hc2
    have hS9 : zSt (zEn x) H152 r a 0 (zU K 32 (dG n tx (p + 1))) := (show zSt (zEn x) H152 r a 0 (zU K 32 (dG n tx (p + 1))) from ⟨(by rw [zU_s, zU_n (by decide), zU_n (by decide), zU_n (by decide)]; exact ho156), sQ159, sV160.to (fun c p q => (zU_n (by omega)).symm), sL161.to (fun c p q => by rw [zU_n (by omega)]), fun v9 hv9 => (show zWkr (zEn x) H152 r a (0 + 6 + 16 * v9) v9 K from sWs162 v9 hv9).to ⟨(hK.l (w := (v9 : Int)) ⟨by omega, by omega⟩).1, by have := (hK.l (w := (v9 : Int)) ⟨by omega, by omega⟩); omega, (hK.l (w := (v9 : Int)) ⟨by omega, by omega⟩).2.1, by have := (hK.l (w := (v9 : Int)) ⟨by omega, by omega⟩); omega⟩ (fun i p q => (hK.k (w := (v9 : Int)) ⟨by omega, by omega⟩ p q).2.2.1.2) (fun j p q => zU_n (by have := at_e (v9 : Int) 0; omega))⟩)
    exact z_iretb O dX5_obeyText_226 rfl (by omega) (by omega) hpo (by rw [show oT n tx K p = true from by unfold oT; (repeat first | rw [if_pos (by omega)] | rw [if_neg (by omega)])]; rfl) (⟨r, (hf155.up (fun s h => by first | exact h.elim | omega | (simp at h ⊢; omega))), ⟨by omega, by omega⟩, by rw [show oR n tx K p = (zU K 32 (dG n tx (p + 1))) from by unfold oR; (repeat first | rw [if_pos (by omega)] | rw [if_neg (by omega)])]; exact hS9⟩)
  · skip
    refine z_tsw 14 143 O dX5_obeyText_20 ⟨by omega, by omega⟩ (by omega) (by decide) rfl (by decide) ?_
    refine z_aload_n 2 O dX5_obeyText_143 rfl ?_
    refine z_getf kF_X5_21 O dX5_obeyText_144 fO.1 rfl ?_
    refine z_iconst 3 O dX5_obeyText_147 (by decide +kernel) ?_
    refine z_iload_n 1 O dX5_obeyText_148 rfl ?_
    refine z_iconst 0 O dX5_obeyText_149 (by decide +kernel) ?_
    refine z_iconst 0 O dX5_obeyText_150 (by decide +kernel) ?_
    obtain ⟨hO163, _⟩ := id fS
    refine z_Vim [.int (iI 3), .int (iI (dG n tx (p + 1))), .int (iI 0), .int (iI 0)] [] kM_X5_224 O dX5_obeyText_151 (c_X2_attempt hst fS hK hN ⟨by omega, by omega⟩ (by omega) ⟨by omega, by omega⟩ ⟨by omega, by omega⟩) rfl rfl hO163.1 (by decide) (Nat.le_of_ble_eq_true rfl) (by omega) (by omega) (Nat.le_of_ble_eq_true rfl) zNx (fun H164 hp165 hz166 => ?_)
    obtain ⟨r167, hf168, hg169, fS170⟩ := hp165
    have fO171 := fO.fr hf168 (by first | exact (fun h => h) | exact zT1 (by omega) | (show ¬ (_ ∨ _); omega) | (show ¬ (_ ∧ _); omega))
    have fT172 := fT.fr hf168 (by first | exact (fun h => h) | exact zT1 (by omega) | (show ¬ (_ ∨ _); omega) | (show ¬ (_ ∧ _); omega)) (by first | exact (fun h => h) | exact zT1 (by omega) | (show ¬ (_ ∨ _); omega) | (show ¬ (_ ∧ _); omega))
    refine z_meter (fun hc1 hc2 => ?_)
    rw [hH] at hc1 hc2
    exact z_iretb O dX5_obeyText_154 rfl (by omega) (by omega) hpo (by rw [show oT n tx K p = (atT K 3 (dG n tx (p + 1)) 0 0) from by unfold oT; (repeat first | rw [if_pos (by omega)] | rw [if_neg (by omega)])]) (⟨r167, hf168, hg169, by rw [show oR n tx K p = (atR K 3 (dG n tx (p + 1)) 0 0) from by unfold oR; (repeat first | rw [if_pos (by omega)] | rw [if_neg (by omega)])]; exact fS170⟩)
  · skip
    refine z_tsw 15 217 O dX5_obeyText_20 ⟨by omega, by omega⟩ (by omega) (by decide) rfl (by decide) ?_
    obtain ⟨sO172, sQ172, sV172, sL172, sWs172⟩ := id fS
    have sWs172 : zAw (zEn x) H r a 0 (fun _ => K) := sWs172
    refine z_aload_n 2 O dX5_obeyText_217 rfl ?_
    refine z_getf kF_X5_21 O dX5_obeyText_218 fO.1 rfl ?_
    refine z_iload_n 1 O dX5_obeyText_221 rfl ?_
    refine z_putf kP_X5_115 O (fun h => nomatch h) dX5_obeyText_222 sO172.1 rfl rfl (Nat.le_of_ble_eq_true rfl) (fun H174 hO175 hC176 => ?_)
    have hf177 := sO172.ch hC176
    have ho178 : zO (zEn x) H174 r 0 (a 0) 2 [.ref (a (0 + 2)), .ref (a (0 + 4)), .ref (a (0 + 1)), .int (iI (dG n tx (p + 1))), .int (iI (K 33)), .int (iI (K 34)), .int (iI (K 35))] := ⟨hO175, sO172.2⟩
    have fO179 := fO.fr hf177 (by first | exact (fun h => h) | exact zT1 (by omega) | (show ¬ (_ ∨ _); omega) | (show ¬ (_ ∧ _); omega))
    have fT180 := fT.fr hf177 (by first | exact (fun h => h) | exact zT1 (by omega) | (show ¬ (_ ∨ _); omega) | (show ¬ (_ ∧ _); omega)) (by first | exact (fun h => h) | exact zT1 (by omega) | (show ¬ (_ ∨ _); omega) | (show ¬ (_ ∧ _); omega))
    have sQ181 := sQ172.fr hf177 (by first | exact (fun h => h) | exact zT1 (by omega) | (show ¬ (_ ∨ _); omega) | (show ¬ (_ ∧ _); omega))
    have sV182 := sV172.fr hf177 (by first | exact (fun h => h) | exact zT1 (by omega) | (show ¬ (_ ∨ _); omega) | (show ¬ (_ ∧ _); omega)) (by first | exact (fun h => h) | exact zT1 (by omega) | (show ¬ (_ ∨ _); omega) | (show ¬ (_ ∧ _); omega))
    have sL183 := sL172.fr hf177 (by first | exact (fun h => h) | exact zT1 (by omega) | (show ¬ (_ ∨ _); omega) | (show ¬ (_ ∧ _); omega)) (by first | exact (fun h => h) | exact zT1 (by omega) | (show ¬ (_ ∨ _); omega) | (show ¬ (_ ∧ _); omega))
    have sWs184 := sWs172.fr hf177 (fun s h1 h2 => by first | exact (fun h => h) | exact zT1 (by omega) | (show ¬ (_ ∨ _); omega) | (show ¬ (_ ∧ _); omega) | (show ¬ (_ < _); omega))
    refine z_iconst 1 O dX5_obeyText_225 (by decide +kernel) ?_
    refine z_meter (fun hc1 hc2 => ?_)
    rw [hH] at hc1 hc2
    have hS9 : zSt (zEn x) H174 r a 0 (zU K 32 (dG n tx (p + 1))) := (show zSt (zEn x) H174 r a 0 (zU K 32 (dG n tx (p + 1))) from ⟨(by rw [zU_s, zU_n (by decide), zU_n (by decide), zU_n (by decide)]; exact ho178), sQ181, sV182.to (fun c p q => (zU_n (by omega)).symm), sL183.to (fun c p q => by rw [zU_n (by omega)]), fun v9 hv9 => (show zWkr (zEn x) H174 r a (0 + 6 + 16 * v9) v9 K from sWs184 v9 hv9).to ⟨(hK.l (w := (v9 : Int)) ⟨by omega, by omega⟩).1, by have := (hK.l (w := (v9 : Int)) ⟨by omega, by omega⟩); omega, (hK.l (w := (v9 : Int)) ⟨by omega, by omega⟩).2.1, by have := (hK.l (w := (v9 : Int)) ⟨by omega, by omega⟩); omega⟩ (fun i p q => (hK.k (w := (v9 : Int)) ⟨by omega, by omega⟩ p q).2.2.1.2) (fun j p q => zU_n (by have := at_e (v9 : Int) 0; omega))⟩)
    exact z_iretb O dX5_obeyText_226 rfl (by omega) (by omega) hpo (by rw [show oT n tx K p = true from by unfold oT; (repeat first | rw [if_pos (by omega)] | rw [if_neg (by omega)])]; rfl) (⟨r, (hf177.up (fun s h => by first | exact h.elim | omega | (simp at h ⊢; omega))), ⟨by omega, by omega⟩, by rw [show oR n tx K p = (zU K 32 (dG n tx (p + 1))) from by unfold oR; (repeat first | rw [if_pos (by omega)] | rw [if_neg (by omega)])]; exact hS9⟩)
  · skip
    refine z_tsw 16 155 O dX5_obeyText_20 ⟨by omega, by omega⟩ (by omega) (by decide) rfl (by decide) ?_
    refine z_aload_n 2 O dX5_obeyText_155 rfl ?_
    refine z_getf kF_X5_21 O dX5_obeyText_156 fO.1 rfl ?_
    refine z_iconst 4 O dX5_obeyText_159 (by decide +kernel) ?_
    refine z_iload_n 1 O dX5_obeyText_160 rfl ?_
    refine z_aload_n 2 O dX5_obeyText_161 rfl ?_
    refine z_iload_n 0 O dX5_obeyText_162 rfl ?_
    refine z_Vi [.int (iI (p + 2))] [.int (iI (dG n tx (p + 1))), .int (iI 4), .ref (a 0)] kM_X5_321 O dX5_obeyText_163 (c_X5_digitAt hst fO fT hx (p := p + 2) ⟨by omega, by omega⟩) rfl rfl fO.1 (by decide) (Nat.le_of_ble_eq_true rfl) (by omega) (by omega) (Nat.le_of_ble_eq_true rfl) zNx ?_
    refine z_iconst 0 O dX5_obeyText_166 (by decide +kernel) ?_
    obtain ⟨hO185, _⟩ := id fS
    refine z_Vim [.int (iI 4), .int (iI (dG n tx (p + 1))), .int (iI (dG n tx (p + 2))), .int (iI 0)] [] kM_X5_224 O dX5_obeyText_167 (c_X2_attempt hst fS hK hN ⟨by omega, by omega⟩ (by omega) ⟨by omega, by omega⟩ ⟨by omega, by omega⟩) rfl rfl hO185.1 (by decide) (Nat.le_of_ble_eq_true rfl) (by omega) (by omega) (Nat.le_of_ble_eq_true rfl) zNx (fun H186 hp187 hz188 => ?_)
    obtain ⟨r189, hf190, hg191, fS192⟩ := hp187
    have fO193 := fO.fr hf190 (by first | exact (fun h => h) | exact zT1 (by omega) | (show ¬ (_ ∨ _); omega) | (show ¬ (_ ∧ _); omega))
    have fT194 := fT.fr hf190 (by first | exact (fun h => h) | exact zT1 (by omega) | (show ¬ (_ ∨ _); omega) | (show ¬ (_ ∧ _); omega)) (by first | exact (fun h => h) | exact zT1 (by omega) | (show ¬ (_ ∨ _); omega) | (show ¬ (_ ∧ _); omega))
    refine z_meter (fun hc1 hc2 => ?_)
    rw [hH] at hc1 hc2
    exact z_iretb O dX5_obeyText_170 rfl (by omega) (by omega) hpo (by rw [show oT n tx K p = (atT K 4 (dG n tx (p + 1)) (dG n tx (p + 2)) 0) from by unfold oT; (repeat first | rw [if_pos (by omega)] | rw [if_neg (by omega)])]) (⟨r189, hf190, hg191, by rw [show oR n tx K p = (atR K 4 (dG n tx (p + 1)) (dG n tx (p + 2)) 0) from by unfold oR; (repeat first | rw [if_pos (by omega)] | rw [if_neg (by omega)])]; exact fS192⟩)
  · skip
    refine z_tsw 17 120 O dX5_obeyText_20 ⟨by omega, by omega⟩ (by omega) (by decide) rfl (by decide) ?_
    refine z_aload_n 2 O dX5_obeyText_120 rfl ?_
    refine z_getf kF_X5_21 O dX5_obeyText_121 fO.1 rfl ?_
    refine z_bipush 6 O dX5_obeyText_124 (by decide +kernel) ?_
    refine z_iload_n 1 O dX5_obeyText_126 rfl ?_
    refine z_aload_n 2 O dX5_obeyText_127 rfl ?_
    refine z_iload_n 0 O dX5_obeyText_128 rfl ?_
    refine z_Vi [.int (iI (p + 2))] [.int (iI (dG n tx (p + 1))), .int (iI 6), .ref (a 0)] kM_X5_324 O dX5_obeyText_129 (c_X5_numberAt hst fO fT hx (p := p + 2) ⟨by omega, by omega⟩) rfl rfl fO.1 (by decide) (Nat.le_of_ble_eq_true rfl) (by omega) (by omega) (Nat.le_of_ble_eq_true rfl) zNx ?_
    refine z_aload_n 2 O dX5_obeyText_132 rfl ?_
    refine z_iload_n 0 O dX5_obeyText_133 rfl ?_
    refine z_iconst 2 O dX5_obeyText_134 (by decide +kernel) ?_
    refine z_iadd O dX5_obeyText_135 ?_
    refine z_Vi [.int (iI ((p + 2) + 2))] [.int (iI (nG n tx (p + 2))), .int (iI (dG n tx (p + 1))), .int (iI 6), .ref (a 0)] kM_X5_324 O dX5_obeyText_136 (c_X5_numberAt hst fO fT hx (p := (p + 2) + 2) ⟨by omega, by omega⟩) rfl rfl fO.1 (by decide) (Nat.le_of_ble_eq_true rfl) (by omega) (by omega) (Nat.le_of_ble_eq_true rfl) zNx ?_
    obtain ⟨hO195, _⟩ := id fS
    refine z_Vim [.int (iI 6), .int (iI (dG n tx (p + 1))), .int (iI (nG n tx (p + 2))), .int (iI (nG n tx ((p + 2) + 2)))] [] kM_X5_224 O dX5_obeyText_139 (c_X2_attempt hst fS hK hN ⟨by omega, by omega⟩ (by omega) ⟨by omega, by omega⟩ ⟨by omega, by omega⟩) rfl rfl hO195.1 (by decide) (Nat.le_of_ble_eq_true rfl) (by omega) (by omega) (Nat.le_of_ble_eq_true rfl) zNx (fun H196 hp197 hz198 => ?_)
    obtain ⟨r199, hf200, hg201, fS202⟩ := hp197
    have fO203 := fO.fr hf200 (by first | exact (fun h => h) | exact zT1 (by omega) | (show ¬ (_ ∨ _); omega) | (show ¬ (_ ∧ _); omega))
    have fT204 := fT.fr hf200 (by first | exact (fun h => h) | exact zT1 (by omega) | (show ¬ (_ ∨ _); omega) | (show ¬ (_ ∧ _); omega)) (by first | exact (fun h => h) | exact zT1 (by omega) | (show ¬ (_ ∨ _); omega) | (show ¬ (_ ∧ _); omega))
    refine z_meter (fun hc1 hc2 => ?_)
    rw [hH] at hc1 hc2
    exact z_iretb O dX5_obeyText_142 rfl (by omega) (by omega) hpo (by rw [show oT n tx K p = (atT K 6 (dG n tx (p + 1)) (nG n tx (p + 2)) (nG n tx ((p + 2) + 2))) from by unfold oT; (repeat first | rw [if_pos (by omega)] | rw [if_neg (by omega)])]) (⟨r199, hf200, hg201, by rw [show oR n tx K p = (atR K 6 (dG n tx (p + 1)) (nG n tx (p + 2)) (nG n tx ((p + 2) + 2))) from by unfold oR; (repeat first | rw [if_pos (by omega)] | rw [if_neg (by omega)])]; exact fS202⟩)
  · skip
    refine z_tswO 217 O dX5_obeyText_20 ⟨by omega, by omega⟩ c_20 (by decide) ?_
    obtain ⟨sO204, sQ204, sV204, sL204, sWs204⟩ := id fS
    have sWs204 : zAw (zEn x) H r a 0 (fun _ => K) := sWs204
    refine z_aload_n 2 O dX5_obeyText_217 rfl ?_
    refine z_getf kF_X5_21 O dX5_obeyText_218 fO.1 rfl ?_
    refine z_iload_n 1 O dX5_obeyText_221 rfl ?_
    refine z_putf kP_X5_115 O (fun h => nomatch h) dX5_obeyText_222 sO204.1 rfl rfl (Nat.le_of_ble_eq_true rfl) (fun H206 hO207 hC208 => ?_)
    have hf209 := sO204.ch hC208
    have ho210 : zO (zEn x) H206 r 0 (a 0) 2 [.ref (a (0 + 2)), .ref (a (0 + 4)), .ref (a (0 + 1)), .int (iI (dG n tx (p + 1))), .int (iI (K 33)), .int (iI (K 34)), .int (iI (K 35))] := ⟨hO207, sO204.2⟩
    have fO211 := fO.fr hf209 (by first | exact (fun h => h) | exact zT1 (by omega) | (show ¬ (_ ∨ _); omega) | (show ¬ (_ ∧ _); omega))
    have fT212 := fT.fr hf209 (by first | exact (fun h => h) | exact zT1 (by omega) | (show ¬ (_ ∨ _); omega) | (show ¬ (_ ∧ _); omega)) (by first | exact (fun h => h) | exact zT1 (by omega) | (show ¬ (_ ∨ _); omega) | (show ¬ (_ ∧ _); omega))
    have sQ213 := sQ204.fr hf209 (by first | exact (fun h => h) | exact zT1 (by omega) | (show ¬ (_ ∨ _); omega) | (show ¬ (_ ∧ _); omega))
    have sV214 := sV204.fr hf209 (by first | exact (fun h => h) | exact zT1 (by omega) | (show ¬ (_ ∨ _); omega) | (show ¬ (_ ∧ _); omega)) (by first | exact (fun h => h) | exact zT1 (by omega) | (show ¬ (_ ∨ _); omega) | (show ¬ (_ ∧ _); omega))
    have sL215 := sL204.fr hf209 (by first | exact (fun h => h) | exact zT1 (by omega) | (show ¬ (_ ∨ _); omega) | (show ¬ (_ ∧ _); omega)) (by first | exact (fun h => h) | exact zT1 (by omega) | (show ¬ (_ ∨ _); omega) | (show ¬ (_ ∧ _); omega))
    have sWs216 := sWs204.fr hf209 (fun s h1 h2 => by first | exact (fun h => h) | exact zT1 (by omega) | (show ¬ (_ ∨ _); omega) | (show ¬ (_ ∧ _); omega) | (show ¬ (_ < _); omega))
    refine z_iconst 1 O dX5_obeyText_225 (by decide +kernel) ?_
    refine z_meter (fun hc1 hc2 => ?_)
    rw [hH] at hc1 hc2
    have hS9 : zSt (zEn x) H206 r a 0 (zU K 32 (dG n tx (p + 1))) := (show zSt (zEn x) H206 r a 0 (zU K 32 (dG n tx (p + 1))) from ⟨(by rw [zU_s, zU_n (by decide), zU_n (by decide), zU_n (by decide)]; exact ho210), sQ213, sV214.to (fun c p q => (zU_n (by omega)).symm), sL215.to (fun c p q => by rw [zU_n (by omega)]), fun v9 hv9 => (show zWkr (zEn x) H206 r a (0 + 6 + 16 * v9) v9 K from sWs216 v9 hv9).to ⟨(hK.l (w := (v9 : Int)) ⟨by omega, by omega⟩).1, by have := (hK.l (w := (v9 : Int)) ⟨by omega, by omega⟩); omega, (hK.l (w := (v9 : Int)) ⟨by omega, by omega⟩).2.1, by have := (hK.l (w := (v9 : Int)) ⟨by omega, by omega⟩); omega⟩ (fun i p q => (hK.k (w := (v9 : Int)) ⟨by omega, by omega⟩ p q).2.2.1.2) (fun j p q => zU_n (by have := at_e (v9 : Int) 0; omega))⟩)
    exact z_iretb O dX5_obeyText_226 rfl (by omega) (by omega) hpo (by rw [show oT n tx K p = true from by unfold oT; (repeat first | rw [if_pos (by omega)] | rw [if_neg (by omega)])]; rfl) (⟨r, (hf209.up (fun s h => by first | exact h.elim | omega | (simp at h ⊢; omega))), ⟨by omega, by omega⟩, by rw [show oR n tx K p = (zU K 32 (dG n tx (p + 1))) from by unfold oR; (repeat first | rw [if_pos (by omega)] | rw [if_neg (by omega)])]; exact hS9⟩)

theorem c_X5_emptySlots {E : zE} (hst : E.1.stackTraces = false) {H : Heap} {r : zH} {a : Nat → Nat} {ik : Int → Int} (fO : zO E H r 1200 (a 1200) 5 [.ref (a 1202), .ref (a 0), .ref (a 64), .ref (a 1204), .ref (a 1206), .ref (a 1207)]) (fZ : zZ E H r 1207 (a 1207) 2 ik) : zC E yX5_emptySlots cX5_emptySlots 2 none 0 0 [.ref (a 1200)] H 0 0 (zRv (fun H1 => zFr H r H1 r (fun s => s = 1207) ∧ zZ E H1 r 1207 (a 1207) 2 (fun _ => 0))) zN := by
  refine zC.of (by decide) (Nat.le_of_ble_eq_true rfl) hst ?_
  intro x O hE hpo hpx
  subst hE
  change zG x H 0 0 0 [(0, .ref (a 1200))] []
  refine z_iconst 0 O dX5_emptySlots_0 (by decide +kernel) ?_
  refine z_istore_n [(1, .int (iI 0)), (0, .ref (a 1200))] O dX5_emptySlots_1 (by decide) rfl ?_
  have loop : ∀ (d : Nat) (i : Int) (H' : Heap), (0 ≤ i) → (i + (d : Int) = 2) → (zFr H r H' r (fun s => s = 1207)) → (zO (zEn x) H' r 1200 (a 1200) 5 [.ref (a 1202), .ref (a 0), .ref (a 64), .ref (a 1204), .ref (a 1206), .ref (a 1207)]) → (zZ (zEn x) H' r 1207 (a 1207) 2 (fun j => if j < i then 0 else ik j)) → zG x H' 0 0 2 [(1, .int (iI i)), (0, .ref (a 1200))] [] := by
    intro d
    induction d with
    | zero =>
      intro i H' hi0 hid hf' y0' y1'
      refine z_iload_n 0 O dX5_emptySlots_2 rfl ?_
      refine z_aload_n 1 O dX5_emptySlots_3 rfl ?_
      refine z_getf kF_X5_39 O dX5_emptySlots_4 y0'.1 rfl ?_
      refine z_alen (by decide) O dX5_emptySlots_7 y1'.1 ?_
      refine z_icmp_ge 24 O dX5_emptySlots_8 (by decide) ⟨by omega, by omega⟩ ⟨by omega, by omega⟩ (fun c_8 => ?_) (fun c_8 => ?_)
      · skip
        exact z_iretv O dX5_emptySlots_24 rfl (by omega) (by omega) hpo (⟨(hf'.up (fun s h => by first | exact h.elim | omega | (simp at h ⊢; omega))), ⟨y1'.1.to (fun j p q => if_pos (by omega)), y1'.2⟩⟩)
      · exfalso; omega
    | succ d ih =>
      intro i H' hi0 hid hf' y0' y1'
      refine z_iload_n 0 O dX5_emptySlots_2 rfl ?_
      refine z_aload_n 1 O dX5_emptySlots_3 rfl ?_
      refine z_getf kF_X5_39 O dX5_emptySlots_4 y0'.1 rfl ?_
      refine z_alen (by decide) O dX5_emptySlots_7 y1'.1 ?_
      refine z_icmp_ge 24 O dX5_emptySlots_8 (by decide) ⟨by omega, by omega⟩ ⟨by omega, by omega⟩ (fun c_8 => ?_) (fun c_8 => ?_)
      · exfalso; omega
      · skip
        refine z_aload_n 1 O dX5_emptySlots_11 rfl ?_
        refine z_getf kF_X5_39 O dX5_emptySlots_12 y0'.1 rfl ?_
        refine z_iload_n 0 O dX5_emptySlots_15 rfl ?_
        refine z_iconst 0 O dX5_emptySlots_16 (by decide +kernel) ?_
        refine z_zast O (by omega) dX5_emptySlots_17 y1'.1 ⟨by omega, by omega⟩ (by omega) (by omega) (fun H1 hA2 hC3 => ?_)
        have hf4 := y1'.ch hC3
        have ha5 : zZ (zEn x) H1 r 1207 (a 1207) 2 (zU (fun j => if j < i then 0 else ik j) i 0) := ⟨hA2, y1'.2⟩
        have y0'6 := y0'.fr hf4 (by first | exact (fun h => h) | exact zT1 (by omega) | (show ¬ (_ ∨ _); omega) | (show ¬ (_ ∧ _); omega))
        refine z_iinc 0 [(1, .int (iI (i + 1))), (0, .ref (a 1200))] O dX5_emptySlots_18 (by decide) rfl rfl ?_
        refine z_goto 2 O dX5_emptySlots_21 (by decide) ?_
        have hz9 : zZ (zEn x) H1 r 1207 (a 1207) 2 (fun j => if j < i + 1 then 0 else ik j) := ⟨ha5.1.to (fun j p q => by unfold zU; by_cases z : j = i; (· rw [if_pos z, if_pos (by omega)]); (· rw [if_neg z]; by_cases y : j < i; (· rw [if_pos (by omega)]; exact if_pos y); (· rw [if_neg (by omega)]; exact if_neg y))), ha5.2⟩
        exact ih (i + 1) H1 (by omega) (by omega) (((hf'.up (fun s h => by first | exact h.elim | omega | (simp at h ⊢; omega)))).tr (hf4.up (fun s h => by first | exact h.elim | omega | (simp at h ⊢; omega)))) y0'6 hz9
  exact loop 2 0 H (by omega) (by omega) zFr.rf fO ⟨fZ.1.to (fun j p q => (if_neg (by omega)).symm), fZ.2⟩

theorem c_X5_load {E : zE} (hst : E.1.stackTraces = false) {H : Heap} {r : zH} {a : Nat → Nat} {n : Int} {tx G : Int → Int} {fi ac : Int} {dd : Nat → Int → Int} {kp ik : Int → Int} {N : Int} (h : zCm E H r a n tx G fi ac dd kp ik) (hOK : cOK n tx G fi ac dd kp ik N) : zC E yX5_load cX5_load 3 (some .int) 8 212 [.ref (a 1200)] H 13566 277336 (zRi (tAll n tx).2.1 (fun H1 => cLd n tx = 0 ∧ zCp E H r a n tx (tAll n tx).2.2 fi 0 dd kp (fun _ => 0) H1)) (zXc (cLd n tx) xS "" "" H) := by
  refine zC.of2 (by decide) (Nat.le_of_ble_eq_true rfl) hst ?_
  intro x O hE hpo hpx hH
  subst hE
  change zG x H 0 0 0 [(0, .ref (a 1200))] []
  obtain ⟨nx, fl, F, sf, KS, hfw, hhr, hkr⟩ := id h
  obtain ⟨fO, fT, fcap, fS, ⟨S, fC⟩, fH, fQ, fL, fZ⟩ := id hfw
  obtain ⟨⟨hn, hx, hG, hN, hfi, hac, hik⟩, hdd, hkk⟩ := hOK
  have htp := tPos_R (n := n) (tx := tx) hn.1
  refine z_aload_n 0 O dX5_load_0 rfl ?_
  refine z_Vi [] [] kM_X5_88 O dX5_load_1 (c_X5_errorPosition hst fO fT hx hn) rfl rfl fO.1 (by decide) (Nat.le_of_ble_eq_true rfl) (by omega) (by omega) (Nat.le_of_ble_eq_true rfl) zNx ?_
  refine z_iconst (-1) O dX5_load_4 (by decide +kernel) ?_
  refine z_icmp_eq 18 O dX5_load_5 (by decide) ⟨by omega, by omega⟩ ⟨by omega, by omega⟩ (fun c_5 => ?_) (fun c_5 => ?_)
  · skip
    have hok : (tAll n tx).1.1 = true := by have q := c_5; unfold tPos at q; split at q; (· next z => exact z); (· have := (tAll_I (tx := tx) hn.1).1; omega)
    have h87 : 0 < n ∧ tx 0 = 87 := by by_cases z : 0 < n ∧ tx 0 = 87; (· exact z); (· rw [tAll_0 z] at hok; exact absurd hok Bool.false_ne_true)
    refine z_aload_n 0 O dX5_load_18 rfl ?_
    refine z_getf kF_X5_21 O dX5_load_19 fO.1 rfl ?_
    obtain ⟨hsO1, _⟩ := id fS
    refine z_Vvm [] [] kM_X5_93 O dX5_load_22 (c_X2_clear hst fS hG) rfl rfl hsO1.1 (by decide) (Nat.le_of_ble_eq_true rfl) (by omega) (by omega) (Nat.le_of_ble_eq_true rfl) zNx (fun H2 hp3 hz4 => ?_)
    obtain ⟨hf5, fS6⟩ := hp3
    have fO7 := fO.fr hf5 (by first | exact (fun h => h) | exact zT1 (by omega) | (show ¬ (_ ∨ _); omega) | (show ¬ (_ ∧ _); omega))
    have fT8 := fT.fr hf5 (by first | exact (fun h => h) | exact zT1 (by omega) | (show ¬ (_ ∨ _); omega) | (show ¬ (_ ∧ _); omega)) (by first | exact (fun h => h) | exact zT1 (by omega) | (show ¬ (_ ∨ _); omega) | (show ¬ (_ ∧ _); omega))
    have fC9 := fC.fr hf5 (fun s h1 h2 => by first | exact (fun h => h) | exact zT1 (by omega) | (show ¬ (_ ∨ _); omega) | (show ¬ (_ ∧ _); omega) | (show ¬ (_ < _); omega))
    have fH10 := fH.fr hf5 (fun s h1 => by first | exact (fun h => h) | exact zT1 (by omega) | (show ¬ (_ ∨ _); omega) | (show ¬ (_ ∧ _); omega) | (show ¬ (_ < _); omega))
    have fQ11 := fQ.fr hf5 (by first | exact (fun h => h) | exact zT1 (by omega) | (show ¬ (_ ∨ _); omega) | (show ¬ (_ ∧ _); omega))
    have fL12 := fL.fr hf5 (fun s h1 h2 => by first | exact (fun h => h) | exact zT1 (by omega) | (show ¬ (_ ∨ _); omega) | (show ¬ (_ ∧ _); omega) | (show ¬ (_ < _); omega))
    have fZ13 := fZ.fr hf5 (by first | exact (fun h => h) | exact zT1 (by omega) | (show ¬ (_ ∨ _); omega) | (show ¬ (_ ∧ _); omega))
    have fcap14 := (hf5.2.2.2 1203 (by first | exact (fun h => h) | exact zT1 (by omega) | (show ¬ (_ ∨ _); omega) | (show ¬ (_ ∧ _); omega))).trans fcap
    refine z_meter (fun hb1 hb2 => ?_)
    rw [hH] at hb1 hb2
    refine z_aload_n 0 O dX5_load_25 rfl ?_
    refine z_getf kF_X5_31 O dX5_load_26 fO7.1 rfl ?_
    obtain ⟨hsO15, _⟩ := id fH10
    refine z_Vvm [] [] kM_X5_96 O dX5_load_29 (c_X0_forgetAll hst fH10) rfl rfl hsO15.1 (by decide) (Nat.le_of_ble_eq_true rfl) (by omega) (by omega) (Nat.le_of_ble_eq_true rfl) zNx (fun H16 hp17 hz18 => ?_)
    obtain ⟨hf19, fH20⟩ := hp17
    have fO21 := fO7.fr hf19 (by first | exact (fun h => h) | exact zT1 (by omega) | (show ¬ (_ ∨ _); omega) | (show ¬ (_ ∧ _); omega))
    have fT22 := fT8.fr hf19 (by first | exact (fun h => h) | exact zT1 (by omega) | (show ¬ (_ ∨ _); omega) | (show ¬ (_ ∧ _); omega)) (by first | exact (fun h => h) | exact zT1 (by omega) | (show ¬ (_ ∨ _); omega) | (show ¬ (_ ∧ _); omega))
    have fS23 := fS6.fr hf19 (fun s h1 h2 => by first | exact (fun h => h) | exact zT1 (by omega) | (show ¬ (_ ∨ _); omega) | (show ¬ (_ ∧ _); omega) | (show ¬ (_ < _); omega))
    have fC24 := fC9.fr hf19 (fun s h1 h2 => by first | exact (fun h => h) | exact zT1 (by omega) | (show ¬ (_ ∨ _); omega) | (show ¬ (_ ∧ _); omega) | (show ¬ (_ < _); omega))
    have fQ25 := fQ11.fr hf19 (by first | exact (fun h => h) | exact zT1 (by omega) | (show ¬ (_ ∨ _); omega) | (show ¬ (_ ∧ _); omega))
    have fL26 := fL12.fr hf19 (fun s h1 h2 => by first | exact (fun h => h) | exact zT1 (by omega) | (show ¬ (_ ∨ _); omega) | (show ¬ (_ ∧ _); omega) | (show ¬ (_ < _); omega))
    have fZ27 := fZ13.fr hf19 (by first | exact (fun h => h) | exact zT1 (by omega) | (show ¬ (_ ∨ _); omega) | (show ¬ (_ ∧ _); omega))
    have fcap28 := (hf19.2.2.2 1203 (by first | exact (fun h => h) | exact zT1 (by omega) | (show ¬ (_ ∨ _); omega) | (show ¬ (_ ∧ _); omega))).trans fcap14
    refine z_meter (fun hb1 hb2 => ?_)
    rw [hH] at hb1 hb2
    refine z_aload_n 0 O dX5_load_32 rfl ?_
    refine z_Vvm [] [] kM_X5_99 O dX5_load_33 (c_X5_emptySlots hst fO21 fZ27) rfl rfl fO21.1 (by decide) (Nat.le_of_ble_eq_true rfl) (by omega) (by omega) (Nat.le_of_ble_eq_true rfl) zNx (fun H29 hp30 hz31 => ?_)
    obtain ⟨hf32, fZ33⟩ := hp30
    have fO34 := fO21.fr hf32 (by first | exact (fun h => h) | exact zT1 (by omega) | (show ¬ (_ ∨ _); omega) | (show ¬ (_ ∧ _); omega))
    have fT35 := fT22.fr hf32 (by first | exact (fun h => h) | exact zT1 (by omega) | (show ¬ (_ ∨ _); omega) | (show ¬ (_ ∧ _); omega)) (by first | exact (fun h => h) | exact zT1 (by omega) | (show ¬ (_ ∨ _); omega) | (show ¬ (_ ∧ _); omega))
    have fS36 := fS23.fr hf32 (fun s h1 h2 => by first | exact (fun h => h) | exact zT1 (by omega) | (show ¬ (_ ∨ _); omega) | (show ¬ (_ ∧ _); omega) | (show ¬ (_ < _); omega))
    have fC37 := fC24.fr hf32 (fun s h1 h2 => by first | exact (fun h => h) | exact zT1 (by omega) | (show ¬ (_ ∨ _); omega) | (show ¬ (_ ∧ _); omega) | (show ¬ (_ < _); omega))
    have fH38 := fH20.fr hf32 (fun s h1 => by first | exact (fun h => h) | exact zT1 (by omega) | (show ¬ (_ ∨ _); omega) | (show ¬ (_ ∧ _); omega) | (show ¬ (_ < _); omega))
    have fQ39 := fQ25.fr hf32 (by first | exact (fun h => h) | exact zT1 (by omega) | (show ¬ (_ ∨ _); omega) | (show ¬ (_ ∧ _); omega))
    have fL40 := fL26.fr hf32 (fun s h1 h2 => by first | exact (fun h => h) | exact zT1 (by omega) | (show ¬ (_ ∨ _); omega) | (show ¬ (_ ∧ _); omega) | (show ¬ (_ < _); omega))
    have fcap41 := (hf32.2.2.2 1203 (by first | exact (fun h => h) | exact zT1 (by omega) | (show ¬ (_ ∨ _); omega) | (show ¬ (_ ∧ _); omega))).trans fcap28
    refine z_meter (fun hb1 hb2 => ?_)
    rw [hH] at hb1 hb2
    refine z_iconst 0 O dX5_load_36 (by decide +kernel) ?_
    refine z_istore_n [(1, .int (iI 0)), (0, .ref (a 1200))] O dX5_load_37 (by decide) rfl ?_
    refine z_iconst 1 O dX5_load_38 (by decide +kernel) ?_
    refine z_istore_n [(2, .int (iI 1)), (1, .int (iI 0)), (0, .ref (a 1200))] O dX5_load_39 (by decide) rfl ?_
    have loop40 : ∀ (d : Nat) (p lo m : Int) (K : Int → Int) (H' : Heap) (r' : zH), (1 ≤ p) → (p ≤ 130) → (n - p ≤ (d : Int)) → (tRn d n tx ((true, p), lo, K) = tAll n tx) → (sW K m) → (m ≤ p) → (H'.size + zPs r ≤ H.size + zPs r' + 14) → (zSz H' + 20 * zPs r ≤ zSz H + 20 * zPs r' + 6296) → (r'.2 1203 = 120) → (zFr H r H' r' (fun s => s < 1300)) → (zO (zEn x) H' r' 1200 (a 1200) 5 [.ref (a 1202), .ref (a 0), .ref (a 64), .ref (a 1204), .ref (a 1206), .ref (a 1207)]) → (zRow (zEn x) H' r' 1202 (a 1202) 120 n tx) → (zSt (zEn x) H' r' a 0 K) → (zSt (zEn x) H' r' a 64 S) → (zHy (zEn x) H' r' a nx 0 fl F) → (zQr (zEn x) H' r' 1206 (a 1206) 2 2 (zOp sf (fun i => a (1024 + 64 * i.toNat)))) → (zSl (zEn x) H' r' a sf KS) → (zZ (zEn x) H' r' 1207 (a 1207) 2 (fun _ => 0)) → zG x H' (14 + (zPs r' - zPs r)) (6296 + 20 * (zPs r' - zPs r)) 40 [(2, .int (iI p)), (0, .ref (a 1200)), (1, .int (iI lo))] [] := by
      intro d
      induction d with
      | zero =>
        intro p lo m K H' r' hp0 hp1 hpd hRR hKm hmp hs1 hs2 fcap' hf' y0' y1' y2' y3' y4' y5' y6' y7'
        refine z_iload_n 0 O dX5_load_40 rfl ?_
        refine z_aload_n 1 O dX5_load_41 rfl ?_
        refine z_getf kF_X5_14 O dX5_load_42 y0'.1 rfl ?_
        obtain ⟨it42, hRo43⟩ := y1'.o
        refine z_getf kF_X5_50 O dX5_load_45 hRo43.1 rfl ?_
        refine z_icmp_ge 84 O dX5_load_48 (by decide) ⟨by omega, by omega⟩ ⟨by omega, by omega⟩ (fun c_48 => ?_) (fun c_48 => ?_)
        · skip
          refine z_iload_n 2 O dX5_load_84 rfl ?_
          have hb0 := y2'.ph
          have hb6 := y3'.ph
          have hbs : zPs r' ≤ 12528 := by unfold zPs; omega
          have hK9 : (tAll n tx).2.2 = K := by rw [← hRR, tRn_e (by omega)]
          have hS9 : zSt (zEn x) H' r' a 0 (tAll n tx).2.2 := by rw [hK9]; exact y2'
          have hgv : zGv H r H' r' := by unfold zGv; omega
          exact z_ireti O dX5_load_85 rfl (by omega) (by omega) hpo (by rw [← hRR, tRn_e (by omega)]) (⟨(by unfold cLd; (repeat first | rw [if_pos (by omega)] | rw [if_neg (by omega)])), r', a, rfl, (hf'.up (fun s h => by first | exact h.elim | (show _ < _; omega) | omega | (simp at h ⊢; omega))), hgv, nx, fl, F, sf, KS, (zFw.mk (fun _ _ => rfl) y0' y1' fcap' hS9 y3' y4' y5' y6' y7'), hRel.no, fun s h1 h2 h3 => absurd h3 (show ¬ (0 : Int) = 1 by decide)⟩)
        · exfalso; omega
      | succ d ih =>
        intro p lo m K H' r' hp0 hp1 hpd hRR hKm hmp hs1 hs2 fcap' hf' y0' y1' y2' y3' y4' y5' y6' y7'
        refine z_iload_n 0 O dX5_load_40 rfl ?_
        refine z_aload_n 1 O dX5_load_41 rfl ?_
        refine z_getf kF_X5_14 O dX5_load_42 y0'.1 rfl ?_
        obtain ⟨it44, hRo45⟩ := y1'.o
        refine z_getf kF_X5_50 O dX5_load_45 hRo45.1 rfl ?_
        refine z_icmp_ge 84 O dX5_load_48 (by decide) ⟨by omega, by omega⟩ ⟨by omega, by omega⟩ (fun c_48 => ?_) (fun c_48 => ?_)
        · skip
          refine z_iload_n 2 O dX5_load_84 rfl ?_
          have hb0 := y2'.ph
          have hb6 := y3'.ph
          have hbs : zPs r' ≤ 12528 := by unfold zPs; omega
          have hK9 : (tAll n tx).2.2 = K := by rw [← hRR, tRn_e (by omega)]
          have hS9 : zSt (zEn x) H' r' a 0 (tAll n tx).2.2 := by rw [hK9]; exact y2'
          have hgv : zGv H r H' r' := by unfold zGv; omega
          exact z_ireti O dX5_load_85 rfl (by omega) (by omega) hpo (by rw [← hRR, tRn_e (by omega)]) (⟨(by unfold cLd; (repeat first | rw [if_pos (by omega)] | rw [if_neg (by omega)])), r', a, rfl, (hf'.up (fun s h => by first | exact h.elim | (show _ < _; omega) | omega | (simp at h ⊢; omega))), hgv, nx, fl, F, sf, KS, (zFw.mk (fun _ _ => rfl) y0' y1' fcap' hS9 y3' y4' y5' y6' y7'), hRel.no, fun s h1 h2 h3 => absurd h3 (show ¬ (0 : Int) = 1 by decide)⟩)
        · skip
          have hb0 := y2'.ph
          have hb6 := y3'.ph
          have hbs : zPs r' ≤ 12528 := by unfold zPs; omega
          have hpn : p < n := by omega
          have hxp := hx p (by omega) hpn
          have hi := sHi_R (tx p)
          have hln := zS_len _ hi
          have h5 : ¬ sHi (tx p) = 5 := fun e => by have q := tRn_f1 (d := d) (lo := lo) (R := K) hpn (cmd_o hpn e); rw [hRR] at q; rw [q] at hok; exact absurd hok Bool.false_ne_true
          have hg9 : tCm n tx (true, p) lo K = ((true, p + 1 + (zLn (sHi (tx p)) : Nat)), (if oT n tx K p = true then lo else lo + 1), oR n tx K p) := by rcases cmd (n := n) (tx := tx) (p := p) (lo := lo) (R := K) (by omega) hpn h5 with ⟨_, e⟩ | ⟨_, e⟩; (exact e); (exfalso; have q := tRn_f1 (d := d) (lo := lo) (R := K) hpn e; rw [hRR] at q; rw [q] at hok; exact absurd hok Bool.false_ne_true)
          have hI9 := (tCm_I (n := n) (tx := tx) (lo := lo) (s := (true, p)) ⟨by show 0 ≤ p; omega, hpn⟩ hKm (by omega)).2.2
          rw [hg9] at hI9
          refine z_aload_n 1 O dX5_load_51 rfl ?_
          refine z_iload_n 0 O dX5_load_52 rfl ?_
          have hb0 := y2'.ph
          have hb6 := y3'.ph
          have hbs : zPs r' ≤ 12528 := by unfold zPs; omega
          refine z_Vim [.int (iI p)] [] kM_X5_102 O dX5_load_53 (c_X5_obeyText hst y0' y1' hx y2' hKm (by omega) ⟨by omega, by omega⟩) rfl rfl y0'.1 (by decide) (Nat.le_of_ble_eq_true rfl) (by omega) (by omega) (Nat.le_of_ble_eq_true rfl) zNx (fun H46 hp47 hz48 => ?_)
          obtain ⟨r49, hf50, hg51, fS52⟩ := hp47
          have y0'53 := y0'.fr hf50 (by first | exact (fun h => h) | exact zT1 (by omega) | (show ¬ (_ ∨ _); omega) | (show ¬ (_ ∧ _); omega))
          have y1'54 := y1'.fr hf50 (by first | exact (fun h => h) | exact zT1 (by omega) | (show ¬ (_ ∨ _); omega) | (show ¬ (_ ∧ _); omega)) (by first | exact (fun h => h) | exact zT1 (by omega) | (show ¬ (_ ∨ _); omega) | (show ¬ (_ ∧ _); omega))
          have y3'55 := y3'.fr hf50 (fun s h1 h2 => by first | exact (fun h => h) | exact zT1 (by omega) | (show ¬ (_ ∨ _); omega) | (show ¬ (_ ∧ _); omega) | (show ¬ (_ < _); omega))
          have y4'56 := y4'.fr hf50 (fun s h1 => by first | exact (fun h => h) | exact zT1 (by omega) | (show ¬ (_ ∨ _); omega) | (show ¬ (_ ∧ _); omega) | (show ¬ (_ < _); omega))
          have y5'57 := y5'.fr hf50 (by first | exact (fun h => h) | exact zT1 (by omega) | (show ¬ (_ ∨ _); omega) | (show ¬ (_ ∧ _); omega))
          have y6'58 := y6'.fr hf50 (fun s h1 h2 => by first | exact (fun h => h) | exact zT1 (by omega) | (show ¬ (_ ∨ _); omega) | (show ¬ (_ ∧ _); omega) | (show ¬ (_ < _); omega))
          have y7'59 := y7'.fr hf50 (by first | exact (fun h => h) | exact zT1 (by omega) | (show ¬ (_ ∨ _); omega) | (show ¬ (_ ∧ _); omega))
          have fcap60 := (hf50.2.2.2 1203 (by first | exact (fun h => h) | exact zT1 (by omega) | (show ¬ (_ ∨ _); omega) | (show ¬ (_ ∧ _); omega))).trans fcap'
          have hg1 := hg51.1
          have hg2 := hg51.2
          have hq6 := zPh_fr (t := 64) hf50 (fun s p q => by show ¬ (_ ∧ _); omega)
          refine z_ifb_ne 62 O dX5_load_56 (by decide) (fun c_56 => ?_) (fun c_56 => ?_)
          · skip
            refine z_iload_n 0 O dX5_load_62 rfl ?_
            refine z_iconst 1 O dX5_load_63 (by decide +kernel) ?_
            refine z_aload_n 1 O dX5_load_64 rfl ?_
            refine z_getf kF_X5_14 O dX5_load_65 y0'53.1 rfl ?_
            refine z_iload_n 0 O dX5_load_68 rfl ?_
            obtain ⟨it61, hRo62⟩ := y1'54.o
            refine z_Vi [.int (iI p)] [.int (iI 1), .int (iI p)] kM_X5_66 O dX5_load_69 (c_X1_get hst y1'54 ⟨by omega, by omega⟩) rfl rfl hRo62.1 (by decide) (Nat.le_of_ble_eq_true rfl) (by omega) (by omega) (Nat.le_of_ble_eq_true rfl) zNx ?_
            rw [show zRg n tx p = tx p from (by unfold zRg; exact if_pos ⟨by omega, by omega⟩)]
            refine z_Sr [.int (iI (tx p))] [.int (iI 1), .int (iI p)] kM_X5_70 O dX5_load_72 (c_X5_shapeOf hst ⟨by omega, by omega⟩) rfl rfl (by decide) (Nat.le_of_ble_eq_true rfl) (by omega) (by omega) (Nat.le_of_ble_eq_true rfl) zNx ?_
            refine z_Ti [] [.int (iI 1), .int (iI p)] hi kM_X5_84 O dX5_load_75 (c_J0_length hst hi) rfl rfl (by decide) (Nat.le_of_ble_eq_true rfl) (by omega) (by omega) (Nat.le_of_ble_eq_true rfl) zNx ?_
            refine z_iadd O dX5_load_78 ?_
            refine z_iadd O dX5_load_79 ?_
            refine z_istore_n [(2, .int (iI (p + (1 + (zLn (sHi (tx p)) : Nat))))), (0, .ref (a 1200)), (1, .int (iI lo))] O dX5_load_80 (by decide) rfl ?_
            refine z_goto 40 O dX5_load_81 (by decide) ?_
            have hs3 : H46.size + zPs r ≤ H.size + zPs r49 + 14 := by unfold zPs at *; omega
            have hs4 : zSz H46 + 20 * zPs r ≤ zSz H + 20 * zPs r49 + 6296 := by unfold zPs at *; omega
            refine z_tight (a' := 14 + (zPs r49 - zPs r)) (b' := 6296 + 20 * (zPs r49 - zPs r)) (by rw [hH]; omega) (by rw [hH]; omega) ?_
            rw [tRn_s hpn, hg9, if_pos c_56, show p + 1 + (zLn (sHi (tx p)) : Nat) = p + (1 + (zLn (sHi (tx p)) : Nat)) by omega] at hRR
            exact ih (p + (1 + (zLn (sHi (tx p)) : Nat))) lo (m + 1) (oR n tx K p) H46 r49 (by omega) (by omega) (by omega) hRR hI9 (by omega) hs3 hs4 fcap60 (((hf'.up (fun s h => by first | exact h.elim | (show _ < _; omega) | omega | (simp at h ⊢; omega)))).tr (hf50.up (fun s h => by first | exact h.elim | (show _ < _; omega) | omega | (simp at h ⊢; omega)))) y0'53 y1'54 fS52 y3'55 y4'56 y5'57 y6'58 y7'59
          · skip
            refine z_iinc 2 [(1, .int (iI (lo + 1))), (2, .int (iI p)), (0, .ref (a 1200))] O dX5_load_59 (by decide) rfl rfl ?_
            refine z_iload_n 1 O dX5_load_62 rfl ?_
            refine z_iconst 1 O dX5_load_63 (by decide +kernel) ?_
            refine z_aload_n 2 O dX5_load_64 rfl ?_
            refine z_getf kF_X5_14 O dX5_load_65 y0'53.1 rfl ?_
            refine z_iload_n 1 O dX5_load_68 rfl ?_
            obtain ⟨it63, hRo64⟩ := y1'54.o
            refine z_Vi [.int (iI p)] [.int (iI 1), .int (iI p)] kM_X5_66 O dX5_load_69 (c_X1_get hst y1'54 ⟨by omega, by omega⟩) rfl rfl hRo64.1 (by decide) (Nat.le_of_ble_eq_true rfl) (by omega) (by omega) (Nat.le_of_ble_eq_true rfl) zNx ?_
            rw [show zRg n tx p = tx p from (by unfold zRg; exact if_pos ⟨by omega, by omega⟩)]
            refine z_Sr [.int (iI (tx p))] [.int (iI 1), .int (iI p)] kM_X5_70 O dX5_load_72 (c_X5_shapeOf hst ⟨by omega, by omega⟩) rfl rfl (by decide) (Nat.le_of_ble_eq_true rfl) (by omega) (by omega) (Nat.le_of_ble_eq_true rfl) zNx ?_
            refine z_Ti [] [.int (iI 1), .int (iI p)] hi kM_X5_84 O dX5_load_75 (c_J0_length hst hi) rfl rfl (by decide) (Nat.le_of_ble_eq_true rfl) (by omega) (by omega) (Nat.le_of_ble_eq_true rfl) zNx ?_
            refine z_iadd O dX5_load_78 ?_
            refine z_iadd O dX5_load_79 ?_
            refine z_istore_n [(2, .int (iI (p + (1 + (zLn (sHi (tx p)) : Nat))))), (1, .int (iI (lo + 1))), (0, .ref (a 1200))] O dX5_load_80 (by decide) rfl ?_
            refine z_goto 40 O dX5_load_81 (by decide) ?_
            refine z_locs [0, 2, 1] rfl ?_
            have hs3 : H46.size + zPs r ≤ H.size + zPs r49 + 14 := by unfold zPs at *; omega
            have hs4 : zSz H46 + 20 * zPs r ≤ zSz H + 20 * zPs r49 + 6296 := by unfold zPs at *; omega
            refine z_tight (a' := 14 + (zPs r49 - zPs r)) (b' := 6296 + 20 * (zPs r49 - zPs r)) (by rw [hH]; omega) (by rw [hH]; omega) ?_
            rw [tRn_s hpn, hg9, if_neg (by rw [c_56]; decide), show p + 1 + (zLn (sHi (tx p)) : Nat) = p + (1 + (zLn (sHi (tx p)) : Nat)) by omega] at hRR
            exact ih (p + (1 + (zLn (sHi (tx p)) : Nat))) (lo + 1) (m + 1) (oR n tx K p) H46 r49 (by omega) (by omega) (by omega) hRR hI9 (by omega) hs3 hs4 fcap60 (((hf'.up (fun s h => by first | exact h.elim | (show _ < _; omega) | omega | (simp at h ⊢; omega)))).tr (hf50.up (fun s h => by first | exact h.elim | (show _ < _; omega) | omega | (simp at h ⊢; omega)))) y0'53 y1'54 fS52 y3'55 y4'56 y5'57 y6'58 y7'59
    refine z_locs [0, 2, 1] rfl ?_
    have hs3 : H29.size + zPs r ≤ H.size + zPs r + 14 := by unfold zPs; omega
    have hs4 : zSz H29 + 20 * zPs r ≤ zSz H + 20 * zPs r + 6296 := by unfold zPs; omega
    refine z_tight (a' := 14 + (zPs r - zPs r)) (b' := 6296 + 20 * (zPs r - zPs r)) (by rw [hH]; omega) (by rw [hH]; omega) ?_
    exact loop40 120 1 0 0 sClean H29 r (by omega) (by omega) (by omega) (tAll_1 h87).symm sW_clean (by omega) hs3 hs4 fcap41 (((((hf5.up (fun s h => by first | exact h.elim | (show _ < _; omega) | omega | (simp at h ⊢; omega)))).tr (hf19.up (fun s h => by first | exact h.elim | (show _ < _; omega) | omega | (simp at h ⊢; omega))))).tr (hf32.up (fun s h => by first | exact h.elim | (show _ < _; omega) | omega | (simp at h ⊢; omega)))) fO34 fT35 fS36 fC37 fH38 fQ39 fL40 fZ33
  · skip
    exact z_throwX kT_54_91_58 O dX5_load_8 dX5_load_11 dX5_load_12 dX5_load_14 dX5_load_17 (by decide) (Nat.le_of_ble_eq_true rfl) (by omega) (by omega) (fun H1 hs1 hz1 hz2 => by rw [hH] at hz1 hz2; rw [hpx]; exact ⟨Or.inl ⟨(by unfold cLd; (repeat first | rw [if_pos (by omega)] | rw [if_neg (by omega)])), rfl⟩, hs1, hz1, hz2⟩)

