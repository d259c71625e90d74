/-! the class: saved states (written by program: wip/whole/gen/class22.py) -/
theorem zHy.a {E : zE} {H : Heap} {r : zH} {a a1 : Nat → Nat} {nx cn : Int} {fl : Int → Bool} {F : Int → Int → Int} (h : zHy E H r a nx cn fl F) (e : ∀ s : Nat, ¬ (1024 ≤ s ∧ s < 1152) → a1 s = a s) : zHy E H r a1 nx cn fl F := by
  obtain ⟨h1, h2, h3, h4, h5⟩ := h
  refine ⟨by rw [e 1204 (by omega), e 1205 (by omega)]; exact h1, ?_, h3, h4, fun i hi hf => (h5 i hi hf).a (fun s p q => e s (by omega))⟩
  rw [e 1205 (by omega)]
  exact ⟨h2.1.to (fun i i0 i1 => (zOp_n rfl (e _ (by omega))).symm), h2.2⟩
theorem zFw.mk2 {E : zE} {H : Heap} {r : zH} {a a1 : Nat → Nat} {n : Int} {tx G S : Int → Int} {nx cn : Int} {fl : Int → Bool} {F : Int → Int → Int} {sf : Int → Bool} {KS : Int → Int → Int} {ik : Int → Int} (ha : ∀ s : Nat, ¬ (1024 ≤ s ∧ s < 1152) → a1 s = a s)
    (fO : zO E H r 1200 (a 1200) 5 [.ref (a 1202), .ref (a 0), .ref (a 64), .ref (a 1204), .ref (a 1206), .ref (a 1207)]) (fT : zRow E H r 1202 (a 1202) 120 n tx) (fcap : r.2 1203 = 120) (fS : zSt E H r a 0 G) (fC : zSt E H r a 64 S) (fH : zHy E H r a nx cn fl F)
    (fQ : zQr E H r 1206 (a1 1206) 2 2 (zOp sf (fun i => a1 (1024 + 64 * i.toNat)))) (fL : zSl E H r a1 sf KS) (fZ : zZ E H r 1207 (a 1207) 2 ik) : zFw E H r a1 n tx G nx cn fl F sf KS ik := by
  refine ⟨by rw [ha 1200 (by omega), ha 1202 (by omega), ha 0 (by omega), ha 64 (by omega), ha 1204 (by omega), ha 1206 (by omega), ha 1207 (by omega)]; rw [ha 1206 (by omega)] at fQ; exact fO, by rw [ha 1202 (by omega)]; exact fT, fcap, fS.a (fun s p q => ha s (by omega)), ⟨S, fC.a (fun s p q => ha s (by omega))⟩, fH.a ha, fQ, fL, by rw [ha 1207 (by omega)]; exact fZ⟩
theorem kRel.save {sf : Int → Bool} {KS : Int → Int → Int} {kp ik G : Int → Int} {k : Int} (h : kRel sf KS kp ik) (hk : 0 ≤ k ∧ k ≤ 1) : kRel (fun j => if j = k then true else sf j) (fun j => if j = k then G else KS j) (zCpy G kp 0 (4086 * k) 4086) (zU ik k 1) := fun s s0 s1 e => by
  dsimp only
  by_cases q : s = k
  · rw [if_pos q, if_pos q]
    refine ⟨rfl, fun j j0 j1 => ?_⟩
    unfold zCpy
    rw [if_pos (by omega)]
    exact congrArg G (by omega)
  · rw [if_neg q, if_neg q]
    obtain ⟨h1, h2⟩ := h s s0 s1 (by rw [zU_n q] at e; exact e)
    refine ⟨h1, fun j j0 j1 => ?_⟩
    rw [h2 j j0 j1]
    unfold zCpy
    rw [if_neg (by omega)]
theorem c_X5_save {E : zE} (hst : E.1.stackTraces = false) {H : Heap} {r : zH} {a : Nat → Nat} {n : Int} {tx G : Int → Int} {fi ac : Int} {dd : Nat → Int → Int} {kp ik : Int → Int} {N : Int} {k : Int} (h : zCm E H r a n tx G fi ac dd kp ik) (hOK : cOK n tx G fi ac dd kp ik N) (hzk : zR k) : zC E yX5_save cX5_save 3 (some .int) 7 117 [.ref (a 1200), .int (iI k)] H 65 6677 (zRi (zSum 16 G) (fun H1 => cSl k = 0 ∧ zCp E H r a n tx G fi ac dd (zCpy G kp 0 (4086 * k) 4086) (zU ik k 1) H1)) (zXc (cSl k) xB "" "" H) := by
  refine zC.of2 (by decide) (Nat.le_of_ble_eq_true rfl) hst ?_
  intro x O hE hpo hpx hH
  subst hE
  change zG x H 0 0 0 [(0, .ref (a 1200)), (1, .int (iI k))] []
  obtain ⟨nx, fl, F, sf, KS, hfw, hhr, hkr⟩ := id h
  obtain ⟨fO, fT, fcap, fS, ⟨S, fC⟩, fH, fQ, fL, fZ⟩ := id hfw
  obtain ⟨⟨hn, hx, hG, hN, hfi, hac, hik⟩, hdd, hkk⟩ := hOK
  refine z_iload_n 1 O dX5_save_0 rfl ?_
  by_cases hd1 : 0 ≤ k ∧ k ≤ 1
  · skip
    refine z_Sv [.int (iI k)] [] kM_X5_273 O dX5_save_1 (c_X5_requireSlotY hst hzk hd1) rfl rfl (by decide) (Nat.le_of_ble_eq_true rfl) (by omega) (by omega) (Nat.le_of_ble_eq_true rfl) zNx ?_
    by_cases hsf : sf k = true
    · skip
      refine z_aload_n 0 O dX5_save_4 rfl ?_
      refine z_getf kF_X5_35 O dX5_save_5 fO.1 rfl ?_
      refine z_iload_n 1 O dX5_save_8 rfl ?_
      refine z_aald (T := 0) (by decide) O dX5_save_9 fQ.1 ⟨by omega, by omega⟩ (by omega) (by omega) ?_
      change zG x _ _ _ _ _ (va_rf (zOp sf (fun i => a (1024 + 64 * i.toNat)) k) :: _)
      rw [zOp_t hsf]
      change zG x _ _ _ _ _ (.ref (a (1024 + 64 * k.toNat)) :: _)
      have hk9 := fL.at (i := k) (by omega) (by omega) hsf
      refine z_astore_n [(2, .ref (a (1024 + 64 * k.toNat))), (0, .ref (a 1200)), (1, .int (iI k))] O dX5_save_10 (by decide) rfl ?_
      refine z_aload_n 0 O dX5_save_11 rfl ?_
      refine z_ifnonnull 30 O dX5_save_12 (by decide) ?_
      refine z_aload_n 0 O dX5_save_30 rfl ?_
      refine z_aload_n 1 O dX5_save_31 rfl ?_
      refine z_getf kF_X5_21 O dX5_save_32 fO.1 rfl ?_
      obtain ⟨hsO2, _⟩ := id hk9
      refine z_Vvm [.ref (a 0)] [] kM_X5_221 O dX5_save_35 (c_X2_copyFrom hst hk9 fS hG (by omega)) rfl rfl hsO2.1 (by decide) (Nat.le_of_ble_eq_true rfl) (by omega) (by omega) (Nat.le_of_ble_eq_true rfl) zNx (fun H3 hp4 hz5 => ?_)
      obtain ⟨r6, hf7, hz8, hmo9⟩ := hp4
      have fO10 := fO.fr hf7 (by first | exact (fun h => h) | exact zT1 (by omega) | (show ¬ (_ ∨ _); omega) | (show ¬ (_ ∧ _); omega))
      have fT11 := fT.fr hf7 (by first | exact (fun h => h) | exact zT1 (by omega) | (show ¬ (_ ∨ _); omega) | (show ¬ (_ ∧ _); omega)) (by first | exact (fun h => h) | exact zT1 (by omega) | (show ¬ (_ ∨ _); omega) | (show ¬ (_ ∧ _); omega))
      have fS12 := fS.fr hf7 (fun s h1 h2 => by first | exact (fun h => h) | exact zT1 (by omega) | (show ¬ (_ ∨ _); omega) | (show ¬ (_ ∧ _); omega) | (show ¬ (_ < _); omega))
      have fC13 := fC.fr hf7 (fun s h1 h2 => by first | exact (fun h => h) | exact zT1 (by omega) | (show ¬ (_ ∨ _); omega) | (show ¬ (_ ∧ _); omega) | (show ¬ (_ < _); omega))
      have fH14 := fH.fr hf7 (fun s h1 => by first | exact (fun h => h) | exact zT1 (by omega) | (show ¬ (_ ∨ _); omega) | (show ¬ (_ ∧ _); omega) | (show ¬ (_ < _); omega))
      have fQ15 := fQ.fr hf7 (by first | exact (fun h => h) | exact zT1 (by omega) | (show ¬ (_ ∨ _); omega) | (show ¬ (_ ∧ _); omega))
      have fZ16 := fZ.fr hf7 (by first | exact (fun h => h) | exact zT1 (by omega) | (show ¬ (_ ∨ _); omega) | (show ¬ (_ ∧ _); omega))
      have fcap17 := (hf7.2.2.2 1203 (by first | exact (fun h => h) | exact zT1 (by omega) | (show ¬ (_ ∨ _); omega) | (show ¬ (_ ∧ _); omega))).trans fcap
      refine z_aload_n 1 O dX5_save_38 rfl ?_
      refine z_getf kF_X5_39 O dX5_save_39 fO10.1 rfl ?_
      refine z_iload_n 2 O dX5_save_42 rfl ?_
      refine z_iconst 1 O dX5_save_43 (by decide +kernel) ?_
      refine z_zast O (by omega) dX5_save_44 fZ16.1 ⟨by omega, by omega⟩ (by omega) (by omega) (fun H18 hA19 hC20 => ?_)
      have hf21 := fZ16.ch hC20
      have ha22 : zZ (zEn x) H18 r6 1207 (a 1207) 2 (zU ik k 1) := ⟨hA19, fZ16.2⟩
      have fO23 := fO10.fr hf21 (by first | exact (fun h => h) | exact zT1 (by omega) | (show ¬ (_ ∨ _); omega) | (show ¬ (_ ∧ _); omega))
      have fT24 := fT11.fr hf21 (by first | exact (fun h => h) | exact zT1 (by omega) | (show ¬ (_ ∨ _); omega) | (show ¬ (_ ∧ _); omega)) (by first | exact (fun h => h) | exact zT1 (by omega) | (show ¬ (_ ∨ _); omega) | (show ¬ (_ ∧ _); omega))
      have fS25 := fS12.fr hf21 (fun s h1 h2 => by first | exact (fun h => h) | exact zT1 (by omega) | (show ¬ (_ ∨ _); omega) | (show ¬ (_ ∧ _); omega) | (show ¬ (_ < _); omega))
      have fC26 := fC13.fr hf21 (fun s h1 h2 => by first | exact (fun h => h) | exact zT1 (by omega) | (show ¬ (_ ∨ _); omega) | (show ¬ (_ ∧ _); omega) | (show ¬ (_ < _); omega))
      have fH27 := fH14.fr hf21 (fun s h1 => by first | exact (fun h => h) | exact zT1 (by omega) | (show ¬ (_ ∨ _); omega) | (show ¬ (_ ∧ _); omega) | (show ¬ (_ < _); omega))
      have fQ28 := fQ15.fr hf21 (by first | exact (fun h => h) | exact zT1 (by omega) | (show ¬ (_ ∨ _); omega) | (show ¬ (_ ∧ _); omega))
      have hz29 := hz8.fr hf21 (fun s h1 h2 => by first | exact (fun h => h) | exact zT1 (by omega) | (show ¬ (_ ∨ _); omega) | (show ¬ (_ ∧ _); omega) | (show ¬ (_ < _); omega))
      have fcap30 := (hf21.2.2.2 1203 (by first | exact (fun h => h) | exact zT1 (by omega) | (show ¬ (_ ∨ _); omega) | (show ¬ (_ ∧ _); omega))).trans fcap17
      refine z_aload_n 1 O dX5_save_45 rfl ?_
      refine z_getf kF_X5_21 O dX5_save_46 fO23.1 rfl ?_
      obtain ⟨hO31, _⟩ := id fS25
      refine z_Vi [] [] kM_X5_106 O dX5_save_49 (c_X2_sumOfValues hst fS25 hG) rfl rfl hO31.1 (by decide) (Nat.le_of_ble_eq_true rfl) (by omega) (by omega) (Nat.le_of_ble_eq_true rfl) zNx ?_
      refine z_meter (fun hc1 hc2 => ?_)
      rw [hH] at hc1 hc2
      have hfa : zFr H r H18 r6 (fun s => 1024 ≤ s ∧ s < 1300) := (((hf7.up (fun s h => by first | exact h.elim | omega | (simp at h ⊢; omega)))).tr (hf21.up (fun s h => by first | exact h.elim | omega | (simp at h ⊢; omega))))
      have hp0 := zPh_fr (t := 0) hfa (fun s p q => by show ¬ (_ ∧ _); omega)
      have hp6 := zPh_fr (t := 64) hfa (fun s p q => by show ¬ (_ ∧ _); omega)
      have hgv : zGv H r H18 r6 := by unfold zGv zPs; omega
      have hL9 := fL.set (T := (fun s => (1024 + 64 * k.toNat ≤ s ∧ s < 1024 + 64 * k.toNat + 64) ∨ s = 1206 ∨ s = 1207)) ((hf7.up (fun s h => by first | exact h.elim | omega | (simp at h ⊢; omega))).tr (hf21.up (fun s h => by first | exact h.elim | omega | (simp at h ⊢; omega)))) (i := k) (by omega) (by omega) (fun s p1 p2 p3 => by (show ¬ (_ ∨ _); omega)) (fun _ _ => rfl) hz29
      exact z_ireti O dX5_save_52 rfl (by omega) (by omega) hpo (by rfl) (⟨(by unfold cSl; (repeat first | rw [if_pos (by omega)] | rw [if_neg (by omega)])), r6, a, rfl, hfa.up (fun s h => h.2), hgv, nx, fl, F, _, _, (zFw.mk2 (fun _ _ => rfl) fO23 fT24 fcap30 fS25 fC26 fH27 ⟨fQ28.1.to (fun i i0 i1 => by by_cases y : i = k; (· rw [y, zOp_t hsf, zOp_t (if_pos rfl)]); (· exact (zOp_n (if_neg y) rfl).symm)), fQ28.2⟩ hL9 ha22), hhr, hkr.save (by omega)⟩)
    · skip
      refine z_aload_n 0 O dX5_save_4 rfl ?_
      refine z_getf kF_X5_35 O dX5_save_5 fO.1 rfl ?_
      refine z_iload_n 1 O dX5_save_8 rfl ?_
      refine z_aald (T := 0) (by decide) O dX5_save_9 fQ.1 ⟨by omega, by omega⟩ (by omega) (by omega) ?_
      change zG x _ _ _ _ _ (va_rf (zOp sf (fun i => a (1024 + 64 * i.toNat)) k) :: _)
      rw [zOp_f hsf]
      change zG x _ _ _ _ _ (.null :: _)
      refine z_astore_nN [(2, .null), (0, .ref (a 1200)), (1, .int (iI k))] O dX5_save_10 (by decide) rfl ?_
      refine z_aload_nN 0 O dX5_save_11 rfl ?_
      refine z_ifnonnullN O dX5_save_12 ?_
      refine z_new kN_X5_18 O dX5_save_15 (by omega) (by omega) (fun H32 hO33 hN34 => ?_)
      obtain ⟨r36, er36⟩ : ∃ z, z = zTag r H.size (1024 + 64 * k.toNat) := ⟨_, rfl⟩
      have hf37 : zFr H r H32 r36 (fun _ => False) := by rw [er36]; exact hN34.fr r (1024 + 64 * k.toNat) _
      obtain ⟨q35, eq35⟩ : ∃ z, z = H.size := ⟨_, rfl⟩
      have q35t : r36.1 q35 = 1024 + 64 * k.toNat := by rw [er36, eq35]; exact zTag_1
      rw [← eq35]
      have fO38 := fO.fr hf37 (by first | exact (fun h => h) | exact zT1 (by omega) | (show ¬ (_ ∨ _); omega) | (show ¬ (_ ∧ _); omega))
      have fT39 := fT.fr hf37 (by first | exact (fun h => h) | exact zT1 (by omega) | (show ¬ (_ ∨ _); omega) | (show ¬ (_ ∧ _); omega)) (by first | exact (fun h => h) | exact zT1 (by omega) | (show ¬ (_ ∨ _); omega) | (show ¬ (_ ∧ _); omega))
      have fS40 := fS.fr hf37 (fun s h1 h2 => by first | exact (fun h => h) | exact zT1 (by omega) | (show ¬ (_ ∨ _); omega) | (show ¬ (_ ∧ _); omega) | (show ¬ (_ < _); omega))
      have fC41 := fC.fr hf37 (fun s h1 h2 => by first | exact (fun h => h) | exact zT1 (by omega) | (show ¬ (_ ∨ _); omega) | (show ¬ (_ ∧ _); omega) | (show ¬ (_ < _); omega))
      have fH42 := fH.fr hf37 (fun s h1 => by first | exact (fun h => h) | exact zT1 (by omega) | (show ¬ (_ ∨ _); omega) | (show ¬ (_ ∧ _); omega) | (show ¬ (_ < _); omega))
      have fQ43 := fQ.fr hf37 (by first | exact (fun h => h) | exact zT1 (by omega) | (show ¬ (_ ∨ _); omega) | (show ¬ (_ ∧ _); omega))
      have fL44 := fL.fr hf37 (fun s h1 h2 => by first | exact (fun h => h) | exact zT1 (by omega) | (show ¬ (_ ∨ _); omega) | (show ¬ (_ ∧ _); omega) | (show ¬ (_ < _); omega))
      have fZ45 := fZ.fr hf37 (by first | exact (fun h => h) | exact zT1 (by omega) | (show ¬ (_ ∨ _); omega) | (show ¬ (_ ∧ _); omega))
      have fcap46 := (hf37.2.2.2 1203 (by first | exact (fun h => h) | exact zT1 (by omega) | (show ¬ (_ ∨ _); omega) | (show ¬ (_ ∧ _); omega))).trans fcap
      have ho47 : zO (zEn x) H32 r36 (1024 + 64 * k.toNat) q35 2 [.null, .null, .null, .int (iI 0), .int (iI 0), .int (iI 0), .int (iI 0)] := ⟨by rw [eq35]; exact hO33, q35t⟩
      refine z_dup O dX5_save_18 rfl ?_
      obtain ⟨a9, ha9⟩ : ∃ z, z = (fun s => if s = 1024 + 64 * k.toNat then q35 else a s) := ⟨_, rfl⟩
      have hq9 : a9 (1024 + 64 * k.toNat) = q35 := by rw [ha9]; exact if_pos rfl
      have hn9 : ∀ s, s ≠ 1024 + 64 * k.toNat → a9 s = a s := fun s hs => by rw [ha9]; exact if_neg hs
      refine z_Ivm [] [.ref q35] kM_X5_20 O dX5_save_19 (c_X2_init hst (a := a9) ho47 hq9) rfl rfl (by decide) (Nat.le_of_ble_eq_true rfl) (by omega) (by omega) (Nat.le_of_ble_eq_true rfl) zNx (fun H48 hp49 hz50 => ?_)
      obtain ⟨r51, a1, hat1, hf52, hz9⟩ := hp49
      have ha1 : ∀ s, ¬ (1024 + 64 * k.toNat ≤ s ∧ s < 1024 + 64 * k.toNat + 64) → a1 s = a s := fun s hs => (hat1 s (by omega)).trans (hn9 s (by omega))
      have hb9 : a1 (1024 + 64 * k.toNat) = q35 := (hat1 _ (by omega)).trans hq9
      have fO53 := fO38.fr hf52 (by first | exact (fun h => h) | exact zT1 (by omega) | (show ¬ (_ ∨ _); omega) | (show ¬ (_ ∧ _); omega))
      have fT54 := fT39.fr hf52 (by first | exact (fun h => h) | exact zT1 (by omega) | (show ¬ (_ ∨ _); omega) | (show ¬ (_ ∧ _); omega)) (by first | exact (fun h => h) | exact zT1 (by omega) | (show ¬ (_ ∨ _); omega) | (show ¬ (_ ∧ _); omega))
      have fS55 := fS40.fr hf52 (fun s h1 h2 => by first | exact (fun h => h) | exact zT1 (by omega) | (show ¬ (_ ∨ _); omega) | (show ¬ (_ ∧ _); omega) | (show ¬ (_ < _); omega))
      have fC56 := fC41.fr hf52 (fun s h1 h2 => by first | exact (fun h => h) | exact zT1 (by omega) | (show ¬ (_ ∨ _); omega) | (show ¬ (_ ∧ _); omega) | (show ¬ (_ < _); omega))
      have fH57 := fH42.fr hf52 (fun s h1 => by first | exact (fun h => h) | exact zT1 (by omega) | (show ¬ (_ ∨ _); omega) | (show ¬ (_ ∧ _); omega) | (show ¬ (_ < _); omega))
      have fQ58 := fQ43.fr hf52 (by first | exact (fun h => h) | exact zT1 (by omega) | (show ¬ (_ ∨ _); omega) | (show ¬ (_ ∧ _); omega))
      have fZ59 := fZ45.fr hf52 (by first | exact (fun h => h) | exact zT1 (by omega) | (show ¬ (_ ∨ _); omega) | (show ¬ (_ ∧ _); omega))
      have fcap60 := (hf52.2.2.2 1203 (by first | exact (fun h => h) | exact zT1 (by omega) | (show ¬ (_ ∨ _); omega) | (show ¬ (_ ∧ _); omega))).trans fcap46
      obtain ⟨hO9, _⟩ := id hz9
      rw [hb9] at hO9
      refine z_astore_n [(2, .ref q35), (0, .ref (a 1200)), (1, .int (iI k))] O dX5_save_22 (by decide) rfl ?_
      refine z_aload_n 1 O dX5_save_23 rfl ?_
      refine z_getf kF_X5_35 O dX5_save_24 fO53.1 rfl ?_
      refine z_iload_n 2 O dX5_save_27 rfl ?_
      refine z_aload_n 0 O dX5_save_28 rfl ?_
      refine z_aast (by unfold zTC; decide) O dX5_save_29 fQ58.1 hO9.1 ⟨by omega, by omega⟩ (by omega) (by omega) (fun H61 hQ62 hC63 => ?_)
      have hf64 := fQ58.ch hC63
      have hq65 : zQr (zEn x) H61 r51 1206 (a 1206) 2 2 (zUr (zOp sf (fun i => a (1024 + 64 * i.toNat))) k (some q35)) := ⟨hQ62, fQ58.2⟩
      have fO66 := fO53.fr hf64 (by first | exact (fun h => h) | exact zT1 (by omega) | (show ¬ (_ ∨ _); omega) | (show ¬ (_ ∧ _); omega))
      have fT67 := fT54.fr hf64 (by first | exact (fun h => h) | exact zT1 (by omega) | (show ¬ (_ ∨ _); omega) | (show ¬ (_ ∧ _); omega)) (by first | exact (fun h => h) | exact zT1 (by omega) | (show ¬ (_ ∨ _); omega) | (show ¬ (_ ∧ _); omega))
      have fS68 := fS55.fr hf64 (fun s h1 h2 => by first | exact (fun h => h) | exact zT1 (by omega) | (show ¬ (_ ∨ _); omega) | (show ¬ (_ ∧ _); omega) | (show ¬ (_ < _); omega))
      have fC69 := fC56.fr hf64 (fun s h1 h2 => by first | exact (fun h => h) | exact zT1 (by omega) | (show ¬ (_ ∨ _); omega) | (show ¬ (_ ∧ _); omega) | (show ¬ (_ < _); omega))
      have fH70 := fH57.fr hf64 (fun s h1 => by first | exact (fun h => h) | exact zT1 (by omega) | (show ¬ (_ ∨ _); omega) | (show ¬ (_ ∧ _); omega) | (show ¬ (_ < _); omega))
      have fZ71 := fZ59.fr hf64 (by first | exact (fun h => h) | exact zT1 (by omega) | (show ¬ (_ ∨ _); omega) | (show ¬ (_ ∧ _); omega))
      have hO72 := hO9.fr hf64 (by first | exact (fun h => h) | exact zT1 (by omega) | (show ¬ (_ ∨ _); omega) | (show ¬ (_ ∧ _); omega))
      have hz73 := hz9.fr hf64 (fun s h1 h2 => by first | exact (fun h => h) | exact zT1 (by omega) | (show ¬ (_ ∨ _); omega) | (show ¬ (_ ∧ _); omega) | (show ¬ (_ < _); omega))
      have fcap74 := (hf64.2.2.2 1203 (by first | exact (fun h => h) | exact zT1 (by omega) | (show ¬ (_ ∨ _); omega) | (show ¬ (_ ∧ _); omega))).trans fcap60
      refine z_aload_n 0 O dX5_save_30 rfl ?_
      refine z_aload_n 1 O dX5_save_31 rfl ?_
      refine z_getf kF_X5_21 O dX5_save_32 fO66.1 rfl ?_
      have h29 := fS68.a (a1 := a1) (fun s p1 p2 => ha1 s (by omega))
      refine z_Vvm [.ref (a 0)] [] kM_X5_221 O dX5_save_35 (by have c := c_X2_copyFrom hst hz73 h29 hG (by omega); rw [hb9, ha1 0 (by omega)] at c; exact c) rfl rfl hO72.1 (by decide) (Nat.le_of_ble_eq_true rfl) (by omega) (by omega) (Nat.le_of_ble_eq_true rfl) zNx (fun H75 hp76 hz77 => ?_)
      obtain ⟨r78, hf79, hz80, hmo81⟩ := hp76
      have fO82 := fO66.fr hf79 (by first | exact (fun h => h) | exact zT1 (by omega) | (show ¬ (_ ∨ _); omega) | (show ¬ (_ ∧ _); omega))
      have fT83 := fT67.fr hf79 (by first | exact (fun h => h) | exact zT1 (by omega) | (show ¬ (_ ∨ _); omega) | (show ¬ (_ ∧ _); omega)) (by first | exact (fun h => h) | exact zT1 (by omega) | (show ¬ (_ ∨ _); omega) | (show ¬ (_ ∧ _); omega))
      have fS84 := fS68.fr hf79 (fun s h1 h2 => by first | exact (fun h => h) | exact zT1 (by omega) | (show ¬ (_ ∨ _); omega) | (show ¬ (_ ∧ _); omega) | (show ¬ (_ < _); omega))
      have fC85 := fC69.fr hf79 (fun s h1 h2 => by first | exact (fun h => h) | exact zT1 (by omega) | (show ¬ (_ ∨ _); omega) | (show ¬ (_ ∧ _); omega) | (show ¬ (_ < _); omega))
      have fH86 := fH70.fr hf79 (fun s h1 => by first | exact (fun h => h) | exact zT1 (by omega) | (show ¬ (_ ∨ _); omega) | (show ¬ (_ ∧ _); omega) | (show ¬ (_ < _); omega))
      have hq87 := hq65.fr hf79 (by first | exact (fun h => h) | exact zT1 (by omega) | (show ¬ (_ ∨ _); omega) | (show ¬ (_ ∧ _); omega))
      have fZ88 := fZ71.fr hf79 (by first | exact (fun h => h) | exact zT1 (by omega) | (show ¬ (_ ∨ _); omega) | (show ¬ (_ ∧ _); omega))
      have fcap89 := (hf79.2.2.2 1203 (by first | exact (fun h => h) | exact zT1 (by omega) | (show ¬ (_ ∨ _); omega) | (show ¬ (_ ∧ _); omega))).trans fcap74
      refine z_aload_n 1 O dX5_save_38 rfl ?_
      refine z_getf kF_X5_39 O dX5_save_39 fO82.1 rfl ?_
      refine z_iload_n 2 O dX5_save_42 rfl ?_
      refine z_iconst 1 O dX5_save_43 (by decide +kernel) ?_
      refine z_zast O (by omega) dX5_save_44 fZ88.1 ⟨by omega, by omega⟩ (by omega) (by omega) (fun H90 hA91 hC92 => ?_)
      have hf93 := fZ88.ch hC92
      have ha94 : zZ (zEn x) H90 r78 1207 (a 1207) 2 (zU ik k 1) := ⟨hA91, fZ88.2⟩
      have fO95 := fO82.fr hf93 (by first | exact (fun h => h) | exact zT1 (by omega) | (show ¬ (_ ∨ _); omega) | (show ¬ (_ ∧ _); omega))
      have fT96 := fT83.fr hf93 (by first | exact (fun h => h) | exact zT1 (by omega) | (show ¬ (_ ∨ _); omega) | (show ¬ (_ ∧ _); omega)) (by first | exact (fun h => h) | exact zT1 (by omega) | (show ¬ (_ ∨ _); omega) | (show ¬ (_ ∧ _); omega))
      have fS97 := fS84.fr hf93 (fun s h1 h2 => by first | exact (fun h => h) | exact zT1 (by omega) | (show ¬ (_ ∨ _); omega) | (show ¬ (_ ∧ _); omega) | (show ¬ (_ < _); omega))
      have fC98 := fC85.fr hf93 (fun s h1 h2 => by first | exact (fun h => h) | exact zT1 (by omega) | (show ¬ (_ ∨ _); omega) | (show ¬ (_ ∧ _); omega) | (show ¬ (_ < _); omega))
      have fH99 := fH86.fr hf93 (fun s h1 => by first | exact (fun h => h) | exact zT1 (by omega) | (show ¬ (_ ∨ _); omega) | (show ¬ (_ ∧ _); omega) | (show ¬ (_ < _); omega))
      have hq100 := hq87.fr hf93 (by first | exact (fun h => h) | exact zT1 (by omega) | (show ¬ (_ ∨ _); omega) | (show ¬ (_ ∧ _); omega))
      have hz101 := hz80.fr hf93 (fun s h1 h2 => by first | exact (fun h => h) | exact zT1 (by omega) | (show ¬ (_ ∨ _); omega) | (show ¬ (_ ∧ _); omega) | (show ¬ (_ < _); omega))
      have fcap102 := (hf93.2.2.2 1203 (by first | exact (fun h => h) | exact zT1 (by omega) | (show ¬ (_ ∨ _); omega) | (show ¬ (_ ∧ _); omega))).trans fcap89
      refine z_aload_n 1 O dX5_save_45 rfl ?_
      refine z_getf kF_X5_21 O dX5_save_46 fO95.1 rfl ?_
      obtain ⟨hO103, _⟩ := id fS97
      refine z_Vi [] [] kM_X5_106 O dX5_save_49 (c_X2_sumOfValues hst fS97 hG) rfl rfl hO103.1 (by decide) (Nat.le_of_ble_eq_true rfl) (by omega) (by omega) (Nat.le_of_ble_eq_true rfl) zNx ?_
      refine z_meter (fun hc1 hc2 => ?_)
      rw [hH] at hc1 hc2
      have hfa : zFr H r H90 r78 (fun s => 1024 ≤ s ∧ s < 1300) := (((((((((hf37.up (fun s h => by first | exact h.elim | omega | (simp at h ⊢; omega)))).tr (hf52.up (fun s h => by first | exact h.elim | omega | (simp at h ⊢; omega))))).tr (hf64.up (fun s h => by first | exact h.elim | omega | (simp at h ⊢; omega))))).tr (hf79.up (fun s h => by first | exact h.elim | omega | (simp at h ⊢; omega))))).tr (hf93.up (fun s h => by first | exact h.elim | omega | (simp at h ⊢; omega))))
      have hp0 := zPh_fr (t := 0) hfa (fun s p q => by show ¬ (_ ∧ _); omega)
      have hp6 := zPh_fr (t := 64) hfa (fun s p q => by show ¬ (_ ∧ _); omega)
      have hgv : zGv H r H90 r78 := by unfold zGv zPs; omega
      have hL9 := fL44.set (T := (fun s => (1024 + 64 * k.toNat ≤ s ∧ s < 1024 + 64 * k.toNat + 64) ∨ s = 1206 ∨ s = 1207)) ((((hf52.up (fun s h => by first | exact h.elim | omega | (simp at h ⊢; omega))).tr (hf64.up (fun s h => by first | exact h.elim | omega | (simp at h ⊢; omega)))).tr (hf79.up (fun s h => by first | exact h.elim | omega | (simp at h ⊢; omega)))).tr (hf93.up (fun s h => by first | exact h.elim | omega | (simp at h ⊢; omega)))) (i := k) (by omega) (by omega) (fun s p1 p2 p3 => by (show ¬ (_ ∨ _); omega)) (fun s hs => ha1 s (by omega)) hz101
      exact z_ireti O dX5_save_52 rfl (by omega) (by omega) hpo (by rfl) (⟨(by unfold cSl; (repeat first | rw [if_pos (by omega)] | rw [if_neg (by omega)])), r78, a1, ha1 1200 (by omega), hfa.up (fun s h => h.2), hgv, nx, fl, F, _, _, (zFw.mk2 (fun s hs => ha1 s (by omega)) fO95 fT96 fcap102 fS97 fC98 fH99 (by rw [ha1 1206 (by omega)]; exact ⟨hq100.1.to (fun i i0 i1 => by unfold zUr; by_cases y : i = k; (· rw [if_pos y, zOp_t (if_pos y), y, hb9]); (· rw [if_neg y]; exact (zOp_n (if_neg y) (ha1 _ (by omega))).symm)), hq100.2⟩) hL9 ha94), hhr, hkr.save (by omega)⟩)
  · skip
    exact z_Svm [.int (iI k)] [] kM_X5_273 O dX5_save_1 ((c_X5_requireSlotN hst hzk hd1).to (post' := zRv (fun _ => False)) (fun _ _ hh => hh.elim) (fun _ _ hh => hh)) rfl rfl (by decide) (Nat.le_of_ble_eq_true rfl) (by omega) (by omega) (Nat.le_of_ble_eq_true rfl) (fun X H1 hh => by rw [hpx]; exact ⟨Or.inl ⟨(by unfold cSl; (repeat first | rw [if_pos (by omega)] | rw [if_neg (by omega)])), hh.1⟩, hh.2⟩) (fun H1 hp hz => hp.elim)

theorem c_X5_restore {E : zE} (hst : E.1.stackTraces = false) {H : Heap} {r : zH} {a : Nat → Nat} {n : Int} {tx G : Int → Int} {fi ac : Int} {dd : Nat → Int → Int} {kp ik : Int → Int} {N : Int} {k : Int} (h : zCm E H r a n tx G fi ac dd kp ik) (hOK : cOK n tx G fi ac dd kp ik N) (hzk : zR k) : zC E yX5_restore cX5_restore 3 (some .int) 7 117 [.ref (a 1200), .int (iI k)] H 14 6296 (zRi (zSum 16 (fun j => kp (4086 * k + j))) (fun H1 => cRe ik k = 0 ∧ zCp E H r a n tx (fun j => kp (4086 * k + j)) fi 0 dd kp ik H1)) (zXc (cRe ik k) xB xS "" H) := by
  refine zC.of2 (by decide) (Nat.le_of_ble_eq_true rfl) hst ?_
  intro x O hE hpo hpx hH
  subst hE
  change zG x H 0 0 0 [(0, .ref (a 1200)), (1, .int (iI k))] []
  obtain ⟨nx, fl, F, sf, KS, hfw, hhr, hkr⟩ := id h
  obtain ⟨fO, fT, fcap, fS, ⟨S, fC⟩, fH, fQ, fL, fZ⟩ := id hfw
  obtain ⟨⟨hn, hx, hG, hN, hfi, hac, hik⟩, hdd, hkk⟩ := hOK
  refine z_iload_n 1 O dX5_restore_0 rfl ?_
  by_cases hd1 : 0 ≤ k ∧ k ≤ 1
  · skip
    refine z_Sv [.int (iI k)] [] kM_X5_273 O dX5_restore_1 (c_X5_requireSlotY hst hzk hd1) rfl rfl (by decide) (Nat.le_of_ble_eq_true rfl) (by omega) (by omega) (Nat.le_of_ble_eq_true rfl) zNx ?_
    by_cases hsf : sf k = true
    · skip
      refine z_aload_n 0 O dX5_restore_4 rfl ?_
      refine z_getf kF_X5_35 O dX5_restore_5 fO.1 rfl ?_
      refine z_iload_n 1 O dX5_restore_8 rfl ?_
      refine z_aald (T := 0) (by decide) O dX5_restore_9 fQ.1 ⟨by omega, by omega⟩ (by omega) (by omega) ?_
      change zG x _ _ _ _ _ (va_rf (zOp sf (fun i => a (1024 + 64 * i.toNat)) k) :: _)
      rw [zOp_t hsf]
      change zG x _ _ _ _ _ (.ref (a (1024 + 64 * k.toNat)) :: _)
      have hk9 := fL.at (i := k) (by omega) (by omega) hsf
      refine z_astore_n [(2, .ref (a (1024 + 64 * k.toNat))), (0, .ref (a 1200)), (1, .int (iI k))] O dX5_restore_10 (by decide) rfl ?_
      refine z_aload_n 0 O dX5_restore_11 rfl ?_
      refine z_ifnull O dX5_restore_12 ?_
      refine z_aload_n 1 O dX5_restore_15 rfl ?_
      refine z_getf kF_X5_39 O dX5_restore_16 fO.1 rfl ?_
      have hkb := hik k (by omega) (by omega)
      refine z_iload_n 2 O dX5_restore_19 rfl ?_
      refine z_zald O dX5_restore_20 fZ.1 ⟨by omega, by omega⟩ (by omega) (by omega) ?_
      refine z_if_ne 35 O dX5_restore_21 (by decide) ⟨by omega, by omega⟩ (fun c_21 => ?_) (fun c_21 => ?_)
      · skip
        refine z_aload_n 1 O dX5_restore_35 rfl ?_
        refine z_getf kF_X5_21 O dX5_restore_36 fO.1 rfl ?_
        refine z_aload_n 0 O dX5_restore_39 rfl ?_
        obtain ⟨hsO2, _⟩ := id fS
        have hk1 : ik k = 1 := by have := hik k (by omega) (by omega); omega
        have hk2 := hkr k (by omega) (by omega) hk1
        have hGk : sW (fun j => kp (4086 * k + j)) N := hkk k (by omega) (by omega) hk1
        have hGs : sW (KS k) N := hGk.cong hk2.2
        refine z_Vvm [.ref (a (1024 + 64 * k.toNat))] [] kM_X5_221 O dX5_restore_40 (c_X2_copyFrom hst fS hk9 hGs (by omega)) rfl rfl hsO2.1 (by decide) (Nat.le_of_ble_eq_true rfl) (by omega) (by omega) (Nat.le_of_ble_eq_true rfl) zNx (fun H3 hp4 hz5 => ?_)
        obtain ⟨r6, hf7, fS8, hmo9⟩ := hp4
        have fS10 : zSt (zEn x) H3 r6 a 0 (fun j => kp (4086 * k + j)) := fS8.to hGs (fun j j0 j1 => (hk2.2 j j0 j1).symm)
        have fO11 := fO.fr hf7 (by first | exact (fun h => h) | exact zT1 (by omega) | (show ¬ (_ ∨ _); omega) | (show ¬ (_ ∧ _); omega))
        have fT12 := fT.fr hf7 (by first | exact (fun h => h) | exact zT1 (by omega) | (show ¬ (_ ∨ _); omega) | (show ¬ (_ ∧ _); omega)) (by first | exact (fun h => h) | exact zT1 (by omega) | (show ¬ (_ ∨ _); omega) | (show ¬ (_ ∧ _); omega))
        have fC13 := fC.fr hf7 (fun s h1 h2 => by first | exact (fun h => h) | exact zT1 (by omega) | (show ¬ (_ ∨ _); omega) | (show ¬ (_ ∧ _); omega) | (show ¬ (_ < _); omega))
        have fH14 := fH.fr hf7 (fun s h1 => by first | exact (fun h => h) | exact zT1 (by omega) | (show ¬ (_ ∨ _); omega) | (show ¬ (_ ∧ _); omega) | (show ¬ (_ < _); omega))
        have fQ15 := fQ.fr hf7 (by first | exact (fun h => h) | exact zT1 (by omega) | (show ¬ (_ ∨ _); omega) | (show ¬ (_ ∧ _); omega))
        have fL16 := fL.fr hf7 (fun s h1 h2 => by first | exact (fun h => h) | exact zT1 (by omega) | (show ¬ (_ ∨ _); omega) | (show ¬ (_ ∧ _); omega) | (show ¬ (_ < _); omega))
        have fZ17 := fZ.fr hf7 (by first | exact (fun h => h) | exact zT1 (by omega) | (show ¬ (_ ∨ _); omega) | (show ¬ (_ ∧ _); omega))
        have fcap18 := (hf7.2.2.2 1203 (by first | exact (fun h => h) | exact zT1 (by omega) | (show ¬ (_ ∨ _); omega) | (show ¬ (_ ∧ _); omega))).trans fcap
        have hp0 := zPh_le (t := 0) hmo9
        have hp6 := zPh_le (t := 64) hmo9
        refine z_meter (fun hb1 hb2 => ?_)
        rw [hH] at hb1 hb2
        refine z_aload_n 1 O dX5_restore_43 rfl ?_
        refine z_getf kF_X5_31 O dX5_restore_44 fO11.1 rfl ?_
        obtain ⟨hsO19, _⟩ := id fH14
        refine z_Vvm [] [] kM_X5_96 O dX5_restore_47 (c_X0_forgetAll hst fH14) rfl rfl hsO19.1 (by decide) (Nat.le_of_ble_eq_true rfl) (by omega) (by omega) (Nat.le_of_ble_eq_true rfl) zNx (fun H20 hp21 hz22 => ?_)
        obtain ⟨hf23, fH24⟩ := hp21
        have fO25 := fO11.fr hf23 (by first | exact (fun h => h) | exact zT1 (by omega) | (show ¬ (_ ∨ _); omega) | (show ¬ (_ ∧ _); omega))
        have fT26 := fT12.fr hf23 (by first | exact (fun h => h) | exact zT1 (by omega) | (show ¬ (_ ∨ _); omega) | (show ¬ (_ ∧ _); omega)) (by first | exact (fun h => h) | exact zT1 (by omega) | (show ¬ (_ ∨ _); omega) | (show ¬ (_ ∧ _); omega))
        have fS27 := fS10.fr hf23 (fun s h1 h2 => by first | exact (fun h => h) | exact zT1 (by omega) | (show ¬ (_ ∨ _); omega) | (show ¬ (_ ∧ _); omega) | (show ¬ (_ < _); omega))
        have fC28 := fC13.fr hf23 (fun s h1 h2 => by first | exact (fun h => h) | exact zT1 (by omega) | (show ¬ (_ ∨ _); omega) | (show ¬ (_ ∧ _); omega) | (show ¬ (_ < _); omega))
        have fQ29 := fQ15.fr hf23 (by first | exact (fun h => h) | exact zT1 (by omega) | (show ¬ (_ ∨ _); omega) | (show ¬ (_ ∧ _); omega))
        have fL30 := fL16.fr hf23 (fun s h1 h2 => by first | exact (fun h => h) | exact zT1 (by omega) | (show ¬ (_ ∨ _); omega) | (show ¬ (_ ∧ _); omega) | (show ¬ (_ < _); omega))
        have fZ31 := fZ17.fr hf23 (by first | exact (fun h => h) | exact zT1 (by omega) | (show ¬ (_ ∨ _); omega) | (show ¬ (_ ∧ _); omega))
        have fcap32 := (hf23.2.2.2 1203 (by first | exact (fun h => h) | exact zT1 (by omega) | (show ¬ (_ ∨ _); omega) | (show ¬ (_ ∧ _); omega))).trans fcap18
        refine z_meter (fun hb1 hb2 => ?_)
        rw [hH] at hb1 hb2
        refine z_aload_n 1 O dX5_restore_50 rfl ?_
        refine z_getf kF_X5_21 O dX5_restore_51 fO25.1 rfl ?_
        obtain ⟨hO33, _⟩ := id fS27
        refine z_Vi [] [] kM_X5_106 O dX5_restore_54 (c_X2_sumOfValues hst fS27 hGk) rfl rfl hO33.1 (by decide) (Nat.le_of_ble_eq_true rfl) (by omega) (by omega) (Nat.le_of_ble_eq_true rfl) zNx ?_
        refine z_meter (fun hc1 hc2 => ?_)
        rw [hH] at hc1 hc2
        have hgv : zGv H r H20 r6 := by unfold zGv zPs; omega
        exact z_ireti O dX5_restore_57 rfl (by omega) (by omega) hpo (by rfl) (⟨(by unfold cRe; (repeat first | rw [if_pos (by omega)] | rw [if_neg (by omega)])), r6, a, rfl, (((hf7.up (fun s h => by first | exact h.elim | (show _ < _; omega) | omega | (simp at h ⊢; omega)))).tr (hf23.up (fun s h => by first | exact h.elim | (show _ < _; omega) | omega | (simp at h ⊢; omega)))), hgv, nx, fl, F, sf, KS, (zFw.mk (fun _ _ => rfl) fO25 fT26 fcap32 fS27 fC28 fH24 fQ29 fL30 fZ31), hRel.no, hkr⟩)
      · skip
        exact z_throwXW kT_54_276_58 O dX5_restore_24 dX5_restore_27 dX5_restore_28 dX5_restore_31 dX5_restore_34 (by decide) (Nat.le_of_ble_eq_true rfl) (by omega) (by omega) (fun H1 hs1 hz1 hz2 => by rw [hH] at hz1 hz2; rw [hpx]; exact ⟨Or.inr (Or.inl ⟨(by unfold cRe; (repeat first | rw [if_pos (by omega)] | rw [if_neg (by omega)])), rfl⟩), hs1, hz1, hz2⟩)
    · skip
      refine z_aload_n 0 O dX5_restore_4 rfl ?_
      refine z_getf kF_X5_35 O dX5_restore_5 fO.1 rfl ?_
      refine z_iload_n 1 O dX5_restore_8 rfl ?_
      refine z_aald (T := 0) (by decide) O dX5_restore_9 fQ.1 ⟨by omega, by omega⟩ (by omega) (by omega) ?_
      change zG x _ _ _ _ _ (va_rf (zOp sf (fun i => a (1024 + 64 * i.toNat)) k) :: _)
      rw [zOp_f hsf]
      change zG x _ _ _ _ _ (.null :: _)
      refine z_astore_nN [(2, .null), (0, .ref (a 1200)), (1, .int (iI k))] O dX5_restore_10 (by decide) rfl ?_
      refine z_aload_nN 0 O dX5_restore_11 rfl ?_
      refine z_ifnullN 24 O dX5_restore_12 (by decide) ?_
      have hk0 : ik k = 0 := by have h1 := hik k (by omega) (by omega); have h2 : ik k ≠ 1 := fun q => hsf (hkr k (by omega) (by omega) q).1; omega
      exact z_throwXW kT_54_276_58 O dX5_restore_24 dX5_restore_27 dX5_restore_28 dX5_restore_31 dX5_restore_34 (by decide) (Nat.le_of_ble_eq_true rfl) (by omega) (by omega) (fun H1 hs1 hz1 hz2 => by rw [hH] at hz1 hz2; rw [hpx]; exact ⟨Or.inr (Or.inl ⟨(by unfold cRe; (repeat first | rw [if_pos (by omega)] | rw [if_neg (by omega)])), rfl⟩), hs1, hz1, hz2⟩)
  · skip
    exact z_Svm [.int (iI k)] [] kM_X5_273 O dX5_restore_1 ((c_X5_requireSlotN hst hzk hd1).to (post' := zRv (fun _ => False)) (fun _ _ hh => hh.elim) (fun _ _ hh => hh)) rfl rfl (by decide) (Nat.le_of_ble_eq_true rfl) (by omega) (by omega) (Nat.le_of_ble_eq_true rfl) (fun X H1 hh => by rw [hpx]; exact ⟨Or.inl ⟨(by unfold cRe; (repeat first | rw [if_pos (by omega)] | rw [if_neg (by omega)])), hh.1⟩, hh.2⟩) (fun H1 hp hz => hp.elim)

