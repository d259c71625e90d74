/-! the class: its object, tests that throw, actions (written by program: wip/whole/gen/class15.py) -/
theorem c_X5_existingWorkerY {E : zE} (hst : E.1.stackTraces = false) {H : Heap} {r : zH} {a : Nat → Nat} {G : Int → Int} {N w : Int} (fO : zO E H r 1200 (a 1200) 5 [.ref (a 1202), .ref (a 0), .ref (a 64), .ref (a 1204), .ref (a 1206), .ref (a 1207)]) (fS : zSt E H r a 0 G) (hG : sW G N) (hz : zR w) (hw : 0 ≤ w ∧ w ≤ 2) : zC E yX5_existingWorker cX5_existingWorker 3 (some (.object "ForgivenWork$Worker")) 6 90 [.ref (a 1200), .int (iI w)] H 0 0 (zRr (some (a (0 + 6 + 16 * w.toNat))) (zSm H)) zN := by
  refine zC.of (by decide) (Nat.le_of_ble_eq_true rfl) hst ?_
  intro x O hE hpo hpx
  subst hE
  change zG x H 0 0 0 [(0, .ref (a 1200)), (1, .int (iI w))] []
  refine z_aload_n 0 O dX5_existingWorker_0 rfl ?_
  refine z_getf kF_X5_21 O dX5_existingWorker_1 fO.1 rfl ?_
  refine z_iload_n 1 O dX5_existingWorker_4 rfl ?_
  obtain ⟨hO1, _⟩ := id fS
  refine z_Vr [.int (iI w)] [] kM_X5_232 O dX5_existingWorker_5 (by have c := c_X2_workerAt hst fS hG hz; rw [if_pos (by omega)] at c; exact c) rfl rfl hO1.1 (by decide) (Nat.le_of_ble_eq_true rfl) (by omega) (by omega) (Nat.le_of_ble_eq_true rfl) zNx ?_
  refine z_astore_n [(2, .ref (a (0 + 6 + 16 * w.toNat))), (0, .ref (a 1200)), (1, .int (iI w))] O dX5_existingWorker_8 (by decide) rfl ?_
  refine z_aload_n 0 O dX5_existingWorker_9 rfl ?_
  refine z_ifnonnull 24 O dX5_existingWorker_10 (by decide) ?_
  refine z_aload_n 0 O dX5_existingWorker_24 rfl ?_
  exact z_iretr O dX5_existingWorker_25 rfl (by first | exact Or.inl ⟨_, rfl⟩ | exact Or.inr ⟨_, rfl⟩) (by omega) (by omega) hpo (by rfl) (rfl)

theorem c_X5_existingWorkerN {E : zE} (hst : E.1.stackTraces = false) {H : Heap} {r : zH} {a : Nat → Nat} {G : Int → Int} {N w : Int} (fO : zO E H r 1200 (a 1200) 5 [.ref (a 1202), .ref (a 0), .ref (a 64), .ref (a 1204), .ref (a 1206), .ref (a 1207)]) (fS : zSt E H r a 0 G) (hG : sW G N) (hz : zR w) (hw : ¬ (0 ≤ w ∧ w ≤ 2)) : zC E yX5_existingWorker cX5_existingWorker 3 (some (.object "ForgivenWork$Worker")) 6 90 [.ref (a 1200), .int (iI w)] H 1 6 (zNv) (zT1x xB H) := by
  refine zC.of2 (by decide) (Nat.le_of_ble_eq_true rfl) hst ?_
  intro x O hE hpo hpx hH
  subst hE
  change zG x H 0 0 0 [(0, .ref (a 1200)), (1, .int (iI w))] []
  refine z_aload_n 0 O dX5_existingWorker_0 rfl ?_
  refine z_getf kF_X5_21 O dX5_existingWorker_1 fO.1 rfl ?_
  refine z_iload_n 1 O dX5_existingWorker_4 rfl ?_
  obtain ⟨hO1, _⟩ := id fS
  refine z_Vr [.int (iI w)] [] kM_X5_232 O dX5_existingWorker_5 (by have c := c_X2_workerAt hst fS hG hz; rw [if_neg (by omega)] at c; exact c) rfl rfl hO1.1 (by decide) (Nat.le_of_ble_eq_true rfl) (by omega) (by omega) (Nat.le_of_ble_eq_true rfl) zNx ?_
  refine z_astore_nN [(2, .null), (0, .ref (a 1200)), (1, .int (iI w))] O dX5_existingWorker_8 (by decide) rfl ?_
  refine z_aload_nN 0 O dX5_existingWorker_9 rfl ?_
  refine z_ifnonnullN O dX5_existingWorker_10 ?_
  exact z_throwXW kT_156_278_160 O dX5_existingWorker_13 dX5_existingWorker_16 dX5_existingWorker_17 dX5_existingWorker_20 dX5_existingWorker_23 (by decide) (Nat.le_of_ble_eq_true rfl) (by omega) (by omega) (fun H1 hs1 hz1 hz2 => by rw [hH] at hz1 hz2; rw [hpx]; exact ⟨rfl, hs1, hz1, hz2⟩)

theorem c_X5_requireCellY {E : zE} (hst : E.1.stackTraces = false) {H : Heap} {c : Int} (hz : zR c) (hc : 0 ≤ c ∧ c ≤ 15) : zC E yX5_requireCell cX5_requireCell 1 none 6 90 [.int (iI c)] H 0 0 (zRv (zSm H)) zN := by
  refine zC.of (by decide) (Nat.le_of_ble_eq_true rfl) hst ?_
  intro x O hE hpo hpx
  subst hE
  change zG x H 0 0 0 [(0, .int (iI c))] []
  have hb : sBt c 0 15 = true := sBt_t.mpr hc
  refine z_iload_n 0 O dX5_requireCell_0 rfl ?_
  refine z_Si [.int (iI c)] [] kM_X5_280 O dX5_requireCell_1 (by have c9 := c_X5_isCell hst (H := H) (c := c) hz; rw [hb] at c9; exact c9) rfl rfl (by decide) (Nat.le_of_ble_eq_true rfl) (by omega) (by omega) (Nat.le_of_ble_eq_true rfl) zNx ?_
  refine z_ifb_ne 18 O dX5_requireCell_4 (by decide) (fun c_4 => ?_) (fun c_4 => ?_)
  · skip
    exact z_iretv O dX5_requireCell_18 rfl (by omega) (by omega) hpo (rfl)
  · exfalso; exact absurd c_4 (by decide)

theorem c_X5_requireCellN {E : zE} (hst : E.1.stackTraces = false) {H : Heap} {c : Int} (hz : zR c) (hc : ¬ (0 ≤ c ∧ c ≤ 15)) : zC E yX5_requireCell cX5_requireCell 1 none 6 90 [.int (iI c)] H 1 6 (zNv) (zT1x xB H) := by
  refine zC.of2 (by decide) (Nat.le_of_ble_eq_true rfl) hst ?_
  intro x O hE hpo hpx hH
  subst hE
  change zG x H 0 0 0 [(0, .int (iI c))] []
  have hb : sBt c 0 15 = false := sBt_f.mpr hc
  refine z_iload_n 0 O dX5_requireCell_0 rfl ?_
  refine z_Si [.int (iI c)] [] kM_X5_280 O dX5_requireCell_1 (by have c9 := c_X5_isCell hst (H := H) (c := c) hz; rw [hb] at c9; exact c9) rfl rfl (by decide) (Nat.le_of_ble_eq_true rfl) (by omega) (by omega) (Nat.le_of_ble_eq_true rfl) zNx ?_
  refine z_ifb_ne 18 O dX5_requireCell_4 (by decide) (fun c_4 => ?_) (fun c_4 => ?_)
  · exfalso; exact absurd c_4 (by decide)
  · skip
    exact z_throwXW kT_156_283_160 O dX5_requireCell_7 dX5_requireCell_10 dX5_requireCell_11 dX5_requireCell_14 dX5_requireCell_17 (by decide) (Nat.le_of_ble_eq_true rfl) (by omega) (by omega) (fun H1 hs1 hz1 hz2 => by rw [hH] at hz1 hz2; rw [hpx]; exact ⟨rfl, hs1, hz1, hz2⟩)

theorem c_X5_requireSlotY {E : zE} (hst : E.1.stackTraces = false) {H : Heap} {c : Int} (hz : zR c) (hc : 0 ≤ c ∧ c ≤ 1) : zC E yX5_requireSlot cX5_requireSlot 1 none 6 90 [.int (iI c)] H 0 0 (zRv (zSm H)) zN := by
  refine zC.of (by decide) (Nat.le_of_ble_eq_true rfl) hst ?_
  intro x O hE hpo hpx
  subst hE
  change zG x H 0 0 0 [(0, .int (iI c))] []
  refine z_iload_n 0 O dX5_requireSlot_0 rfl ?_
  refine z_if_lt 9 O dX5_requireSlot_1 (by decide) ⟨by omega, by omega⟩ (fun c_1 => ?_) (fun c_1 => ?_)
  · exfalso; omega
  · skip
    refine z_iload_n 0 O dX5_requireSlot_4 rfl ?_
    refine z_iconst 2 O dX5_requireSlot_5 (by decide +kernel) ?_
    refine z_icmp_lt 20 O dX5_requireSlot_6 (by decide) ⟨by omega, by omega⟩ ⟨by omega, by omega⟩ (fun c_6 => ?_) (fun c_6 => ?_)
    · skip
      exact z_iretv O dX5_requireSlot_20 rfl (by omega) (by omega) hpo (rfl)
    · exfalso; omega

theorem c_X5_requireSlotN {E : zE} (hst : E.1.stackTraces = false) {H : Heap} {c : Int} (hz : zR c) (hc : ¬ (0 ≤ c ∧ c ≤ 1)) : zC E yX5_requireSlot cX5_requireSlot 1 none 6 90 [.int (iI c)] H 1 6 (zNv) (zT1x xB H) := by
  refine zC.of2 (by decide) (Nat.le_of_ble_eq_true rfl) hst ?_
  intro x O hE hpo hpx hH
  subst hE
  change zG x H 0 0 0 [(0, .int (iI c))] []
  refine z_iload_n 0 O dX5_requireSlot_0 rfl ?_
  refine z_if_lt 9 O dX5_requireSlot_1 (by decide) ⟨by omega, by omega⟩ (fun c_1 => ?_) (fun c_1 => ?_)
  · skip
    exact z_throwXW kT_156_290_160 O dX5_requireSlot_9 dX5_requireSlot_12 dX5_requireSlot_13 dX5_requireSlot_16 dX5_requireSlot_19 (by decide) (Nat.le_of_ble_eq_true rfl) (by omega) (by omega) (fun H1 hs1 hz1 hz2 => by rw [hH] at hz1 hz2; rw [hpx]; exact ⟨rfl, hs1, hz1, hz2⟩)
  · skip
    refine z_iload_n 0 O dX5_requireSlot_4 rfl ?_
    refine z_iconst 2 O dX5_requireSlot_5 (by decide +kernel) ?_
    refine z_icmp_lt 20 O dX5_requireSlot_6 (by decide) ⟨by omega, by omega⟩ ⟨by omega, by omega⟩ (fun c_6 => ?_) (fun c_6 => ?_)
    · skip
      exfalso; omega
    · skip
      exact z_throwXW kT_156_290_160 O dX5_requireSlot_9 dX5_requireSlot_12 dX5_requireSlot_13 dX5_requireSlot_16 dX5_requireSlot_19 (by decide) (Nat.le_of_ble_eq_true rfl) (by omega) (by omega) (fun H1 hs1 hz1 hz2 => by rw [hH] at hz1 hz2; rw [hpx]; exact ⟨rfl, hs1, hz1, hz2⟩)

theorem c_X5_requirePointY {E : zE} (hst : E.1.stackTraces = false) {H : Heap} {r : zH} {a : Nat → Nat} {t : Nat} {w : Int} {G : Int → Int} {N i : Int} (h : zWkr E H r a t w G) (hG : sW G N) (hw : 0 ≤ w ∧ w ≤ 2) (hz : zR i) (hp : sHp G w i = true) : zC E yX5_requirePoint cX5_requirePoint 2 none 6 90 [.ref (a t), .int (iI i)] H 0 0 (zRv (zSm H)) zN := by
  refine zC.of (by decide) (Nat.le_of_ble_eq_true rfl) hst ?_
  intro x O hE hpo hpx
  subst hE
  change zG x H 0 0 0 [(0, .ref (a t)), (1, .int (iI i))] []
  obtain ⟨np, f1, f2, V, hO, hQ, hLg, hRg, hPL, hPR, hWs, hRl⟩ := id h
  have hm := hG.m hw
  have hl := hG.l hw
  refine z_aload_n 0 O dX5_requirePoint_0 rfl ?_
  refine z_iload_n 1 O dX5_requirePoint_1 rfl ?_
  refine z_Vi [.int (iI i)] [] kM_X5_285 O dX5_requirePoint_2 (by have c := c_X4_hasPoint hst h hG hw hz; rw [hp] at c; exact c) rfl rfl hO.1 (by decide) (Nat.le_of_ble_eq_true rfl) (by omega) (by omega) (Nat.le_of_ble_eq_true rfl) zNx ?_
  refine z_ifb_ne 19 O dX5_requirePoint_5 (by decide) (fun c_5 => ?_) (fun c_5 => ?_)
  · skip
    exact z_iretv O dX5_requirePoint_19 rfl (by omega) (by omega) hpo (rfl)
  · exfalso; exact absurd c_5 (by decide)

theorem c_X5_requirePointN {E : zE} (hst : E.1.stackTraces = false) {H : Heap} {r : zH} {a : Nat → Nat} {t : Nat} {w : Int} {G : Int → Int} {N i : Int} (h : zWkr E H r a t w G) (hG : sW G N) (hw : 0 ≤ w ∧ w ≤ 2) (hz : zR i) (hp : sHp G w i = false) : zC E yX5_requirePoint cX5_requirePoint 2 none 6 90 [.ref (a t), .int (iI i)] H 1 6 (zNv) (zT1x xB H) := by
  refine zC.of2 (by decide) (Nat.le_of_ble_eq_true rfl) hst ?_
  intro x O hE hpo hpx hH
  subst hE
  change zG x H 0 0 0 [(0, .ref (a t)), (1, .int (iI i))] []
  obtain ⟨np, f1, f2, V, hO, hQ, hLg, hRg, hPL, hPR, hWs, hRl⟩ := id h
  have hm := hG.m hw
  have hl := hG.l hw
  refine z_aload_n 0 O dX5_requirePoint_0 rfl ?_
  refine z_iload_n 1 O dX5_requirePoint_1 rfl ?_
  refine z_Vi [.int (iI i)] [] kM_X5_285 O dX5_requirePoint_2 (by have c := c_X4_hasPoint hst h hG hw hz; rw [hp] at c; exact c) rfl rfl hO.1 (by decide) (Nat.le_of_ble_eq_true rfl) (by omega) (by omega) (Nat.le_of_ble_eq_true rfl) zNx ?_
  refine z_ifb_ne 19 O dX5_requirePoint_5 (by decide) (fun c_5 => ?_) (fun c_5 => ?_)
  · exfalso; exact absurd c_5 (by decide)
  · skip
    exact z_throwXW kT_156_288_160 O dX5_requirePoint_8 dX5_requirePoint_11 dX5_requirePoint_12 dX5_requirePoint_15 dX5_requirePoint_18 (by decide) (Nat.le_of_ble_eq_true rfl) (by omega) (by omega) (fun H1 hs1 hz1 hz2 => by rw [hH] at hz1 hz2; rw [hpx]; exact ⟨rfl, hs1, hz1, hz2⟩)

theorem zFw.mk {E : zE} {H : Heap} {r : zH} {a a1 : Nat → Nat} {n : Int} {tx G S : Int → Int} {nx cn : Int} {fl : Int → Bool} {F : Int → Int → Int} {sf : Int → Bool} {KS : Int → Int → Int} {ik : Int → Int} (ha : ∀ s : Nat, ¬ (128 ≤ s ∧ s < 1024) → a1 s = a s)
    (fO : zO E H r 1200 (a 1200) 5 [.ref (a 1202), .ref (a 0), .ref (a 64), .ref (a 1204), .ref (a 1206), .ref (a 1207)]) (fT : zRow E H r 1202 (a 1202) 120 n tx) (fcap : r.2 1203 = 120) (fS : zSt E H r a 0 G) (fC : zSt E H r a 64 S) (fH : zHy E H r a1 nx cn fl F)
    (fQ : zQr E H r 1206 (a 1206) 2 2 (zOp sf (fun i => a (1024 + 64 * i.toNat)))) (fL : zSl E H r a sf KS) (fZ : zZ E H r 1207 (a 1207) 2 ik) : zFw E H r a1 n tx G nx cn fl F sf KS ik := by
  refine ⟨by rw [ha 1200 (by omega), ha 1202 (by omega), ha 0 (by omega), ha 64 (by omega), ha 1204 (by omega), ha 1206 (by omega), ha 1207 (by omega)]; exact fO, by rw [ha 1202 (by omega)]; exact fT, fcap, fS.a (fun s p q => ha s (by omega)), ⟨S, fC.a (fun s p q => ha s (by omega))⟩, fH, ?_, fun i hi hf => (fL i hi hf).a (fun s p q => ha s (by omega)), by rw [ha 1207 (by omega)]; exact fZ⟩
  rw [ha 1206 (by omega)]
  exact ⟨fQ.1.to (fun i i0 i1 => (zOp_n rfl (ha _ (by omega))).symm), fQ.2⟩
theorem c_X5_actY {E : zE} (hst : E.1.stackTraces = false) {H : Heap} {r : zH} {a : Nat → Nat} {n : Int} {tx G : Int → Int} {fi ac : Int} {dd : Nat → Int → Int} {kp ik : Int → Int} {N : Int} {w k u v : Int} (h : zCm E H r a n tx G fi ac dd kp ik) (hOK : cOK n tx G fi ac dd kp ik N) (hw : 0 ≤ w ∧ w ≤ 2) (hk : 0 ≤ k ∧ k ≤ 6) (hu : zR u) (hv : zR v) (ha : alD G k w u v = true) : zC E yX5_act cX5_act 5 (some .int) 6 164 [.ref (a 1200), .int (iI k), .ref (a (0 + 6 + 16 * w.toNat)), .int (iI u), .int (iI v)] H 1089 27157 (zRi (vlD G k w u v) (zCp E H r a n tx (opD G k w u v) (mFi fi ac) (mAc ac) (zDw dd (mIx fi ac) G) kp ik)) zN := by
  refine zC.of2 (by decide) (Nat.le_of_ble_eq_true rfl) hst ?_
  intro x O hE hpo hpx hH
  subst hE
  change zG x H 0 0 0 [(0, .ref (a 1200)), (1, .int (iI k)), (2, .ref (a (0 + 6 + 16 * w.toNat))), (3, .int (iI u)), (4, .int (iI v))] []
  obtain ⟨nx, fl, F, sf, KS, hfw, hhr, hkr⟩ := id h
  obtain ⟨fO, fT, fcap, fS, ⟨S, fC⟩, fH, fQ, fL, fZ⟩ := id hfw
  obtain ⟨⟨hn, hx, hG, hN, hfi, hac, hik⟩, hdd, hkk⟩ := hOK
  have hm1 : mAc ac = min 14 (ac + 1) := by unfold mAc; split <;> omega
  refine z_aload_n 0 O dX5_act_0 rfl ?_
  refine z_getf kF_X5_21 O dX5_act_1 fO.1 rfl ?_
  refine z_iload_n 1 O dX5_act_4 rfl ?_
  refine z_aload_n 2 O dX5_act_5 rfl ?_
  refine z_iload_n 3 O dX5_act_6 rfl ?_
  refine z_iload 4 O dX5_act_7 rfl ?_
  obtain ⟨hO1, _⟩ := id fS
  refine z_Vi [.int (iI k), .ref (a (0 + 6 + 16 * w.toNat)), .int (iI u), .int (iI v)] [] kM_X5_292 O dX5_act_9 (by have c := c_X2_allows hst fS hG hw hk hu hv; rw [ha] at c; exact c) rfl rfl hO1.1 (by decide) (Nat.le_of_ble_eq_true rfl) (by omega) (by omega) (Nat.le_of_ble_eq_true rfl) zNx ?_
  refine z_ifb_ne 26 O dX5_act_12 (by decide) (fun c_12 => ?_) (fun c_12 => ?_)
  · skip
    refine z_aload_n 0 O dX5_act_26 rfl ?_
    refine z_getf kF_X5_31 O dX5_act_27 fO.1 rfl ?_
    refine z_aload_n 0 O dX5_act_30 rfl ?_
    refine z_getf kF_X5_21 O dX5_act_31 fO.1 rfl ?_
    obtain ⟨hO2, _⟩ := id fH
    refine z_Vvm [.ref (a 0)] [] kM_X5_204 O dX5_act_34 (c_X0_remember hst fH fS hG (by decide)) rfl rfl hO2.1 (by decide) (Nat.le_of_ble_eq_true rfl) (by omega) (by omega) (Nat.le_of_ble_eq_true rfl) zNx (fun H3 hp4 hz5 => ?_)
    obtain ⟨r6, a1, ha1, hf7, fH8⟩ := hp4
    have fO9 := fO.fr hf7 (by first | exact (fun h => h) | exact zT1 (by omega) | (show ¬ (_ ∨ _); omega) | (show ¬ (_ ∧ _); omega))
    have fT10 := fT.fr hf7 (by first | exact (fun h => h) | exact zT1 (by omega) | (show ¬ (_ ∨ _); omega) | (show ¬ (_ ∧ _); omega)) (by first | exact (fun h => h) | exact zT1 (by omega) | (show ¬ (_ ∨ _); omega) | (show ¬ (_ ∧ _); omega))
    have fS11 := fS.fr hf7 (fun s h1 h2 => by first | exact (fun h => h) | exact zT1 (by omega) | (show ¬ (_ ∨ _); omega) | (show ¬ (_ ∧ _); omega) | (show ¬ (_ < _); omega))
    have fC12 := fC.fr hf7 (fun s h1 h2 => by first | exact (fun h => h) | exact zT1 (by omega) | (show ¬ (_ ∨ _); omega) | (show ¬ (_ ∧ _); omega) | (show ¬ (_ < _); omega))
    have fQ13 := fQ.fr hf7 (by first | exact (fun h => h) | exact zT1 (by omega) | (show ¬ (_ ∨ _); omega) | (show ¬ (_ ∧ _); omega))
    have fL14 := fL.fr hf7 (fun s h1 h2 => by first | exact (fun h => h) | exact zT1 (by omega) | (show ¬ (_ ∨ _); omega) | (show ¬ (_ ∧ _); omega) | (show ¬ (_ < _); omega))
    have fZ15 := fZ.fr hf7 (by first | exact (fun h => h) | exact zT1 (by omega) | (show ¬ (_ ∨ _); omega) | (show ¬ (_ ∧ _); omega))
    have fcap16 := (hf7.2.2.2 1203 (by first | exact (fun h => h) | exact zT1 (by omega) | (show ¬ (_ ∨ _); omega) | (show ¬ (_ ∧ _); omega))).trans fcap
    have hp0 := zPh_fr (t := 0) hf7 (fun s p q => by show ¬ (_ ∨ _); omega)
    have hp6 := zPh_fr (t := 64) hf7 (fun s p q => by show ¬ (_ ∨ _); omega)
    refine z_meter (fun hb1 hb2 => ?_)
    rw [hH] at hb1 hb2
    refine z_aload_n 0 O dX5_act_37 rfl ?_
    refine z_getf kF_X5_21 O dX5_act_38 fO9.1 rfl ?_
    refine z_iload_n 1 O dX5_act_41 rfl ?_
    refine z_aload_n 2 O dX5_act_42 rfl ?_
    refine z_iload_n 3 O dX5_act_43 rfl ?_
    refine z_iload 4 O dX5_act_44 rfl ?_
    obtain ⟨hO17, _⟩ := id fS11
    refine z_Vim [.int (iI k), .ref (a (0 + 6 + 16 * w.toNat)), .int (iI u), .int (iI v)] [] kM_X5_298 O dX5_act_46 (c_X2_perform hst fS11 hG hN hw hk hu hv ha) rfl rfl hO17.1 (by decide) (Nat.le_of_ble_eq_true rfl) (by omega) (by omega) (Nat.le_of_ble_eq_true rfl) zNx (fun H18 hp19 hz20 => ?_)
    obtain ⟨r21, hf22, hg23, fS24⟩ := hp19
    have fO25 := fO9.fr hf22 (by first | exact (fun h => h) | exact zT1 (by omega) | (show ¬ (_ ∨ _); omega) | (show ¬ (_ ∧ _); omega))
    have fT26 := fT10.fr hf22 (by first | exact (fun h => h) | exact zT1 (by omega) | (show ¬ (_ ∨ _); omega) | (show ¬ (_ ∧ _); omega)) (by first | exact (fun h => h) | exact zT1 (by omega) | (show ¬ (_ ∨ _); omega) | (show ¬ (_ ∧ _); omega))
    have fC27 := fC12.fr hf22 (fun s h1 h2 => by first | exact (fun h => h) | exact zT1 (by omega) | (show ¬ (_ ∨ _); omega) | (show ¬ (_ ∧ _); omega) | (show ¬ (_ < _); omega))
    have fH28 := fH8.fr hf22 (fun s h1 => by first | exact (fun h => h) | exact zT1 (by omega) | (show ¬ (_ ∨ _); omega) | (show ¬ (_ ∧ _); omega) | (show ¬ (_ < _); omega))
    have fQ29 := fQ13.fr hf22 (by first | exact (fun h => h) | exact zT1 (by omega) | (show ¬ (_ ∨ _); omega) | (show ¬ (_ ∧ _); omega))
    have fL30 := fL14.fr hf22 (fun s h1 h2 => by first | exact (fun h => h) | exact zT1 (by omega) | (show ¬ (_ ∨ _); omega) | (show ¬ (_ ∧ _); omega) | (show ¬ (_ < _); omega))
    have fZ31 := fZ15.fr hf22 (by first | exact (fun h => h) | exact zT1 (by omega) | (show ¬ (_ ∨ _); omega) | (show ¬ (_ ∧ _); omega))
    have fcap32 := (hf22.2.2.2 1203 (by first | exact (fun h => h) | exact zT1 (by omega) | (show ¬ (_ ∨ _); omega) | (show ¬ (_ ∧ _); omega))).trans fcap16
    have hg1 := hg23.1
    have hg2 := hg23.2
    have hq6 := zPh_fr (t := 64) hf22 (fun s p q => by show ¬ (_ ∧ _); omega)
    have hgv : zGv H r H18 r21 := by unfold zGv zPs; omega
    exact z_ireti O dX5_act_49 rfl (by omega) (by omega) hpo (by rfl) (⟨r21, a1, ha1 1200 (by omega), (((hf7.up (fun s h => by first | exact h.elim | (show _ < _; omega) | omega | (simp at h ⊢; omega)))).tr (hf22.up (fun s h => by first | exact h.elim | (show _ < _; omega) | omega | (simp at h ⊢; omega)))), hgv, _, _, _, sf, KS, (by rw [hm1]; exact (zFw.mk ha1 fO25 fT26 fcap32 fS24 fC27 fH28 fQ29 fL30 fZ31)), (by rw [hm1]; exact hhr.rem fH.2.2.1 hac hfi), hkr⟩)
  · exfalso; exact absurd c_12 (by decide)

theorem c_X5_actN {E : zE} (hst : E.1.stackTraces = false) {H : Heap} {r : zH} {a : Nat → Nat} {n : Int} {tx G : Int → Int} {fi ac : Int} {dd : Nat → Int → Int} {kp ik : Int → Int} {N : Int} {w k u v : Int} (h : zCm E H r a n tx G fi ac dd kp ik) (hOK : cOK n tx G fi ac dd kp ik N) (hw : 0 ≤ w ∧ w ≤ 2) (hk : 0 ≤ k ∧ k ≤ 6) (hu : zR u) (hv : zR v) (ha : alD G k w u v = false) : zC E yX5_act cX5_act 5 (some .int) 6 164 [.ref (a 1200), .int (iI k), .ref (a (0 + 6 + 16 * w.toNat)), .int (iI u), .int (iI v)] H 1 6 (zNv) (zT1x xS H) := by
  refine zC.of2 (by decide) (Nat.le_of_ble_eq_true rfl) hst ?_
  intro x O hE hpo hpx hH
  subst hE
  change zG x H 0 0 0 [(0, .ref (a 1200)), (1, .int (iI k)), (2, .ref (a (0 + 6 + 16 * w.toNat))), (3, .int (iI u)), (4, .int (iI v))] []
  obtain ⟨nx, fl, F, sf, KS, hfw, hhr, hkr⟩ := id h
  obtain ⟨fO, fT, fcap, fS, ⟨S, fC⟩, fH, fQ, fL, fZ⟩ := id hfw
  obtain ⟨⟨hn, hx, hG, hN, hfi, hac, hik⟩, hdd, hkk⟩ := hOK
  refine z_aload_n 0 O dX5_act_0 rfl ?_
  refine z_getf kF_X5_21 O dX5_act_1 fO.1 rfl ?_
  refine z_iload_n 1 O dX5_act_4 rfl ?_
  refine z_aload_n 2 O dX5_act_5 rfl ?_
  refine z_iload_n 3 O dX5_act_6 rfl ?_
  refine z_iload 4 O dX5_act_7 rfl ?_
  obtain ⟨hO1, _⟩ := id fS
  refine z_Vi [.int (iI k), .ref (a (0 + 6 + 16 * w.toNat)), .int (iI u), .int (iI v)] [] kM_X5_292 O dX5_act_9 (by have c := c_X2_allows hst fS hG hw hk hu hv; rw [ha] at c; exact c) rfl rfl hO1.1 (by decide) (Nat.le_of_ble_eq_true rfl) (by omega) (by omega) (Nat.le_of_ble_eq_true rfl) zNx ?_
  refine z_ifb_ne 26 O dX5_act_12 (by decide) (fun c_12 => ?_) (fun c_12 => ?_)
  · exfalso; exact absurd c_12 (by decide)
  · skip
    exact z_throwXW kT_54_296_58 O dX5_act_15 dX5_act_18 dX5_act_19 dX5_act_22 dX5_act_25 (by decide) (Nat.le_of_ble_eq_true rfl) (by omega) (by omega) (fun H1 hs1 hz1 hz2 => by rw [hH] at hz1 hz2; rw [hpx]; exact ⟨rfl, hs1, hz1, hz2⟩)

