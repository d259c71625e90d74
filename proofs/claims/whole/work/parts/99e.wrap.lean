/-! the law: its calls of the class (written by program: wip/whole/gen/class29.py) -/
theorem zCm.fr {E : zE} {H H1 : Heap} {r r1 : zH} {a : Nat → Nat} {n : Int} {tx G : Int → Int} {fi ac : Int} {dd : Nat → Int → Int} {kp ik : Int → Int} {T : Nat → Prop} (h : zCm E H r a n tx G fi ac dd kp ik) (f : zFr H r H1 r1 T) (m : ∀ s, s < 1300 → ¬ T s) : zCm E H1 r1 a n tx G fi ac dd kp ik := by
  obtain ⟨nx, fl, F, sf, KS, ⟨f1, f2, f3, f4, ⟨S, f5⟩, f6, f7, f8, f9⟩, h2, h3⟩ := h
  exact ⟨nx, fl, F, sf, KS, ⟨f1.fr f (m _ (by omega)), f2.fr f (m _ (by omega)) (m _ (by omega)), (f.2.2.2 1203 (m _ (by omega))).trans f3, f4.fr f (fun s p q => m s (by omega)), ⟨S, f5.fr f (fun s p q => m s (by omega))⟩, f6.fr f (fun s p => m s (by omega)), f7.fr f (m _ (by omega)), f8.fr f (fun s p q => m s (by omega)), f9.fr f (m _ (by omega))⟩, h2, h3⟩
theorem zEx.frr {H H1 : Heap} {r : zH} {T : Nat → Prop} (h : zEx H H1) : zFr H r H1 r T := ⟨h.1, fun _ _ => rfl, fun q hq _ => h.2 q hq, fun _ _ => rfl⟩
theorem zLI.sz {E : zE} {H : Heap} {q : Nat} {v : Int64} (h : zLI E H q v) : (H[q]?).map (fun c => c.slots.size) = some 1 := by
  obtain ⟨⟨f, h1, h2⟩, h3⟩ := h
  have h1 : H[q]? = some (vp_cell _ _) := h1
  rw [h1, vp_cell_l]
  show some ((arrV _ _ _).slots.size) = _
  rw [arrV_size]
theorem zSz_ch {E : zE} {H H1 : Heap} {q : Nat} {u v : Int64} (c : zCh H H1 q) (h : zLI E H q u) (h1 : zLI E H1 q v) : zSz H1 = zSz H := by
  unfold zSz
  congr 1
  apply List.ext_getElem?
  intro i
  rw [List.getElem?_map, List.getElem?_map, Array.getElem?_toList, Array.getElem?_toList]
  by_cases z : i = q
  · subst z; rw [h1.sz, h.sz]
  · rw [c.2 i z]
/-- what a call by the law leaves: the code c, the value v -/
def zWo (E : zE) (H : Heap) (r : zH) (a : Nat → Nat) (qo : Nat) (c v : Int) (n : Int) (tx G : Int → Int) (fi ac : Int) (dd : Nat → Int → Int) (kp ik : Int → Int) : Heap → Prop := fun H1 =>
  (c = 0 ∧ ∃ (r1 : zH) (a1 : Nat → Nat), a1 1200 = a 1200 ∧ zFr H r H1 r1 (fun s => s ≤ 1300) ∧ zGv H r H1 r1 ∧ zCm E H1 r1 a1 n tx G fi ac dd kp ik ∧ zLA E H1 r1 1300 qo (iI v).toInt64) ∨ (¬ c = 0 ∧ zExs H H1)
theorem zh_B {pc : Nat} {s1 e1 t1 : Nat} {suf : List (Nat × Nat × Nat × Nat)} (h : s1 ≤ pc ∧ pc < e1) : zHdl RL ((s1, e1, t1, 28) :: suf) pc xB t1 := ⟨[], s1, e1, 28, suf, rfl, h, by decide, (List.mem_of_getElem? (i := 638) (by decide +kernel)), (List.mem_of_getElem? (i := 648) (by decide +kernel)), fun z hz => nomatch hz⟩
theorem zh_A {pc : Nat} {s1 e1 t1 : Nat} {suf : List (Nat × Nat × Nat × Nat)} (h : s1 ≤ pc ∧ pc < e1) : zHdl RL ((s1, e1, t1, 13) :: suf) pc xA t1 := ⟨[], s1, e1, 13, suf, rfl, h, by decide, (List.mem_of_getElem? (i := 371) (by decide +kernel)), (List.mem_of_getElem? (i := 379) (by decide +kernel)), fun z hz => nomatch hz⟩
theorem zh_S {pc : Nat} {s1 e1 t1 : Nat} {suf : List (Nat × Nat × Nat × Nat)} (h : s1 ≤ pc ∧ pc < e1) : zHdl RL ((s1, e1, t1, 15) :: suf) pc xS t1 := ⟨[], s1, e1, 15, suf, rfl, h, by decide, (List.mem_of_getElem? (i := 372) (by decide +kernel)), (List.mem_of_getElem? (i := 446) (by decide +kernel)), fun z hz => nomatch hz⟩
theorem zHdl.beB {hh : List (Nat × Nat × Nat × Nat)} {pc : Nat} {X : String} {t s1 e1 t1 : Nat} (h : zHdl RL hh pc X t) (hn : ∀ (E : zE) (U : State) (H : Heap), zKn E U H → va_Nc X "java/lang/IndexOutOfBoundsException" U) : zHdl RL ((s1, e1, t1, 28) :: hh) pc X t := by
  obtain ⟨pre, s, e, k, suf, h1, h2, h3, h4, h5, h6⟩ := h
  refine ⟨(s1, e1, t1, 28) :: pre, s, e, k, suf, by rw [h1]; rfl, h2, h3, h4, h5, fun z hz => ?_⟩
  rcases List.mem_cons.mp hz with rfl | hz
  · show (28 : Nat) ≠ 0 ∧ ∃ N, Cond.classLink RL 28 N ∈ lw_tbl ∧ _
    exact ⟨by decide, _, (List.mem_of_getElem? (i := 638) (by decide +kernel)), hn⟩
  · exact h6 z hz
theorem zHdl.beA {hh : List (Nat × Nat × Nat × Nat)} {pc : Nat} {X : String} {t s1 e1 t1 : Nat} (h : zHdl RL hh pc X t) (hn : ∀ (E : zE) (U : State) (H : Heap), zKn E U H → va_Nc X "java/lang/IllegalArgumentException" U) : zHdl RL ((s1, e1, t1, 13) :: hh) pc X t := by
  obtain ⟨pre, s, e, k, suf, h1, h2, h3, h4, h5, h6⟩ := h
  refine ⟨(s1, e1, t1, 13) :: pre, s, e, k, suf, by rw [h1]; rfl, h2, h3, h4, h5, fun z hz => ?_⟩
  rcases List.mem_cons.mp hz with rfl | hz
  · show (13 : Nat) ≠ 0 ∧ ∃ N, Cond.classLink RL 13 N ∈ lw_tbl ∧ _
    exact ⟨by decide, _, (List.mem_of_getElem? (i := 371) (by decide +kernel)), hn⟩
  · exact h6 z hz
theorem zn_SB (E : zE) (U : State) (H : Heap) (h : zKn E U H) : va_Nc xS "java/lang/IndexOutOfBoundsException" U := h.2.2.2.2.2.2.2.2.2.1
theorem zn_AB (E : zE) (U : State) (H : Heap) (h : zKn E U H) : va_Nc xA "java/lang/IndexOutOfBoundsException" U := h.2.2.2.2.2.2.2.2.2.2.1
theorem zn_SA (E : zE) (U : State) (H : Heap) (h : zKn E U H) : va_Nc xS "java/lang/IllegalArgumentException" U := h.2.2.2.2.2.2.2.2.2.2.2
theorem kM_L_7 : zMV RL 7 yX5_append cX5_append 2 (some .int) 1 5 := ⟨⟨(List.mem_of_getElem? (i := 38) (by decide +kernel)), (List.mem_of_getElem? (i := 376) (by decide +kernel)), by decide +kernel, by decide +kernel, by decide +kernel⟩, (List.mem_of_getElem? (i := 373) (by decide +kernel)), (List.mem_of_getElem? (i := 374) (by decide +kernel)), (List.mem_of_getElem? (i := 375) (by decide +kernel)), ⟨_, rfl, rfl⟩⟩
theorem c_L_append {E : zE} (hst : E.1.stackTraces = false) {qo : Nat} {u0 : Int64} {H : Heap} {r : zH} {a : Nat → Nat} {n : Int} {tx G : Int → Int} {fi ac : Int} {dd : Nat → Int → Int} {kp ik : Int → Int} {N : Int} {v : Int} (h : zCm E H r a n tx G fi ac dd kp ik) (hOK : cOK n tx G fi ac dd kp ik N) (hzv : zR v) (hLA : zLA E H r 1300 qo u0) : zCH E yL_append cL_append 4 (some .int) [(0, 9, 12, 13), (0, 9, 15, 15)] 7 112 [.ref (a 1200), .int (iI v), .ref qo] H 1 6 (zRi (cApp n v) (zWo E H r a qo (cApp n v) (n + 1) (n + 1) (zU tx n v) G fi ac dd kp ik)) := by
  refine zCH.of (by decide) (Nat.le_of_ble_eq_true rfl) hst ?_
  intro x O hE hpo hpx
  subst hE
  have hLA0 := hLA
  have h0 := h
  obtain ⟨_, _, _, _, _, ⟨fO, _⟩, _⟩ := id h
  change zG x H 0 0 0 [(0, .ref (a 1200)), (1, .int (iI v)), (2, .ref qo)] []
  refine z_aload_nh 2 O dL_append_0 rfl ?_
  refine z_iconsth 0 O dL_append_1 (by decide +kernel) ?_
  refine z_aload_nh 0 O dL_append_2 rfl ?_
  refine z_iload_nh 1 O dL_append_3 rfl ?_
  refine z_invVh (As := [.int (iI v)]) (rest := [.int (iI 0), .ref qo]) (q := a 1200) kM_L_7 O dL_append_4 (c_X5_append hst h hOK hzv) rfl fO.1 (by decide) (Nat.le_of_ble_eq_true rfl) (by omega) (by omega) (Nat.le_of_ble_eq_true rfl) (fun X H1 hp hz => ?_) (fun v H1 hp hz => ?_)
  · obtain ⟨⟨hc, rfl⟩ | ⟨hc, rfl⟩ | ⟨hc, rfl⟩, hx⟩ := hp
    · refine ⟨12, (zh_A ⟨by omega, by omega⟩), fun q1 => ?_⟩
      refine z_astore_nh [(3, .ref q1), (0, .ref (a 1200)), (1, .int (iI v)), (2, .ref qo)] O dL_append_12 (by decide) rfl ?_
      refine z_iconsth 1 O dL_append_13 (by decide +kernel) ?_
      exact z_ireturnh O dL_append_14 rfl (by omega) (by omega) (by rw [hpo]; exact ⟨by rw [hc], Or.inr ⟨by rw [hc]; decide, hx⟩⟩)
    · refine ⟨15, ((zh_S ⟨by omega, by omega⟩).beA zn_SA), fun q1 => ?_⟩
      refine z_astore_nh [(3, .ref q1), (0, .ref (a 1200)), (1, .int (iI v)), (2, .ref qo)] O dL_append_15 (by decide) rfl ?_
      refine z_iconsth 2 O dL_append_16 (by decide +kernel) ?_
      exact z_ireturnh O dL_append_17 rfl (by omega) (by omega) (by rw [hpo]; exact ⟨by rw [hc], Or.inr ⟨by rw [hc]; decide, hx⟩⟩)
    · exfalso; revert hc; unfold cApp; (repeat' split) <;> omega
  · obtain ⟨rfl, hc, hcp⟩ := hp
    obtain ⟨r1, a1, ha1, hfr, hgv, hcm⟩ := hcp
    have hL1 := hLA0.fr hfr (by show ¬ (_ < _); omega)
    refine z_i2lRh O dL_append_7 ?_
    refine z_lasth O dL_append_8 hL1.1 (fun H2 hL2 hC2 => ?_)
    have hf2 := hL1.ch hC2
    refine z_gotoh 18 O dL_append_9 (by decide) ?_
    refine z_iconsth 0 O dL_append_18 (by decide +kernel) ?_
    exact z_ireturnh O dL_append_19 rfl (by omega) (by omega) (by rw [hpo]; exact ⟨by rw [hc], Or.inl ⟨hc, r1, a1, ha1, ((hfr.up (fun s h => by have : s < 1300 := h; show s ≤ 1300; omega)).tr (hf2.up (fun s h => by have : s = 1300 := h; show s ≤ 1300; omega))), by have := hgv; unfold zGv at *; have := hC2.1; have := zSz_ch hC2 hL1.1 hL2; omega, hcm.fr hf2 (fun s h => by show ¬ (_ = _); omega), ⟨hL2, hL1.2⟩⟩⟩)
theorem kM_L_17 : zMV RL 17 yX5_load cX5_load 3 (some .int) 0 5 := ⟨⟨(List.mem_of_getElem? (i := 38) (by decide +kernel)), (List.mem_of_getElem? (i := 467) (by decide +kernel)), by decide +kernel, by decide +kernel, by decide +kernel⟩, (List.mem_of_getElem? (i := 464) (by decide +kernel)), (List.mem_of_getElem? (i := 465) (by decide +kernel)), (List.mem_of_getElem? (i := 466) (by decide +kernel)), ⟨_, rfl, rfl⟩⟩
theorem c_L_load {E : zE} (hst : E.1.stackTraces = false) {qo : Nat} {u0 : Int64} {H : Heap} {r : zH} {a : Nat → Nat} {n : Int} {tx G : Int → Int} {fi ac : Int} {dd : Nat → Int → Int} {kp ik : Int → Int} {N : Int} (h : zCm E H r a n tx G fi ac dd kp ik) (hOK : cOK n tx G fi ac dd kp ik N) (hLA : zLA E H r 1300 qo u0) : zCH E yL_load cL_load 3 (some .int) [(0, 8, 11, 15)] 9 234 [.ref (a 1200), .ref qo] H 13566 277336 (zRi (cLd n tx) (zWo E H r a qo (cLd n tx) ((tAll n tx).2.1) n tx (tAll n tx).2.2 fi 0 dd kp (fun _ => 0))) := by
  refine zCH.of (by decide) (Nat.le_of_ble_eq_true rfl) hst ?_
  intro x O hE hpo hpx
  subst hE
  have hLA0 := hLA
  have h0 := h
  obtain ⟨_, _, _, _, _, ⟨fO, _⟩, _⟩ := id h
  change zG x H 0 0 0 [(0, .ref (a 1200)), (1, .ref qo)] []
  refine z_aload_nh 1 O dL_load_0 rfl ?_
  refine z_iconsth 0 O dL_load_1 (by decide +kernel) ?_
  refine z_aload_nh 0 O dL_load_2 rfl ?_
  refine z_invVh (As := []) (rest := [.int (iI 0), .ref qo]) (q := a 1200) kM_L_17 O dL_load_3 (c_X5_load hst h hOK) rfl fO.1 (by decide) (Nat.le_of_ble_eq_true rfl) (by omega) (by omega) (Nat.le_of_ble_eq_true rfl) (fun X H1 hp hz => ?_) (fun v H1 hp hz => ?_)
  · obtain ⟨⟨hc, rfl⟩ | ⟨hc, rfl⟩ | ⟨hc, rfl⟩, hx⟩ := hp
    · refine ⟨11, (zh_S ⟨by omega, by omega⟩), fun q1 => ?_⟩
      refine z_astore_nh [(2, .ref q1), (0, .ref (a 1200)), (1, .ref qo)] O dL_load_11 (by decide) rfl ?_
      refine z_iconsth 1 O dL_load_12 (by decide +kernel) ?_
      exact z_ireturnh O dL_load_13 rfl (by omega) (by omega) (by rw [hpo]; exact ⟨by rw [hc], Or.inr ⟨by rw [hc]; decide, hx⟩⟩)
    · exfalso; revert hc; unfold cLd; (repeat' split) <;> omega
    · exfalso; revert hc; unfold cLd; (repeat' split) <;> omega
  · obtain ⟨rfl, hc, hcp⟩ := hp
    obtain ⟨r1, a1, ha1, hfr, hgv, hcm⟩ := hcp
    have hL1 := hLA0.fr hfr (by show ¬ (_ < _); omega)
    refine z_i2lRh O dL_load_6 ?_
    refine z_lasth O dL_load_7 hL1.1 (fun H2 hL2 hC2 => ?_)
    have hf2 := hL1.ch hC2
    refine z_gotoh 14 O dL_load_8 (by decide) ?_
    refine z_iconsth 0 O dL_load_14 (by decide +kernel) ?_
    exact z_ireturnh O dL_load_15 rfl (by omega) (by omega) (by rw [hpo]; exact ⟨by rw [hc], Or.inl ⟨hc, r1, a1, ha1, ((hfr.up (fun s h => by have : s < 1300 := h; show s ≤ 1300; omega)).tr (hf2.up (fun s h => by have : s = 1300 := h; show s ≤ 1300; omega))), by have := hgv; unfold zGv at *; have := hC2.1; have := zSz_ch hC2 hL1.1 hL2; omega, hcm.fr hf2 (fun s h => by show ¬ (_ = _); omega), ⟨hL2, hL1.2⟩⟩⟩)
theorem kM_L_21 : zMV RL 21 yX5_about cX5_about 2 (some .int) 1 5 := ⟨⟨(List.mem_of_getElem? (i := 38) (by decide +kernel)), (List.mem_of_getElem? (i := 617) (by decide +kernel)), by decide +kernel, by decide +kernel, by decide +kernel⟩, (List.mem_of_getElem? (i := 614) (by decide +kernel)), (List.mem_of_getElem? (i := 615) (by decide +kernel)), (List.mem_of_getElem? (i := 616) (by decide +kernel)), ⟨_, rfl, rfl⟩⟩
theorem c_L_about {E : zE} (hst : E.1.stackTraces = false) {qo : Nat} {u0 : Int64} {H : Heap} {r : zH} {a : Nat → Nat} {n : Int} {tx G : Int → Int} {fi ac : Int} {dd : Nat → Int → Int} {kp ik : Int → Int} {N : Int} {k : Int} (h : zCm E H r a n tx G fi ac dd kp ik) (hOK : cOK n tx G fi ac dd kp ik N) (hzk : zR k) (hLA : zLA E H r 1300 qo u0) : zCH E yL_about cL_about 4 (some .int) [(0, 9, 12, 13)] 7 111 [.ref (a 1200), .int (iI k), .ref qo] H 1 6 (zRi (cAb k) (zWo E H r a qo (cAb k) (vAb G k) n tx G fi ac dd kp ik)) := by
  refine zCH.of (by decide) (Nat.le_of_ble_eq_true rfl) hst ?_
  intro x O hE hpo hpx
  subst hE
  have hLA0 := hLA
  have h0 := h
  obtain ⟨_, _, _, _, _, ⟨fO, _⟩, _⟩ := id h
  change zG x H 0 0 0 [(0, .ref (a 1200)), (1, .int (iI k)), (2, .ref qo)] []
  refine z_aload_nh 2 O dL_about_0 rfl ?_
  refine z_iconsth 0 O dL_about_1 (by decide +kernel) ?_
  refine z_aload_nh 0 O dL_about_2 rfl ?_
  refine z_iload_nh 1 O dL_about_3 rfl ?_
  refine z_invVh (As := [.int (iI k)]) (rest := [.int (iI 0), .ref qo]) (q := a 1200) kM_L_21 O dL_about_4 (c_X5_about hst h hOK hzk) rfl fO.1 (by decide) (Nat.le_of_ble_eq_true rfl) (by omega) (by omega) (Nat.le_of_ble_eq_true rfl) (fun X H1 hp hz => ?_) (fun v H1 hp hz => ?_)
  · obtain ⟨⟨hc, rfl⟩ | ⟨hc, rfl⟩ | ⟨hc, rfl⟩, hx⟩ := hp
    · refine ⟨12, (zh_A ⟨by omega, by omega⟩), fun q1 => ?_⟩
      refine z_astore_nh [(3, .ref q1), (0, .ref (a 1200)), (1, .int (iI k)), (2, .ref qo)] O dL_about_12 (by decide) rfl ?_
      refine z_iconsth 1 O dL_about_13 (by decide +kernel) ?_
      exact z_ireturnh O dL_about_14 rfl (by omega) (by omega) (by rw [hpo]; exact ⟨by rw [hc], Or.inr ⟨by rw [hc]; decide, hx⟩⟩)
    · exfalso; revert hc; unfold cAb; (repeat' split) <;> omega
    · exfalso; revert hc; unfold cAb; (repeat' split) <;> omega
  · obtain ⟨rfl, hc, rfl⟩ := hp
    have hcp : ∃ (r1 : zH) (a1 : Nat → Nat), a1 1200 = a 1200 ∧ zFr H1 r H1 r1 (fun s => s < 1300) ∧ zGv H1 r H1 r1 ∧ zCm (zEn x) H1 r1 a1 n tx G fi ac dd kp ik := ⟨r, a, rfl, zFr.rf, zGv.rf, h0⟩
    obtain ⟨r1, a1, ha1, hfr, hgv, hcm⟩ := hcp
    have hL1 := hLA0.fr hfr (by show ¬ (_ < _); omega)
    refine z_i2lRh O dL_about_7 ?_
    refine z_lasth O dL_about_8 hL1.1 (fun H2 hL2 hC2 => ?_)
    have hf2 := hL1.ch hC2
    refine z_gotoh 15 O dL_about_9 (by decide) ?_
    refine z_iconsth 0 O dL_about_15 (by decide +kernel) ?_
    exact z_ireturnh O dL_about_16 rfl (by omega) (by omega) (by rw [hpo]; exact ⟨by rw [hc], Or.inl ⟨hc, r1, a1, ha1, ((hfr.up (fun s h => by have : s < 1300 := h; show s ≤ 1300; omega)).tr (hf2.up (fun s h => by have : s = 1300 := h; show s ≤ 1300; omega))), by have := hgv; unfold zGv at *; have := hC2.1; have := zSz_ch hC2 hL1.1 hL2; omega, hcm.fr hf2 (fun s h => by show ¬ (_ = _); omega), ⟨hL2, hL1.2⟩⟩⟩)
theorem kM_L_24 : zMV RL 24 yX5_cell cX5_cell 3 (some .int) 2 5 := ⟨⟨(List.mem_of_getElem? (i := 38) (by decide +kernel)), (List.mem_of_getElem? (i := 642) (by decide +kernel)), by decide +kernel, by decide +kernel, by decide +kernel⟩, (List.mem_of_getElem? (i := 639) (by decide +kernel)), (List.mem_of_getElem? (i := 640) (by decide +kernel)), (List.mem_of_getElem? (i := 641) (by decide +kernel)), ⟨_, rfl, rfl⟩⟩
theorem c_L_cell {E : zE} (hst : E.1.stackTraces = false) {qo : Nat} {u0 : Int64} {H : Heap} {r : zH} {a : Nat → Nat} {n : Int} {tx G : Int → Int} {fi ac : Int} {dd : Nat → Int → Int} {kp ik : Int → Int} {N : Int} {c j : Int} (h : zCm E H r a n tx G fi ac dd kp ik) (hOK : cOK n tx G fi ac dd kp ik N) (hzc : zR c) (hzj : zR j) (hLA : zLA E H r 1300 qo u0) : zCH E yL_cell cL_cell 5 (some .int) [(0, 10, 13, 28), (0, 10, 17, 13)] 8 132 [.ref (a 1200), .int (iI c), .int (iI j), .ref qo] H 1 6 (zRi (cCe c j) (zWo E H r a qo (cCe c j) (vCe G c j) n tx G fi ac dd kp ik)) := by
  refine zCH.of (by decide) (Nat.le_of_ble_eq_true rfl) hst ?_
  intro x O hE hpo hpx
  subst hE
  have hLA0 := hLA
  have h0 := h
  obtain ⟨_, _, _, _, _, ⟨fO, _⟩, _⟩ := id h
  change zG x H 0 0 0 [(0, .ref (a 1200)), (1, .int (iI c)), (2, .int (iI j)), (3, .ref qo)] []
  refine z_aload_nh 3 O dL_cell_0 rfl ?_
  refine z_iconsth 0 O dL_cell_1 (by decide +kernel) ?_
  refine z_aload_nh 0 O dL_cell_2 rfl ?_
  refine z_iload_nh 1 O dL_cell_3 rfl ?_
  refine z_iload_nh 2 O dL_cell_4 rfl ?_
  refine z_invVh (As := [.int (iI c), .int (iI j)]) (rest := [.int (iI 0), .ref qo]) (q := a 1200) kM_L_24 O dL_cell_5 (c_X5_cell hst h hOK hzc hzj) rfl fO.1 (by decide) (Nat.le_of_ble_eq_true rfl) (by omega) (by omega) (Nat.le_of_ble_eq_true rfl) (fun X H1 hp hz => ?_) (fun v H1 hp hz => ?_)
  · obtain ⟨⟨hc, rfl⟩ | ⟨hc, rfl⟩ | ⟨hc, rfl⟩, hx⟩ := hp
    · refine ⟨13, (zh_B ⟨by omega, by omega⟩), fun q1 => ?_⟩
      refine z_astoreh [(4, .ref q1), (0, .ref (a 1200)), (1, .int (iI c)), (2, .int (iI j)), (3, .ref qo)] O dL_cell_13 (by decide) rfl ?_
      refine z_iconsth 1 O dL_cell_15 (by decide +kernel) ?_
      exact z_ireturnh O dL_cell_16 rfl (by omega) (by omega) (by rw [hpo]; exact ⟨by rw [hc], Or.inr ⟨by rw [hc]; decide, hx⟩⟩)
    · refine ⟨17, ((zh_A ⟨by omega, by omega⟩).beB zn_AB), fun q1 => ?_⟩
      refine z_astoreh [(4, .ref q1), (0, .ref (a 1200)), (1, .int (iI c)), (2, .int (iI j)), (3, .ref qo)] O dL_cell_17 (by decide) rfl ?_
      refine z_iconsth 2 O dL_cell_19 (by decide +kernel) ?_
      exact z_ireturnh O dL_cell_20 rfl (by omega) (by omega) (by rw [hpo]; exact ⟨by rw [hc], Or.inr ⟨by rw [hc]; decide, hx⟩⟩)
    · exfalso; revert hc; unfold cCe; (repeat' split) <;> omega
  · obtain ⟨rfl, hc, rfl⟩ := hp
    have hcp : ∃ (r1 : zH) (a1 : Nat → Nat), a1 1200 = a 1200 ∧ zFr H1 r H1 r1 (fun s => s < 1300) ∧ zGv H1 r H1 r1 ∧ zCm (zEn x) H1 r1 a1 n tx G fi ac dd kp ik := ⟨r, a, rfl, zFr.rf, zGv.rf, h0⟩
    obtain ⟨r1, a1, ha1, hfr, hgv, hcm⟩ := hcp
    have hL1 := hLA0.fr hfr (by show ¬ (_ < _); omega)
    refine z_i2lRh O dL_cell_8 ?_
    refine z_lasth O dL_cell_9 hL1.1 (fun H2 hL2 hC2 => ?_)
    have hf2 := hL1.ch hC2
    refine z_gotoh 21 O dL_cell_10 (by decide) ?_
    refine z_iconsth 0 O dL_cell_21 (by decide +kernel) ?_
    exact z_ireturnh O dL_cell_22 rfl (by omega) (by omega) (by rw [hpo]; exact ⟨by rw [hc], Or.inl ⟨hc, r1, a1, ha1, ((hfr.up (fun s h => by have : s < 1300 := h; show s ≤ 1300; omega)).tr (hf2.up (fun s h => by have : s = 1300 := h; show s ≤ 1300; omega))), by have := hgv; unfold zGv at *; have := hC2.1; have := zSz_ch hC2 hL1.1 hL2; omega, hcm.fr hf2 (fun s h => by show ¬ (_ = _); omega), ⟨hL2, hL1.2⟩⟩⟩)
theorem kM_L_30 : zMV RL 30 yX5_worker cX5_worker 4 (some .int) 2 5 := ⟨⟨(List.mem_of_getElem? (i := 38) (by decide +kernel)), (List.mem_of_getElem? (i := 673) (by decide +kernel)), by decide +kernel, by decide +kernel, by decide +kernel⟩, (List.mem_of_getElem? (i := 670) (by decide +kernel)), (List.mem_of_getElem? (i := 671) (by decide +kernel)), (List.mem_of_getElem? (i := 672) (by decide +kernel)), ⟨_, rfl, rfl⟩⟩
theorem c_L_worker {E : zE} (hst : E.1.stackTraces = false) {qo : Nat} {u0 : Int64} {H : Heap} {r : zH} {a : Nat → Nat} {n : Int} {tx G : Int → Int} {fi ac : Int} {dd : Nat → Int → Int} {kp ik : Int → Int} {N : Int} {w j : Int} (h : zCm E H r a n tx G fi ac dd kp ik) (hOK : cOK n tx G fi ac dd kp ik N) (hzw : zR w) (hzj : zR j) (hLA : zLA E H r 1300 qo u0) : zCH E yL_worker cL_worker 5 (some .int) [(0, 10, 13, 28), (0, 10, 17, 13)] 8 135 [.ref (a 1200), .int (iI w), .int (iI j), .ref qo] H 1 6 (zRi (cWo w j) (zWo E H r a qo (cWo w j) (vWo G w j) n tx G fi ac dd kp ik)) := by
  refine zCH.of (by decide) (Nat.le_of_ble_eq_true rfl) hst ?_
  intro x O hE hpo hpx
  subst hE
  have hLA0 := hLA
  have h0 := h
  obtain ⟨_, _, _, _, _, ⟨fO, _⟩, _⟩ := id h
  change zG x H 0 0 0 [(0, .ref (a 1200)), (1, .int (iI w)), (2, .int (iI j)), (3, .ref qo)] []
  refine z_aload_nh 3 O dL_worker_0 rfl ?_
  refine z_iconsth 0 O dL_worker_1 (by decide +kernel) ?_
  refine z_aload_nh 0 O dL_worker_2 rfl ?_
  refine z_iload_nh 1 O dL_worker_3 rfl ?_
  refine z_iload_nh 2 O dL_worker_4 rfl ?_
  refine z_invVh (As := [.int (iI w), .int (iI j)]) (rest := [.int (iI 0), .ref qo]) (q := a 1200) kM_L_30 O dL_worker_5 (c_X5_worker hst h hOK hzw hzj) rfl fO.1 (by decide) (Nat.le_of_ble_eq_true rfl) (by omega) (by omega) (Nat.le_of_ble_eq_true rfl) (fun X H1 hp hz => ?_) (fun v H1 hp hz => ?_)
  · obtain ⟨⟨hc, rfl⟩ | ⟨hc, rfl⟩ | ⟨hc, rfl⟩, hx⟩ := hp
    · refine ⟨13, (zh_B ⟨by omega, by omega⟩), fun q1 => ?_⟩
      refine z_astoreh [(4, .ref q1), (0, .ref (a 1200)), (1, .int (iI w)), (2, .int (iI j)), (3, .ref qo)] O dL_worker_13 (by decide) rfl ?_
      refine z_iconsth 1 O dL_worker_15 (by decide +kernel) ?_
      exact z_ireturnh O dL_worker_16 rfl (by omega) (by omega) (by rw [hpo]; exact ⟨by rw [hc], Or.inr ⟨by rw [hc]; decide, hx⟩⟩)
    · refine ⟨17, ((zh_A ⟨by omega, by omega⟩).beB zn_AB), fun q1 => ?_⟩
      refine z_astoreh [(4, .ref q1), (0, .ref (a 1200)), (1, .int (iI w)), (2, .int (iI j)), (3, .ref qo)] O dL_worker_17 (by decide) rfl ?_
      refine z_iconsth 2 O dL_worker_19 (by decide +kernel) ?_
      exact z_ireturnh O dL_worker_20 rfl (by omega) (by omega) (by rw [hpo]; exact ⟨by rw [hc], Or.inr ⟨by rw [hc]; decide, hx⟩⟩)
    · exfalso; revert hc; unfold cWo; (repeat' split) <;> omega
  · obtain ⟨rfl, hc, rfl⟩ := hp
    have hcp : ∃ (r1 : zH) (a1 : Nat → Nat), a1 1200 = a 1200 ∧ zFr H1 r H1 r1 (fun s => s < 1300) ∧ zGv H1 r H1 r1 ∧ zCm (zEn x) H1 r1 a1 n tx G fi ac dd kp ik := ⟨r, a, rfl, zFr.rf, zGv.rf, h0⟩
    obtain ⟨r1, a1, ha1, hfr, hgv, hcm⟩ := hcp
    have hL1 := hLA0.fr hfr (by show ¬ (_ < _); omega)
    refine z_i2lRh O dL_worker_8 ?_
    refine z_lasth O dL_worker_9 hL1.1 (fun H2 hL2 hC2 => ?_)
    have hf2 := hL1.ch hC2
    refine z_gotoh 21 O dL_worker_10 (by decide) ?_
    refine z_iconsth 0 O dL_worker_21 (by decide +kernel) ?_
    exact z_ireturnh O dL_worker_22 rfl (by omega) (by omega) (by rw [hpo]; exact ⟨by rw [hc], Or.inl ⟨hc, r1, a1, ha1, ((hfr.up (fun s h => by have : s < 1300 := h; show s ≤ 1300; omega)).tr (hf2.up (fun s h => by have : s = 1300 := h; show s ≤ 1300; omega))), by have := hgv; unfold zGv at *; have := hC2.1; have := zSz_ch hC2 hL1.1 hL2; omega, hcm.fr hf2 (fun s h => by show ¬ (_ = _); omega), ⟨hL2, hL1.2⟩⟩⟩)
theorem kM_L_33 : zMV RL 33 yX5_work cX5_work 6 (some .int) 3 5 := ⟨⟨(List.mem_of_getElem? (i := 38) (by decide +kernel)), (List.mem_of_getElem? (i := 688) (by decide +kernel)), by decide +kernel, by decide +kernel, by decide +kernel⟩, (List.mem_of_getElem? (i := 685) (by decide +kernel)), (List.mem_of_getElem? (i := 686) (by decide +kernel)), (List.mem_of_getElem? (i := 687) (by decide +kernel)), ⟨_, rfl, rfl⟩⟩
theorem c_L_work {E : zE} (hst : E.1.stackTraces = false) {qo : Nat} {u0 : Int64} {H : Heap} {r : zH} {a : Nat → Nat} {n : Int} {tx G : Int → Int} {fi ac : Int} {dd : Nat → Int → Int} {kp ik : Int → Int} {N : Int} {w i j : Int} (h : zCm E H r a n tx G fi ac dd kp ik) (hOK : cOK n tx G fi ac dd kp ik N) (hzw : zR w) (hzi : zR i) (hzj : zR j) (hLA : zLA E H r 1300 qo u0) : zCH E yL_work cL_work 6 (some .int) [(0, 12, 15, 28), (0, 12, 19, 13)] 8 137 [.ref (a 1200), .int (iI w), .int (iI i), .int (iI j), .ref qo] H 1 6 (zRi (cWk G w i j) (zWo E H r a qo (cWk G w i j) (vWk G w i j) n tx G fi ac dd kp ik)) := by
  refine zCH.of (by decide) (Nat.le_of_ble_eq_true rfl) hst ?_
  intro x O hE hpo hpx
  subst hE
  have hLA0 := hLA
  have h0 := h
  obtain ⟨_, _, _, _, _, ⟨fO, _⟩, _⟩ := id h
  change zG x H 0 0 0 [(0, .ref (a 1200)), (1, .int (iI w)), (2, .int (iI i)), (3, .int (iI j)), (4, .ref qo)] []
  refine z_aloadh 4 O dL_work_0 rfl ?_
  refine z_iconsth 0 O dL_work_2 (by decide +kernel) ?_
  refine z_aload_nh 0 O dL_work_3 rfl ?_
  refine z_iload_nh 1 O dL_work_4 rfl ?_
  refine z_iload_nh 2 O dL_work_5 rfl ?_
  refine z_iload_nh 3 O dL_work_6 rfl ?_
  refine z_invVh (As := [.int (iI w), .int (iI i), .int (iI j)]) (rest := [.int (iI 0), .ref qo]) (q := a 1200) kM_L_33 O dL_work_7 (c_X5_work hst h hOK hzw hzi hzj) rfl fO.1 (by decide) (Nat.le_of_ble_eq_true rfl) (by omega) (by omega) (Nat.le_of_ble_eq_true rfl) (fun X H1 hp hz => ?_) (fun v H1 hp hz => ?_)
  · obtain ⟨⟨hc, rfl⟩ | ⟨hc, rfl⟩ | ⟨hc, rfl⟩, hx⟩ := hp
    · refine ⟨15, (zh_B ⟨by omega, by omega⟩), fun q1 => ?_⟩
      refine z_astoreh [(5, .ref q1), (0, .ref (a 1200)), (1, .int (iI w)), (2, .int (iI i)), (3, .int (iI j)), (4, .ref qo)] O dL_work_15 (by decide) rfl ?_
      refine z_iconsth 1 O dL_work_17 (by decide +kernel) ?_
      exact z_ireturnh O dL_work_18 rfl (by omega) (by omega) (by rw [hpo]; exact ⟨by rw [hc], Or.inr ⟨by rw [hc]; decide, hx⟩⟩)
    · refine ⟨19, ((zh_A ⟨by omega, by omega⟩).beB zn_AB), fun q1 => ?_⟩
      refine z_astoreh [(5, .ref q1), (0, .ref (a 1200)), (1, .int (iI w)), (2, .int (iI i)), (3, .int (iI j)), (4, .ref qo)] O dL_work_19 (by decide) rfl ?_
      refine z_iconsth 2 O dL_work_21 (by decide +kernel) ?_
      exact z_ireturnh O dL_work_22 rfl (by omega) (by omega) (by rw [hpo]; exact ⟨by rw [hc], Or.inr ⟨by rw [hc]; decide, hx⟩⟩)
    · exfalso; revert hc; unfold cWk; (repeat' split) <;> omega
  · obtain ⟨rfl, hc, rfl⟩ := hp
    have hcp : ∃ (r1 : zH) (a1 : Nat → Nat), a1 1200 = a 1200 ∧ zFr H1 r H1 r1 (fun s => s < 1300) ∧ zGv H1 r H1 r1 ∧ zCm (zEn x) H1 r1 a1 n tx G fi ac dd kp ik := ⟨r, a, rfl, zFr.rf, zGv.rf, h0⟩
    obtain ⟨r1, a1, ha1, hfr, hgv, hcm⟩ := hcp
    have hL1 := hLA0.fr hfr (by show ¬ (_ < _); omega)
    refine z_i2lRh O dL_work_10 ?_
    refine z_lasth O dL_work_11 hL1.1 (fun H2 hL2 hC2 => ?_)
    have hf2 := hL1.ch hC2
    refine z_gotoh 23 O dL_work_12 (by decide) ?_
    refine z_iconsth 0 O dL_work_23 (by decide +kernel) ?_
    exact z_ireturnh O dL_work_24 rfl (by omega) (by omega) (by rw [hpo]; exact ⟨by rw [hc], Or.inl ⟨hc, r1, a1, ha1, ((hfr.up (fun s h => by have : s < 1300 := h; show s ≤ 1300; omega)).tr (hf2.up (fun s h => by have : s = 1300 := h; show s ≤ 1300; omega))), by have := hgv; unfold zGv at *; have := hC2.1; have := zSz_ch hC2 hL1.1 hL2; omega, hcm.fr hf2 (fun s h => by show ¬ (_ = _); omega), ⟨hL2, hL1.2⟩⟩⟩)
theorem kM_L_37 : zMV RL 37 yX5_entry cX5_entry 4 (some .int) 2 5 := ⟨⟨(List.mem_of_getElem? (i := 38) (by decide +kernel)), (List.mem_of_getElem? (i := 700) (by decide +kernel)), by decide +kernel, by decide +kernel, by decide +kernel⟩, (List.mem_of_getElem? (i := 697) (by decide +kernel)), (List.mem_of_getElem? (i := 698) (by decide +kernel)), (List.mem_of_getElem? (i := 699) (by decide +kernel)), ⟨_, rfl, rfl⟩⟩
theorem c_L_entry {E : zE} (hst : E.1.stackTraces = false) {qo : Nat} {u0 : Int64} {H : Heap} {r : zH} {a : Nat → Nat} {n : Int} {tx G : Int → Int} {fi ac : Int} {dd : Nat → Int → Int} {kp ik : Int → Int} {N : Int} {w i : Int} (h : zCm E H r a n tx G fi ac dd kp ik) (hOK : cOK n tx G fi ac dd kp ik N) (hzw : zR w) (hzi : zR i) (hLA : zLA E H r 1300 qo u0) : zCH E yL_entry cL_entry 5 (some .int) [(0, 10, 13, 28), (0, 10, 17, 13)] 8 135 [.ref (a 1200), .int (iI w), .int (iI i), .ref qo] H 1 6 (zRi (cEn w i) (zWo E H r a qo (cEn w i) (vEn G w i) n tx G fi ac dd kp ik)) := by
  refine zCH.of (by decide) (Nat.le_of_ble_eq_true rfl) hst ?_
  intro x O hE hpo hpx
  subst hE
  have hLA0 := hLA
  have h0 := h
  obtain ⟨_, _, _, _, _, ⟨fO, _⟩, _⟩ := id h
  change zG x H 0 0 0 [(0, .ref (a 1200)), (1, .int (iI w)), (2, .int (iI i)), (3, .ref qo)] []
  refine z_aload_nh 3 O dL_entry_0 rfl ?_
  refine z_iconsth 0 O dL_entry_1 (by decide +kernel) ?_
  refine z_aload_nh 0 O dL_entry_2 rfl ?_
  refine z_iload_nh 1 O dL_entry_3 rfl ?_
  refine z_iload_nh 2 O dL_entry_4 rfl ?_
  refine z_invVh (As := [.int (iI w), .int (iI i)]) (rest := [.int (iI 0), .ref qo]) (q := a 1200) kM_L_37 O dL_entry_5 (c_X5_entry hst h hOK hzw hzi) rfl fO.1 (by decide) (Nat.le_of_ble_eq_true rfl) (by omega) (by omega) (Nat.le_of_ble_eq_true rfl) (fun X H1 hp hz => ?_) (fun v H1 hp hz => ?_)
  · obtain ⟨⟨hc, rfl⟩ | ⟨hc, rfl⟩ | ⟨hc, rfl⟩, hx⟩ := hp
    · refine ⟨13, (zh_B ⟨by omega, by omega⟩), fun q1 => ?_⟩
      refine z_astoreh [(4, .ref q1), (0, .ref (a 1200)), (1, .int (iI w)), (2, .int (iI i)), (3, .ref qo)] O dL_entry_13 (by decide) rfl ?_
      refine z_iconsth 1 O dL_entry_15 (by decide +kernel) ?_
      exact z_ireturnh O dL_entry_16 rfl (by omega) (by omega) (by rw [hpo]; exact ⟨by rw [hc], Or.inr ⟨by rw [hc]; decide, hx⟩⟩)
    · refine ⟨17, ((zh_A ⟨by omega, by omega⟩).beB zn_AB), fun q1 => ?_⟩
      refine z_astoreh [(4, .ref q1), (0, .ref (a 1200)), (1, .int (iI w)), (2, .int (iI i)), (3, .ref qo)] O dL_entry_17 (by decide) rfl ?_
      refine z_iconsth 2 O dL_entry_19 (by decide +kernel) ?_
      exact z_ireturnh O dL_entry_20 rfl (by omega) (by omega) (by rw [hpo]; exact ⟨by rw [hc], Or.inr ⟨by rw [hc]; decide, hx⟩⟩)
    · exfalso; revert hc; unfold cEn; (repeat' split) <;> omega
  · obtain ⟨rfl, hc, rfl⟩ := hp
    have hcp : ∃ (r1 : zH) (a1 : Nat → Nat), a1 1200 = a 1200 ∧ zFr H1 r H1 r1 (fun s => s < 1300) ∧ zGv H1 r H1 r1 ∧ zCm (zEn x) H1 r1 a1 n tx G fi ac dd kp ik := ⟨r, a, rfl, zFr.rf, zGv.rf, h0⟩
    obtain ⟨r1, a1, ha1, hfr, hgv, hcm⟩ := hcp
    have hL1 := hLA0.fr hfr (by show ¬ (_ < _); omega)
    refine z_i2lRh O dL_entry_8 ?_
    refine z_lasth O dL_entry_9 hL1.1 (fun H2 hL2 hC2 => ?_)
    have hf2 := hL1.ch hC2
    refine z_gotoh 21 O dL_entry_10 (by decide) ?_
    refine z_iconsth 0 O dL_entry_21 (by decide +kernel) ?_
    exact z_ireturnh O dL_entry_22 rfl (by omega) (by omega) (by rw [hpo]; exact ⟨by rw [hc], Or.inl ⟨hc, r1, a1, ha1, ((hfr.up (fun s h => by have : s < 1300 := h; show s ≤ 1300; omega)).tr (hf2.up (fun s h => by have : s = 1300 := h; show s ≤ 1300; omega))), by have := hgv; unfold zGv at *; have := hC2.1; have := zSz_ch hC2 hL1.1 hL2; omega, hcm.fr hf2 (fun s h => by show ¬ (_ = _); omega), ⟨hL2, hL1.2⟩⟩⟩)
theorem kM_L_40 : zMV RL 40 yX5_begin cX5_begin 2 (some .int) 1 5 := ⟨⟨(List.mem_of_getElem? (i := 38) (by decide +kernel)), (List.mem_of_getElem? (i := 708) (by decide +kernel)), by decide +kernel, by decide +kernel, by decide +kernel⟩, (List.mem_of_getElem? (i := 705) (by decide +kernel)), (List.mem_of_getElem? (i := 706) (by decide +kernel)), (List.mem_of_getElem? (i := 707) (by decide +kernel)), ⟨_, rfl, rfl⟩⟩
theorem c_L_begin {E : zE} (hst : E.1.stackTraces = false) {qo : Nat} {u0 : Int64} {H : Heap} {r : zH} {a : Nat → Nat} {n : Int} {tx G : Int → Int} {fi ac : Int} {dd : Nat → Int → Int} {kp ik : Int → Int} {N : Int} {w : Int} (h : zCm E H r a n tx G fi ac dd kp ik) (hOK : cOK n tx G fi ac dd kp ik N) (hzw : zR w) (hLA : zLA E H r 1300 qo u0) : zCH E yL_begin cL_begin 4 (some .int) [(0, 9, 12, 28), (0, 9, 15, 15)] 8 209 [.ref (a 1200), .int (iI w), .ref qo] H 1089 27157 (zRi (cBe G w) (zWo E H r a qo (cBe G w) (sBegin G w (at_ w 0)) n tx (sBegin G w) (mFi fi ac) (mAc ac) (zDw dd (mIx fi ac) G) kp ik)) := by
  refine zCH.of (by decide) (Nat.le_of_ble_eq_true rfl) hst ?_
  intro x O hE hpo hpx
  subst hE
  have hLA0 := hLA
  have h0 := h
  obtain ⟨_, _, _, _, _, ⟨fO, _⟩, _⟩ := id h
  change zG x H 0 0 0 [(0, .ref (a 1200)), (1, .int (iI w)), (2, .ref qo)] []
  refine z_aload_nh 2 O dL_begin_0 rfl ?_
  refine z_iconsth 0 O dL_begin_1 (by decide +kernel) ?_
  refine z_aload_nh 0 O dL_begin_2 rfl ?_
  refine z_iload_nh 1 O dL_begin_3 rfl ?_
  refine z_invVh (As := [.int (iI w)]) (rest := [.int (iI 0), .ref qo]) (q := a 1200) kM_L_40 O dL_begin_4 (c_X5_begin hst h hOK hzw) rfl fO.1 (by decide) (Nat.le_of_ble_eq_true rfl) (by omega) (by omega) (Nat.le_of_ble_eq_true rfl) (fun X H1 hp hz => ?_) (fun v H1 hp hz => ?_)
  · obtain ⟨⟨hc, rfl⟩ | ⟨hc, rfl⟩ | ⟨hc, rfl⟩, hx⟩ := hp
    · refine ⟨12, (zh_B ⟨by omega, by omega⟩), fun q1 => ?_⟩
      refine z_astore_nh [(3, .ref q1), (0, .ref (a 1200)), (1, .int (iI w)), (2, .ref qo)] O dL_begin_12 (by decide) rfl ?_
      refine z_iconsth 1 O dL_begin_13 (by decide +kernel) ?_
      exact z_ireturnh O dL_begin_14 rfl (by omega) (by omega) (by rw [hpo]; exact ⟨by rw [hc], Or.inr ⟨by rw [hc]; decide, hx⟩⟩)
    · refine ⟨15, ((zh_S ⟨by omega, by omega⟩).beB zn_SB), fun q1 => ?_⟩
      refine z_astore_nh [(3, .ref q1), (0, .ref (a 1200)), (1, .int (iI w)), (2, .ref qo)] O dL_begin_15 (by decide) rfl ?_
      refine z_iconsth 2 O dL_begin_16 (by decide +kernel) ?_
      exact z_ireturnh O dL_begin_17 rfl (by omega) (by omega) (by rw [hpo]; exact ⟨by rw [hc], Or.inr ⟨by rw [hc]; decide, hx⟩⟩)
    · exfalso; revert hc; unfold cBe; (repeat' split) <;> omega
  · obtain ⟨rfl, hc, hcp⟩ := hp
    obtain ⟨r1, a1, ha1, hfr, hgv, hcm⟩ := hcp
    have hL1 := hLA0.fr hfr (by show ¬ (_ < _); omega)
    refine z_i2lRh O dL_begin_7 ?_
    refine z_lasth O dL_begin_8 hL1.1 (fun H2 hL2 hC2 => ?_)
    have hf2 := hL1.ch hC2
    refine z_gotoh 18 O dL_begin_9 (by decide) ?_
    refine z_iconsth 0 O dL_begin_18 (by decide +kernel) ?_
    exact z_ireturnh O dL_begin_19 rfl (by omega) (by omega) (by rw [hpo]; exact ⟨by rw [hc], Or.inl ⟨hc, r1, a1, ha1, ((hfr.up (fun s h => by have : s < 1300 := h; show s ≤ 1300; omega)).tr (hf2.up (fun s h => by have : s = 1300 := h; show s ≤ 1300; omega))), by have := hgv; unfold zGv at *; have := hC2.1; have := zSz_ch hC2 hL1.1 hL2; omega, hcm.fr hf2 (fun s h => by show ¬ (_ = _); omega), ⟨hL2, hL1.2⟩⟩⟩)
theorem kM_L_43 : zMV RL 43 yX5_write cX5_write 5 (some .int) 3 5 := ⟨⟨(List.mem_of_getElem? (i := 38) (by decide +kernel)), (List.mem_of_getElem? (i := 748) (by decide +kernel)), by decide +kernel, by decide +kernel, by decide +kernel⟩, (List.mem_of_getElem? (i := 745) (by decide +kernel)), (List.mem_of_getElem? (i := 746) (by decide +kernel)), (List.mem_of_getElem? (i := 747) (by decide +kernel)), ⟨_, rfl, rfl⟩⟩
theorem c_L_write {E : zE} (hst : E.1.stackTraces = false) {qo : Nat} {u0 : Int64} {H : Heap} {r : zH} {a : Nat → Nat} {n : Int} {tx G : Int → Int} {fi ac : Int} {dd : Nat → Int → Int} {kp ik : Int → Int} {N : Int} {w c v : Int} (h : zCm E H r a n tx G fi ac dd kp ik) (hOK : cOK n tx G fi ac dd kp ik N) (hzw : zR w) (hzc : zR c) (hzv : zR v) (hLA : zLA E H r 1300 qo u0) : zCH E yL_write cL_write 6 (some .int) [(0, 12, 15, 28), (0, 12, 19, 13), (0, 12, 23, 15)] 8 212 [.ref (a 1200), .int (iI w), .int (iI c), .int (iI v), .ref qo] H 1089 27157 (zRi (cWr G w c v) (zWo E H r a qo (cWr G w c v) (G c) n tx (sWrite G w c v) (mFi fi ac) (mAc ac) (zDw dd (mIx fi ac) G) kp ik)) := by
  refine zCH.of (by decide) (Nat.le_of_ble_eq_true rfl) hst ?_
  intro x O hE hpo hpx
  subst hE
  have hLA0 := hLA
  have h0 := h
  obtain ⟨_, _, _, _, _, ⟨fO, _⟩, _⟩ := id h
  change zG x H 0 0 0 [(0, .ref (a 1200)), (1, .int (iI w)), (2, .int (iI c)), (3, .int (iI v)), (4, .ref qo)] []
  refine z_aloadh 4 O dL_write_0 rfl ?_
  refine z_iconsth 0 O dL_write_2 (by decide +kernel) ?_
  refine z_aload_nh 0 O dL_write_3 rfl ?_
  refine z_iload_nh 1 O dL_write_4 rfl ?_
  refine z_iload_nh 2 O dL_write_5 rfl ?_
  refine z_iload_nh 3 O dL_write_6 rfl ?_
  refine z_invVh (As := [.int (iI w), .int (iI c), .int (iI v)]) (rest := [.int (iI 0), .ref qo]) (q := a 1200) kM_L_43 O dL_write_7 (c_X5_write hst h hOK hzw hzc hzv) rfl fO.1 (by decide) (Nat.le_of_ble_eq_true rfl) (by omega) (by omega) (Nat.le_of_ble_eq_true rfl) (fun X H1 hp hz => ?_) (fun v H1 hp hz => ?_)
  · obtain ⟨⟨hc, rfl⟩ | ⟨hc, rfl⟩ | ⟨hc, rfl⟩, hx⟩ := hp
    · refine ⟨15, (zh_B ⟨by omega, by omega⟩), fun q1 => ?_⟩
      refine z_astoreh [(5, .ref q1), (0, .ref (a 1200)), (1, .int (iI w)), (2, .int (iI c)), (3, .int (iI v)), (4, .ref qo)] O dL_write_15 (by decide) rfl ?_
      refine z_iconsth 1 O dL_write_17 (by decide +kernel) ?_
      exact z_ireturnh O dL_write_18 rfl (by omega) (by omega) (by rw [hpo]; exact ⟨by rw [hc], Or.inr ⟨by rw [hc]; decide, hx⟩⟩)
    · refine ⟨19, ((zh_A ⟨by omega, by omega⟩).beB zn_AB), fun q1 => ?_⟩
      refine z_astoreh [(5, .ref q1), (0, .ref (a 1200)), (1, .int (iI w)), (2, .int (iI c)), (3, .int (iI v)), (4, .ref qo)] O dL_write_19 (by decide) rfl ?_
      refine z_iconsth 2 O dL_write_21 (by decide +kernel) ?_
      exact z_ireturnh O dL_write_22 rfl (by omega) (by omega) (by rw [hpo]; exact ⟨by rw [hc], Or.inr ⟨by rw [hc]; decide, hx⟩⟩)
    · refine ⟨23, (((zh_S ⟨by omega, by omega⟩).beA zn_SA).beB zn_SB), fun q1 => ?_⟩
      refine z_astoreh [(5, .ref q1), (0, .ref (a 1200)), (1, .int (iI w)), (2, .int (iI c)), (3, .int (iI v)), (4, .ref qo)] O dL_write_23 (by decide) rfl ?_
      refine z_iconsth 3 O dL_write_25 (by decide +kernel) ?_
      exact z_ireturnh O dL_write_26 rfl (by omega) (by omega) (by rw [hpo]; exact ⟨by rw [hc], Or.inr ⟨by rw [hc]; decide, hx⟩⟩)
  · obtain ⟨rfl, hc, hcp⟩ := hp
    obtain ⟨r1, a1, ha1, hfr, hgv, hcm⟩ := hcp
    have hL1 := hLA0.fr hfr (by show ¬ (_ < _); omega)
    refine z_i2lRh O dL_write_10 ?_
    refine z_lasth O dL_write_11 hL1.1 (fun H2 hL2 hC2 => ?_)
    have hf2 := hL1.ch hC2
    refine z_gotoh 27 O dL_write_12 (by decide) ?_
    refine z_iconsth 0 O dL_write_27 (by decide +kernel) ?_
    exact z_ireturnh O dL_write_28 rfl (by omega) (by omega) (by rw [hpo]; exact ⟨by rw [hc], Or.inl ⟨hc, r1, a1, ha1, ((hfr.up (fun s h => by have : s < 1300 := h; show s ≤ 1300; omega)).tr (hf2.up (fun s h => by have : s = 1300 := h; show s ≤ 1300; omega))), by have := hgv; unfold zGv at *; have := hC2.1; have := zSz_ch hC2 hL1.1 hL2; omega, hcm.fr hf2 (fun s h => by show ¬ (_ = _); omega), ⟨hL2, hL1.2⟩⟩⟩)
theorem kM_L_46 : zMV RL 46 yX5_point cX5_point 2 (some .int) 1 5 := ⟨⟨(List.mem_of_getElem? (i := 38) (by decide +kernel)), (List.mem_of_getElem? (i := 757) (by decide +kernel)), by decide +kernel, by decide +kernel, by decide +kernel⟩, (List.mem_of_getElem? (i := 754) (by decide +kernel)), (List.mem_of_getElem? (i := 755) (by decide +kernel)), (List.mem_of_getElem? (i := 756) (by decide +kernel)), ⟨_, rfl, rfl⟩⟩
theorem c_L_point {E : zE} (hst : E.1.stackTraces = false) {qo : Nat} {u0 : Int64} {H : Heap} {r : zH} {a : Nat → Nat} {n : Int} {tx G : Int → Int} {fi ac : Int} {dd : Nat → Int → Int} {kp ik : Int → Int} {N : Int} {w : Int} (h : zCm E H r a n tx G fi ac dd kp ik) (hOK : cOK n tx G fi ac dd kp ik N) (hzw : zR w) (hLA : zLA E H r 1300 qo u0) : zCH E yL_point cL_point 4 (some .int) [(0, 9, 12, 28), (0, 9, 15, 15)] 8 209 [.ref (a 1200), .int (iI w), .ref qo] H 1089 27157 (zRi (cPo G w) (zWo E H r a qo (cPo G w) (G (sIn G w 2)) n tx (sPoint G w) (mFi fi ac) (mAc ac) (zDw dd (mIx fi ac) G) kp ik)) := by
  refine zCH.of (by decide) (Nat.le_of_ble_eq_true rfl) hst ?_
  intro x O hE hpo hpx
  subst hE
  have hLA0 := hLA
  have h0 := h
  obtain ⟨_, _, _, _, _, ⟨fO, _⟩, _⟩ := id h
  change zG x H 0 0 0 [(0, .ref (a 1200)), (1, .int (iI w)), (2, .ref qo)] []
  refine z_aload_nh 2 O dL_point_0 rfl ?_
  refine z_iconsth 0 O dL_point_1 (by decide +kernel) ?_
  refine z_aload_nh 0 O dL_point_2 rfl ?_
  refine z_iload_nh 1 O dL_point_3 rfl ?_
  refine z_invVh (As := [.int (iI w)]) (rest := [.int (iI 0), .ref qo]) (q := a 1200) kM_L_46 O dL_point_4 (c_X5_point hst h hOK hzw) rfl fO.1 (by decide) (Nat.le_of_ble_eq_true rfl) (by omega) (by omega) (Nat.le_of_ble_eq_true rfl) (fun X H1 hp hz => ?_) (fun v H1 hp hz => ?_)
  · obtain ⟨⟨hc, rfl⟩ | ⟨hc, rfl⟩ | ⟨hc, rfl⟩, hx⟩ := hp
    · refine ⟨12, (zh_B ⟨by omega, by omega⟩), fun q1 => ?_⟩
      refine z_astore_nh [(3, .ref q1), (0, .ref (a 1200)), (1, .int (iI w)), (2, .ref qo)] O dL_point_12 (by decide) rfl ?_
      refine z_iconsth 1 O dL_point_13 (by decide +kernel) ?_
      exact z_ireturnh O dL_point_14 rfl (by omega) (by omega) (by rw [hpo]; exact ⟨by rw [hc], Or.inr ⟨by rw [hc]; decide, hx⟩⟩)
    · refine ⟨15, ((zh_S ⟨by omega, by omega⟩).beB zn_SB), fun q1 => ?_⟩
      refine z_astore_nh [(3, .ref q1), (0, .ref (a 1200)), (1, .int (iI w)), (2, .ref qo)] O dL_point_15 (by decide) rfl ?_
      refine z_iconsth 2 O dL_point_16 (by decide +kernel) ?_
      exact z_ireturnh O dL_point_17 rfl (by omega) (by omega) (by rw [hpo]; exact ⟨by rw [hc], Or.inr ⟨by rw [hc]; decide, hx⟩⟩)
    · exfalso; revert hc; unfold cPo; (repeat' split) <;> omega
  · obtain ⟨rfl, hc, hcp⟩ := hp
    obtain ⟨r1, a1, ha1, hfr, hgv, hcm⟩ := hcp
    have hL1 := hLA0.fr hfr (by show ¬ (_ < _); omega)
    refine z_i2lRh O dL_point_7 ?_
    refine z_lasth O dL_point_8 hL1.1 (fun H2 hL2 hC2 => ?_)
    have hf2 := hL1.ch hC2
    refine z_gotoh 18 O dL_point_9 (by decide) ?_
    refine z_iconsth 0 O dL_point_18 (by decide +kernel) ?_
    exact z_ireturnh O dL_point_19 rfl (by omega) (by omega) (by rw [hpo]; exact ⟨by rw [hc], Or.inl ⟨hc, r1, a1, ha1, ((hfr.up (fun s h => by have : s < 1300 := h; show s ≤ 1300; omega)).tr (hf2.up (fun s h => by have : s = 1300 := h; show s ≤ 1300; omega))), by have := hgv; unfold zGv at *; have := hC2.1; have := zSz_ch hC2 hL1.1 hL2; omega, hcm.fr hf2 (fun s h => by show ¬ (_ = _); omega), ⟨hL2, hL1.2⟩⟩⟩)
theorem kM_L_49 : zMV RL 49 yX5_back cX5_back 4 (some .int) 2 5 := ⟨⟨(List.mem_of_getElem? (i := 38) (by decide +kernel)), (List.mem_of_getElem? (i := 764) (by decide +kernel)), by decide +kernel, by decide +kernel, by decide +kernel⟩, (List.mem_of_getElem? (i := 761) (by decide +kernel)), (List.mem_of_getElem? (i := 762) (by decide +kernel)), (List.mem_of_getElem? (i := 763) (by decide +kernel)), ⟨_, rfl, rfl⟩⟩
theorem c_L_back {E : zE} (hst : E.1.stackTraces = false) {qo : Nat} {u0 : Int64} {H : Heap} {r : zH} {a : Nat → Nat} {n : Int} {tx G : Int → Int} {fi ac : Int} {dd : Nat → Int → Int} {kp ik : Int → Int} {N : Int} {w i : Int} (h : zCm E H r a n tx G fi ac dd kp ik) (hOK : cOK n tx G fi ac dd kp ik N) (hzw : zR w) (hzi : zR i) (hLA : zLA E H r 1300 qo u0) : zCH E yL_back cL_back 5 (some .int) [(0, 10, 13, 28), (0, 10, 17, 15)] 8 211 [.ref (a 1200), .int (iI w), .int (iI i), .ref qo] H 1089 27157 (zRi (cBk G w i) (zWo E H r a qo (cBk G w i) (G (at_ w 1) - G (sIn G w (5 + i))) n tx (sBack G w i) (mFi fi ac) (mAc ac) (zDw dd (mIx fi ac) G) kp ik)) := by
  refine zCH.of (by decide) (Nat.le_of_ble_eq_true rfl) hst ?_
  intro x O hE hpo hpx
  subst hE
  have hLA0 := hLA
  have h0 := h
  obtain ⟨_, _, _, _, _, ⟨fO, _⟩, _⟩ := id h
  change zG x H 0 0 0 [(0, .ref (a 1200)), (1, .int (iI w)), (2, .int (iI i)), (3, .ref qo)] []
  refine z_aload_nh 3 O dL_back_0 rfl ?_
  refine z_iconsth 0 O dL_back_1 (by decide +kernel) ?_
  refine z_aload_nh 0 O dL_back_2 rfl ?_
  refine z_iload_nh 1 O dL_back_3 rfl ?_
  refine z_iload_nh 2 O dL_back_4 rfl ?_
  refine z_invVh (As := [.int (iI w), .int (iI i)]) (rest := [.int (iI 0), .ref qo]) (q := a 1200) kM_L_49 O dL_back_5 (c_X5_back hst h hOK hzw hzi) rfl fO.1 (by decide) (Nat.le_of_ble_eq_true rfl) (by omega) (by omega) (Nat.le_of_ble_eq_true rfl) (fun X H1 hp hz => ?_) (fun v H1 hp hz => ?_)
  · obtain ⟨⟨hc, rfl⟩ | ⟨hc, rfl⟩ | ⟨hc, rfl⟩, hx⟩ := hp
    · refine ⟨13, (zh_B ⟨by omega, by omega⟩), fun q1 => ?_⟩
      refine z_astoreh [(4, .ref q1), (0, .ref (a 1200)), (1, .int (iI w)), (2, .int (iI i)), (3, .ref qo)] O dL_back_13 (by decide) rfl ?_
      refine z_iconsth 1 O dL_back_15 (by decide +kernel) ?_
      exact z_ireturnh O dL_back_16 rfl (by omega) (by omega) (by rw [hpo]; exact ⟨by rw [hc], Or.inr ⟨by rw [hc]; decide, hx⟩⟩)
    · refine ⟨17, ((zh_S ⟨by omega, by omega⟩).beB zn_SB), fun q1 => ?_⟩
      refine z_astoreh [(4, .ref q1), (0, .ref (a 1200)), (1, .int (iI w)), (2, .int (iI i)), (3, .ref qo)] O dL_back_17 (by decide) rfl ?_
      refine z_iconsth 2 O dL_back_19 (by decide +kernel) ?_
      exact z_ireturnh O dL_back_20 rfl (by omega) (by omega) (by rw [hpo]; exact ⟨by rw [hc], Or.inr ⟨by rw [hc]; decide, hx⟩⟩)
    · exfalso; revert hc; unfold cBk; (repeat' split) <;> omega
  · obtain ⟨rfl, hc, hcp⟩ := hp
    obtain ⟨r1, a1, ha1, hfr, hgv, hcm⟩ := hcp
    have hL1 := hLA0.fr hfr (by show ¬ (_ < _); omega)
    refine z_i2lRh O dL_back_8 ?_
    refine z_lasth O dL_back_9 hL1.1 (fun H2 hL2 hC2 => ?_)
    have hf2 := hL1.ch hC2
    refine z_gotoh 21 O dL_back_10 (by decide) ?_
    refine z_iconsth 0 O dL_back_21 (by decide +kernel) ?_
    exact z_ireturnh O dL_back_22 rfl (by omega) (by omega) (by rw [hpo]; exact ⟨by rw [hc], Or.inl ⟨hc, r1, a1, ha1, ((hfr.up (fun s h => by have : s < 1300 := h; show s ≤ 1300; omega)).tr (hf2.up (fun s h => by have : s = 1300 := h; show s ≤ 1300; omega))), by have := hgv; unfold zGv at *; have := hC2.1; have := zSz_ch hC2 hL1.1 hL2; omega, hcm.fr hf2 (fun s h => by show ¬ (_ = _); omega), ⟨hL2, hL1.2⟩⟩⟩)
theorem kM_L_52 : zMV RL 52 yX5_regret cX5_regret 5 (some .int) 3 5 := ⟨⟨(List.mem_of_getElem? (i := 38) (by decide +kernel)), (List.mem_of_getElem? (i := 776) (by decide +kernel)), by decide +kernel, by decide +kernel, by decide +kernel⟩, (List.mem_of_getElem? (i := 773) (by decide +kernel)), (List.mem_of_getElem? (i := 774) (by decide +kernel)), (List.mem_of_getElem? (i := 775) (by decide +kernel)), ⟨_, rfl, rfl⟩⟩
theorem c_L_regret {E : zE} (hst : E.1.stackTraces = false) {qo : Nat} {u0 : Int64} {H : Heap} {r : zH} {a : Nat → Nat} {n : Int} {tx G : Int → Int} {fi ac : Int} {dd : Nat → Int → Int} {kp ik : Int → Int} {N : Int} {w c v : Int} (h : zCm E H r a n tx G fi ac dd kp ik) (hOK : cOK n tx G fi ac dd kp ik N) (hzw : zR w) (hzc : zR c) (hzv : zR v) (hLA : zLA E H r 1300 qo u0) : zCH E yL_regret cL_regret 6 (some .int) [(0, 12, 15, 28), (0, 12, 19, 13), (0, 12, 23, 15)] 8 212 [.ref (a 1200), .int (iI w), .int (iI c), .int (iI v), .ref qo] H 1089 27157 (zRi (cRg G w c v) (zWo E H r a qo (cRg G w c v) (sRg (sRegret G w c v) w (G (at_ w 0) - 1)) n tx (sRegret G w c v) (mFi fi ac) (mAc ac) (zDw dd (mIx fi ac) G) kp ik)) := by
  refine zCH.of (by decide) (Nat.le_of_ble_eq_true rfl) hst ?_
  intro x O hE hpo hpx
  subst hE
  have hLA0 := hLA
  have h0 := h
  obtain ⟨_, _, _, _, _, ⟨fO, _⟩, _⟩ := id h
  change zG x H 0 0 0 [(0, .ref (a 1200)), (1, .int (iI w)), (2, .int (iI c)), (3, .int (iI v)), (4, .ref qo)] []
  refine z_aloadh 4 O dL_regret_0 rfl ?_
  refine z_iconsth 0 O dL_regret_2 (by decide +kernel) ?_
  refine z_aload_nh 0 O dL_regret_3 rfl ?_
  refine z_iload_nh 1 O dL_regret_4 rfl ?_
  refine z_iload_nh 2 O dL_regret_5 rfl ?_
  refine z_iload_nh 3 O dL_regret_6 rfl ?_
  refine z_invVh (As := [.int (iI w), .int (iI c), .int (iI v)]) (rest := [.int (iI 0), .ref qo]) (q := a 1200) kM_L_52 O dL_regret_7 (c_X5_regret hst h hOK hzw hzc hzv) rfl fO.1 (by decide) (Nat.le_of_ble_eq_true rfl) (by omega) (by omega) (Nat.le_of_ble_eq_true rfl) (fun X H1 hp hz => ?_) (fun v H1 hp hz => ?_)
  · obtain ⟨⟨hc, rfl⟩ | ⟨hc, rfl⟩ | ⟨hc, rfl⟩, hx⟩ := hp
    · refine ⟨15, (zh_B ⟨by omega, by omega⟩), fun q1 => ?_⟩
      refine z_astoreh [(5, .ref q1), (0, .ref (a 1200)), (1, .int (iI w)), (2, .int (iI c)), (3, .int (iI v)), (4, .ref qo)] O dL_regret_15 (by decide) rfl ?_
      refine z_iconsth 1 O dL_regret_17 (by decide +kernel) ?_
      exact z_ireturnh O dL_regret_18 rfl (by omega) (by omega) (by rw [hpo]; exact ⟨by rw [hc], Or.inr ⟨by rw [hc]; decide, hx⟩⟩)
    · refine ⟨19, ((zh_A ⟨by omega, by omega⟩).beB zn_AB), fun q1 => ?_⟩
      refine z_astoreh [(5, .ref q1), (0, .ref (a 1200)), (1, .int (iI w)), (2, .int (iI c)), (3, .int (iI v)), (4, .ref qo)] O dL_regret_19 (by decide) rfl ?_
      refine z_iconsth 2 O dL_regret_21 (by decide +kernel) ?_
      exact z_ireturnh O dL_regret_22 rfl (by omega) (by omega) (by rw [hpo]; exact ⟨by rw [hc], Or.inr ⟨by rw [hc]; decide, hx⟩⟩)
    · refine ⟨23, (((zh_S ⟨by omega, by omega⟩).beA zn_SA).beB zn_SB), fun q1 => ?_⟩
      refine z_astoreh [(5, .ref q1), (0, .ref (a 1200)), (1, .int (iI w)), (2, .int (iI c)), (3, .int (iI v)), (4, .ref qo)] O dL_regret_23 (by decide) rfl ?_
      refine z_iconsth 3 O dL_regret_25 (by decide +kernel) ?_
      exact z_ireturnh O dL_regret_26 rfl (by omega) (by omega) (by rw [hpo]; exact ⟨by rw [hc], Or.inr ⟨by rw [hc]; decide, hx⟩⟩)
  · obtain ⟨rfl, hc, hcp⟩ := hp
    obtain ⟨r1, a1, ha1, hfr, hgv, hcm⟩ := hcp
    have hL1 := hLA0.fr hfr (by show ¬ (_ < _); omega)
    refine z_i2lRh O dL_regret_10 ?_
    refine z_lasth O dL_regret_11 hL1.1 (fun H2 hL2 hC2 => ?_)
    have hf2 := hL1.ch hC2
    refine z_gotoh 27 O dL_regret_12 (by decide) ?_
    refine z_iconsth 0 O dL_regret_27 (by decide +kernel) ?_
    exact z_ireturnh O dL_regret_28 rfl (by omega) (by omega) (by rw [hpo]; exact ⟨by rw [hc], Or.inl ⟨hc, r1, a1, ha1, ((hfr.up (fun s h => by have : s < 1300 := h; show s ≤ 1300; omega)).tr (hf2.up (fun s h => by have : s = 1300 := h; show s ≤ 1300; omega))), by have := hgv; unfold zGv at *; have := hC2.1; have := zSz_ch hC2 hL1.1 hL2; omega, hcm.fr hf2 (fun s h => by show ¬ (_ = _); omega), ⟨hL2, hL1.2⟩⟩⟩)
theorem kM_L_55 : zMV RL 55 yX5_done cX5_done 2 (some .int) 1 5 := ⟨⟨(List.mem_of_getElem? (i := 38) (by decide +kernel)), (List.mem_of_getElem? (i := 784) (by decide +kernel)), by decide +kernel, by decide +kernel, by decide +kernel⟩, (List.mem_of_getElem? (i := 781) (by decide +kernel)), (List.mem_of_getElem? (i := 782) (by decide +kernel)), (List.mem_of_getElem? (i := 783) (by decide +kernel)), ⟨_, rfl, rfl⟩⟩
theorem c_L_done {E : zE} (hst : E.1.stackTraces = false) {qo : Nat} {u0 : Int64} {H : Heap} {r : zH} {a : Nat → Nat} {n : Int} {tx G : Int → Int} {fi ac : Int} {dd : Nat → Int → Int} {kp ik : Int → Int} {N : Int} {w : Int} (h : zCm E H r a n tx G fi ac dd kp ik) (hOK : cOK n tx G fi ac dd kp ik N) (hzw : zR w) (hLA : zLA E H r 1300 qo u0) : zCH E yL_done cL_done 4 (some .int) [(0, 9, 12, 28), (0, 9, 15, 15)] 8 209 [.ref (a 1200), .int (iI w), .ref qo] H 1089 27157 (zRi (cDo G w) (zWo E H r a qo (cDo G w) (G (at_ w 0) - 1) n tx (sDone G w) (mFi fi ac) (mAc ac) (zDw dd (mIx fi ac) G) kp ik)) := by
  refine zCH.of (by decide) (Nat.le_of_ble_eq_true rfl) hst ?_
  intro x O hE hpo hpx
  subst hE
  have hLA0 := hLA
  have h0 := h
  obtain ⟨_, _, _, _, _, ⟨fO, _⟩, _⟩ := id h
  change zG x H 0 0 0 [(0, .ref (a 1200)), (1, .int (iI w)), (2, .ref qo)] []
  refine z_aload_nh 2 O dL_done_0 rfl ?_
  refine z_iconsth 0 O dL_done_1 (by decide +kernel) ?_
  refine z_aload_nh 0 O dL_done_2 rfl ?_
  refine z_iload_nh 1 O dL_done_3 rfl ?_
  refine z_invVh (As := [.int (iI w)]) (rest := [.int (iI 0), .ref qo]) (q := a 1200) kM_L_55 O dL_done_4 (c_X5_done hst h hOK hzw) rfl fO.1 (by decide) (Nat.le_of_ble_eq_true rfl) (by omega) (by omega) (Nat.le_of_ble_eq_true rfl) (fun X H1 hp hz => ?_) (fun v H1 hp hz => ?_)
  · obtain ⟨⟨hc, rfl⟩ | ⟨hc, rfl⟩ | ⟨hc, rfl⟩, hx⟩ := hp
    · refine ⟨12, (zh_B ⟨by omega, by omega⟩), fun q1 => ?_⟩
      refine z_astore_nh [(3, .ref q1), (0, .ref (a 1200)), (1, .int (iI w)), (2, .ref qo)] O dL_done_12 (by decide) rfl ?_
      refine z_iconsth 1 O dL_done_13 (by decide +kernel) ?_
      exact z_ireturnh O dL_done_14 rfl (by omega) (by omega) (by rw [hpo]; exact ⟨by rw [hc], Or.inr ⟨by rw [hc]; decide, hx⟩⟩)
    · refine ⟨15, ((zh_S ⟨by omega, by omega⟩).beB zn_SB), fun q1 => ?_⟩
      refine z_astore_nh [(3, .ref q1), (0, .ref (a 1200)), (1, .int (iI w)), (2, .ref qo)] O dL_done_15 (by decide) rfl ?_
      refine z_iconsth 2 O dL_done_16 (by decide +kernel) ?_
      exact z_ireturnh O dL_done_17 rfl (by omega) (by omega) (by rw [hpo]; exact ⟨by rw [hc], Or.inr ⟨by rw [hc]; decide, hx⟩⟩)
    · exfalso; revert hc; unfold cDo; (repeat' split) <;> omega
  · obtain ⟨rfl, hc, hcp⟩ := hp
    obtain ⟨r1, a1, ha1, hfr, hgv, hcm⟩ := hcp
    have hL1 := hLA0.fr hfr (by show ¬ (_ < _); omega)
    refine z_i2lRh O dL_done_7 ?_
    refine z_lasth O dL_done_8 hL1.1 (fun H2 hL2 hC2 => ?_)
    have hf2 := hL1.ch hC2
    refine z_gotoh 18 O dL_done_9 (by decide) ?_
    refine z_iconsth 0 O dL_done_18 (by decide +kernel) ?_
    exact z_ireturnh O dL_done_19 rfl (by omega) (by omega) (by rw [hpo]; exact ⟨by rw [hc], Or.inl ⟨hc, r1, a1, ha1, ((hfr.up (fun s h => by have : s < 1300 := h; show s ≤ 1300; omega)).tr (hf2.up (fun s h => by have : s = 1300 := h; show s ≤ 1300; omega))), by have := hgv; unfold zGv at *; have := hC2.1; have := zSz_ch hC2 hL1.1 hL2; omega, hcm.fr hf2 (fun s h => by show ¬ (_ = _); omega), ⟨hL2, hL1.2⟩⟩⟩)
theorem kM_L_58 : zMV RL 58 yX5_fail cX5_fail 2 (some .int) 1 5 := ⟨⟨(List.mem_of_getElem? (i := 38) (by decide +kernel)), (List.mem_of_getElem? (i := 791) (by decide +kernel)), by decide +kernel, by decide +kernel, by decide +kernel⟩, (List.mem_of_getElem? (i := 788) (by decide +kernel)), (List.mem_of_getElem? (i := 789) (by decide +kernel)), (List.mem_of_getElem? (i := 790) (by decide +kernel)), ⟨_, rfl, rfl⟩⟩
theorem c_L_fail {E : zE} (hst : E.1.stackTraces = false) {qo : Nat} {u0 : Int64} {H : Heap} {r : zH} {a : Nat → Nat} {n : Int} {tx G : Int → Int} {fi ac : Int} {dd : Nat → Int → Int} {kp ik : Int → Int} {N : Int} {w : Int} (h : zCm E H r a n tx G fi ac dd kp ik) (hOK : cOK n tx G fi ac dd kp ik N) (hzw : zR w) (hLA : zLA E H r 1300 qo u0) : zCH E yL_fail cL_fail 4 (some .int) [(0, 9, 12, 28), (0, 9, 15, 15)] 8 209 [.ref (a 1200), .int (iI w), .ref qo] H 1089 27157 (zRi (cFa G w) (zWo E H r a qo (cFa G w) (sFailR G w) n tx (sFail G w) (mFi fi ac) (mAc ac) (zDw dd (mIx fi ac) G) kp ik)) := by
  refine zCH.of (by decide) (Nat.le_of_ble_eq_true rfl) hst ?_
  intro x O hE hpo hpx
  subst hE
  have hLA0 := hLA
  have h0 := h
  obtain ⟨_, _, _, _, _, ⟨fO, _⟩, _⟩ := id h
  change zG x H 0 0 0 [(0, .ref (a 1200)), (1, .int (iI w)), (2, .ref qo)] []
  refine z_aload_nh 2 O dL_fail_0 rfl ?_
  refine z_iconsth 0 O dL_fail_1 (by decide +kernel) ?_
  refine z_aload_nh 0 O dL_fail_2 rfl ?_
  refine z_iload_nh 1 O dL_fail_3 rfl ?_
  refine z_invVh (As := [.int (iI w)]) (rest := [.int (iI 0), .ref qo]) (q := a 1200) kM_L_58 O dL_fail_4 (c_X5_fail hst h hOK hzw) rfl fO.1 (by decide) (Nat.le_of_ble_eq_true rfl) (by omega) (by omega) (Nat.le_of_ble_eq_true rfl) (fun X H1 hp hz => ?_) (fun v H1 hp hz => ?_)
  · obtain ⟨⟨hc, rfl⟩ | ⟨hc, rfl⟩ | ⟨hc, rfl⟩, hx⟩ := hp
    · refine ⟨12, (zh_B ⟨by omega, by omega⟩), fun q1 => ?_⟩
      refine z_astore_nh [(3, .ref q1), (0, .ref (a 1200)), (1, .int (iI w)), (2, .ref qo)] O dL_fail_12 (by decide) rfl ?_
      refine z_iconsth 1 O dL_fail_13 (by decide +kernel) ?_
      exact z_ireturnh O dL_fail_14 rfl (by omega) (by omega) (by rw [hpo]; exact ⟨by rw [hc], Or.inr ⟨by rw [hc]; decide, hx⟩⟩)
    · refine ⟨15, ((zh_S ⟨by omega, by omega⟩).beB zn_SB), fun q1 => ?_⟩
      refine z_astore_nh [(3, .ref q1), (0, .ref (a 1200)), (1, .int (iI w)), (2, .ref qo)] O dL_fail_15 (by decide) rfl ?_
      refine z_iconsth 2 O dL_fail_16 (by decide +kernel) ?_
      exact z_ireturnh O dL_fail_17 rfl (by omega) (by omega) (by rw [hpo]; exact ⟨by rw [hc], Or.inr ⟨by rw [hc]; decide, hx⟩⟩)
    · exfalso; revert hc; unfold cFa; (repeat' split) <;> omega
  · obtain ⟨rfl, hc, hcp⟩ := hp
    obtain ⟨r1, a1, ha1, hfr, hgv, hcm⟩ := hcp
    have hL1 := hLA0.fr hfr (by show ¬ (_ < _); omega)
    refine z_i2lRh O dL_fail_7 ?_
    refine z_lasth O dL_fail_8 hL1.1 (fun H2 hL2 hC2 => ?_)
    have hf2 := hL1.ch hC2
    refine z_gotoh 18 O dL_fail_9 (by decide) ?_
    refine z_iconsth 0 O dL_fail_18 (by decide +kernel) ?_
    exact z_ireturnh O dL_fail_19 rfl (by omega) (by omega) (by rw [hpo]; exact ⟨by rw [hc], Or.inl ⟨hc, r1, a1, ha1, ((hfr.up (fun s h => by have : s < 1300 := h; show s ≤ 1300; omega)).tr (hf2.up (fun s h => by have : s = 1300 := h; show s ≤ 1300; omega))), by have := hgv; unfold zGv at *; have := hC2.1; have := zSz_ch hC2 hL1.1 hL2; omega, hcm.fr hf2 (fun s h => by show ¬ (_ = _); omega), ⟨hL2, hL1.2⟩⟩⟩)
theorem kM_L_61 : zMV RL 61 yX5_setMercy cX5_setMercy 3 (some .int) 1 5 := ⟨⟨(List.mem_of_getElem? (i := 38) (by decide +kernel)), (List.mem_of_getElem? (i := 798) (by decide +kernel)), by decide +kernel, by decide +kernel, by decide +kernel⟩, (List.mem_of_getElem? (i := 795) (by decide +kernel)), (List.mem_of_getElem? (i := 796) (by decide +kernel)), (List.mem_of_getElem? (i := 797) (by decide +kernel)), ⟨_, rfl, rfl⟩⟩
theorem c_L_setMercy {E : zE} (hst : E.1.stackTraces = false) {qo : Nat} {u0 : Int64} {H : Heap} {r : zH} {a : Nat → Nat} {n : Int} {tx G : Int → Int} {fi ac : Int} {dd : Nat → Int → Int} {kp ik : Int → Int} {N : Int} {v : Int} (h : zCm E H r a n tx G fi ac dd kp ik) (hOK : cOK n tx G fi ac dd kp ik N) (hzv : zR v) (hLA : zLA E H r 1300 qo u0) : zCH E yL_setMercy cL_setMercy 4 (some .int) [(0, 9, 12, 13)] 7 161 [.ref (a 1200), .int (iI v), .ref qo] H 1089 27157 (zRi (cMe v) (zWo E H r a qo (cMe v) (G 32) n tx (zU G 32 v) (mFi fi ac) (mAc ac) (zDw dd (mIx fi ac) G) kp ik)) := by
  refine zCH.of (by decide) (Nat.le_of_ble_eq_true rfl) hst ?_
  intro x O hE hpo hpx
  subst hE
  have hLA0 := hLA
  have h0 := h
  obtain ⟨_, _, _, _, _, ⟨fO, _⟩, _⟩ := id h
  change zG x H 0 0 0 [(0, .ref (a 1200)), (1, .int (iI v)), (2, .ref qo)] []
  refine z_aload_nh 2 O dL_setMercy_0 rfl ?_
  refine z_iconsth 0 O dL_setMercy_1 (by decide +kernel) ?_
  refine z_aload_nh 0 O dL_setMercy_2 rfl ?_
  refine z_iload_nh 1 O dL_setMercy_3 rfl ?_
  refine z_invVh (As := [.int (iI v)]) (rest := [.int (iI 0), .ref qo]) (q := a 1200) kM_L_61 O dL_setMercy_4 (c_X5_setMercy hst h hOK hzv) rfl fO.1 (by decide) (Nat.le_of_ble_eq_true rfl) (by omega) (by omega) (Nat.le_of_ble_eq_true rfl) (fun X H1 hp hz => ?_) (fun v H1 hp hz => ?_)
  · obtain ⟨⟨hc, rfl⟩ | ⟨hc, rfl⟩ | ⟨hc, rfl⟩, hx⟩ := hp
    · refine ⟨12, (zh_A ⟨by omega, by omega⟩), fun q1 => ?_⟩
      refine z_astore_nh [(3, .ref q1), (0, .ref (a 1200)), (1, .int (iI v)), (2, .ref qo)] O dL_setMercy_12 (by decide) rfl ?_
      refine z_iconsth 1 O dL_setMercy_13 (by decide +kernel) ?_
      exact z_ireturnh O dL_setMercy_14 rfl (by omega) (by omega) (by rw [hpo]; exact ⟨by rw [hc], Or.inr ⟨by rw [hc]; decide, hx⟩⟩)
    · exfalso; revert hc; unfold cMe; (repeat' split) <;> omega
    · exfalso; revert hc; unfold cMe; (repeat' split) <;> omega
  · obtain ⟨rfl, hc, hcp⟩ := hp
    obtain ⟨r1, a1, ha1, hfr, hgv, hcm⟩ := hcp
    have hL1 := hLA0.fr hfr (by show ¬ (_ < _); omega)
    refine z_i2lRh O dL_setMercy_7 ?_
    refine z_lasth O dL_setMercy_8 hL1.1 (fun H2 hL2 hC2 => ?_)
    have hf2 := hL1.ch hC2
    refine z_gotoh 15 O dL_setMercy_9 (by decide) ?_
    refine z_iconsth 0 O dL_setMercy_15 (by decide +kernel) ?_
    exact z_ireturnh O dL_setMercy_16 rfl (by omega) (by omega) (by rw [hpo]; exact ⟨by rw [hc], Or.inl ⟨hc, r1, a1, ha1, ((hfr.up (fun s h => by have : s < 1300 := h; show s ≤ 1300; omega)).tr (hf2.up (fun s h => by have : s = 1300 := h; show s ≤ 1300; omega))), by have := hgv; unfold zGv at *; have := hC2.1; have := zSz_ch hC2 hL1.1 hL2; omega, hcm.fr hf2 (fun s h => by show ¬ (_ = _); omega), ⟨hL2, hL1.2⟩⟩⟩)
theorem kM_L_64 : zMV RL 64 yX5_undo cX5_undo 1 (some .int) 0 5 := ⟨⟨(List.mem_of_getElem? (i := 38) (by decide +kernel)), (List.mem_of_getElem? (i := 806) (by decide +kernel)), by decide +kernel, by decide +kernel, by decide +kernel⟩, (List.mem_of_getElem? (i := 803) (by decide +kernel)), (List.mem_of_getElem? (i := 804) (by decide +kernel)), (List.mem_of_getElem? (i := 805) (by decide +kernel)), ⟨_, rfl, rfl⟩⟩
theorem c_L_undo {E : zE} (hst : E.1.stackTraces = false) {qo : Nat} {u0 : Int64} {H : Heap} {r : zH} {a : Nat → Nat} {n : Int} {tx G : Int → Int} {fi ac : Int} {dd : Nat → Int → Int} {kp ik : Int → Int} {N : Int} (h : zCm E H r a n tx G fi ac dd kp ik) (hOK : cOK n tx G fi ac dd kp ik N) (hLA : zLA E H r 1300 qo u0) : zCH E yL_undo cL_undo 3 (some .int) [(0, 8, 11, 15)] 7 160 [.ref (a 1200), .ref qo] H 15 6310 (zRi (cUn ac) (zWo E H r a qo (cUn ac) (ac - 1) n tx (zDr dd ((fi + (ac - 1)) % 16)) fi (ac - 1) dd kp ik)) := by
  refine zCH.of (by decide) (Nat.le_of_ble_eq_true rfl) hst ?_
  intro x O hE hpo hpx
  subst hE
  have hLA0 := hLA
  have h0 := h
  obtain ⟨_, _, _, _, _, ⟨fO, _⟩, _⟩ := id h
  change zG x H 0 0 0 [(0, .ref (a 1200)), (1, .ref qo)] []
  refine z_aload_nh 1 O dL_undo_0 rfl ?_
  refine z_iconsth 0 O dL_undo_1 (by decide +kernel) ?_
  refine z_aload_nh 0 O dL_undo_2 rfl ?_
  refine z_invVh (As := []) (rest := [.int (iI 0), .ref qo]) (q := a 1200) kM_L_64 O dL_undo_3 (c_X5_undo hst h hOK) rfl fO.1 (by decide) (Nat.le_of_ble_eq_true rfl) (by omega) (by omega) (Nat.le_of_ble_eq_true rfl) (fun X H1 hp hz => ?_) (fun v H1 hp hz => ?_)
  · obtain ⟨⟨hc, rfl⟩ | ⟨hc, rfl⟩ | ⟨hc, rfl⟩, hx⟩ := hp
    · refine ⟨11, (zh_S ⟨by omega, by omega⟩), fun q1 => ?_⟩
      refine z_astore_nh [(2, .ref q1), (0, .ref (a 1200)), (1, .ref qo)] O dL_undo_11 (by decide) rfl ?_
      refine z_iconsth 1 O dL_undo_12 (by decide +kernel) ?_
      exact z_ireturnh O dL_undo_13 rfl (by omega) (by omega) (by rw [hpo]; exact ⟨by rw [hc], Or.inr ⟨by rw [hc]; decide, hx⟩⟩)
    · exfalso; revert hc; unfold cUn; (repeat' split) <;> omega
    · exfalso; revert hc; unfold cUn; (repeat' split) <;> omega
  · obtain ⟨rfl, hc, hcp⟩ := hp
    obtain ⟨r1, a1, ha1, hfr, hgv, hcm⟩ := hcp
    have hL1 := hLA0.fr hfr (by show ¬ (_ < _); omega)
    refine z_i2lRh O dL_undo_6 ?_
    refine z_lasth O dL_undo_7 hL1.1 (fun H2 hL2 hC2 => ?_)
    have hf2 := hL1.ch hC2
    refine z_gotoh 14 O dL_undo_8 (by decide) ?_
    refine z_iconsth 0 O dL_undo_14 (by decide +kernel) ?_
    exact z_ireturnh O dL_undo_15 rfl (by omega) (by omega) (by rw [hpo]; exact ⟨by rw [hc], Or.inl ⟨hc, r1, a1, ha1, ((hfr.up (fun s h => by have : s < 1300 := h; show s ≤ 1300; omega)).tr (hf2.up (fun s h => by have : s = 1300 := h; show s ≤ 1300; omega))), by have := hgv; unfold zGv at *; have := hC2.1; have := zSz_ch hC2 hL1.1 hL2; omega, hcm.fr hf2 (fun s h => by show ¬ (_ = _); omega), ⟨hL2, hL1.2⟩⟩⟩)
theorem kM_L_67 : zMV RL 67 yX5_whyNot cX5_whyNot 4 (some .int) 2 5 := ⟨⟨(List.mem_of_getElem? (i := 38) (by decide +kernel)), (List.mem_of_getElem? (i := 818) (by decide +kernel)), by decide +kernel, by decide +kernel, by decide +kernel⟩, (List.mem_of_getElem? (i := 815) (by decide +kernel)), (List.mem_of_getElem? (i := 816) (by decide +kernel)), (List.mem_of_getElem? (i := 817) (by decide +kernel)), ⟨_, rfl, rfl⟩⟩
theorem c_L_whyNot {E : zE} (hst : E.1.stackTraces = false) {qo : Nat} {u0 : Int64} {H : Heap} {r : zH} {a : Nat → Nat} {n : Int} {tx G : Int → Int} {fi ac : Int} {dd : Nat → Int → Int} {kp ik : Int → Int} {N : Int} {w c : Int} (h : zCm E H r a n tx G fi ac dd kp ik) (hOK : cOK n tx G fi ac dd kp ik N) (hzw : zR w) (hzc : zR c) (hLA : zLA E H r 1300 qo u0) : zCH E yL_whyNot cL_whyNot 5 (some .int) [(0, 10, 13, 28)] 8 135 [.ref (a 1200), .int (iI w), .int (iI c), .ref qo] H 1 6 (zRi (cWy w c) (zWo E H r a qo (cWy w c) (sRe G w c) n tx G fi ac dd kp ik)) := by
  refine zCH.of (by decide) (Nat.le_of_ble_eq_true rfl) hst ?_
  intro x O hE hpo hpx
  subst hE
  have hLA0 := hLA
  have h0 := h
  obtain ⟨_, _, _, _, _, ⟨fO, _⟩, _⟩ := id h
  change zG x H 0 0 0 [(0, .ref (a 1200)), (1, .int (iI w)), (2, .int (iI c)), (3, .ref qo)] []
  refine z_aload_nh 3 O dL_whyNot_0 rfl ?_
  refine z_iconsth 0 O dL_whyNot_1 (by decide +kernel) ?_
  refine z_aload_nh 0 O dL_whyNot_2 rfl ?_
  refine z_iload_nh 1 O dL_whyNot_3 rfl ?_
  refine z_iload_nh 2 O dL_whyNot_4 rfl ?_
  refine z_invVh (As := [.int (iI w), .int (iI c)]) (rest := [.int (iI 0), .ref qo]) (q := a 1200) kM_L_67 O dL_whyNot_5 (c_X5_whyNot hst h hOK hzw hzc) rfl fO.1 (by decide) (Nat.le_of_ble_eq_true rfl) (by omega) (by omega) (Nat.le_of_ble_eq_true rfl) (fun X H1 hp hz => ?_) (fun v H1 hp hz => ?_)
  · obtain ⟨⟨hc, rfl⟩ | ⟨hc, rfl⟩ | ⟨hc, rfl⟩, hx⟩ := hp
    · refine ⟨13, (zh_B ⟨by omega, by omega⟩), fun q1 => ?_⟩
      refine z_astoreh [(4, .ref q1), (0, .ref (a 1200)), (1, .int (iI w)), (2, .int (iI c)), (3, .ref qo)] O dL_whyNot_13 (by decide) rfl ?_
      refine z_iconsth 1 O dL_whyNot_15 (by decide +kernel) ?_
      exact z_ireturnh O dL_whyNot_16 rfl (by omega) (by omega) (by rw [hpo]; exact ⟨by rw [hc], Or.inr ⟨by rw [hc]; decide, hx⟩⟩)
    · exfalso; revert hc; unfold cWy; (repeat' split) <;> omega
    · exfalso; revert hc; unfold cWy; (repeat' split) <;> omega
  · obtain ⟨rfl, hc, rfl⟩ := hp
    have hcp : ∃ (r1 : zH) (a1 : Nat → Nat), a1 1200 = a 1200 ∧ zFr H1 r H1 r1 (fun s => s < 1300) ∧ zGv H1 r H1 r1 ∧ zCm (zEn x) H1 r1 a1 n tx G fi ac dd kp ik := ⟨r, a, rfl, zFr.rf, zGv.rf, h0⟩
    obtain ⟨r1, a1, ha1, hfr, hgv, hcm⟩ := hcp
    have hL1 := hLA0.fr hfr (by show ¬ (_ < _); omega)
    refine z_i2lRh O dL_whyNot_8 ?_
    refine z_lasth O dL_whyNot_9 hL1.1 (fun H2 hL2 hC2 => ?_)
    have hf2 := hL1.ch hC2
    refine z_gotoh 17 O dL_whyNot_10 (by decide) ?_
    refine z_iconsth 0 O dL_whyNot_17 (by decide +kernel) ?_
    exact z_ireturnh O dL_whyNot_18 rfl (by omega) (by omega) (by rw [hpo]; exact ⟨by rw [hc], Or.inl ⟨hc, r1, a1, ha1, ((hfr.up (fun s h => by have : s < 1300 := h; show s ≤ 1300; omega)).tr (hf2.up (fun s h => by have : s = 1300 := h; show s ≤ 1300; omega))), by have := hgv; unfold zGv at *; have := hC2.1; have := zSz_ch hC2 hL1.1 hL2; omega, hcm.fr hf2 (fun s h => by show ¬ (_ = _); omega), ⟨hL2, hL1.2⟩⟩⟩)
theorem kM_L_70 : zMV RL 70 yX5_failed cX5_failed 5 (some .int) 3 5 := ⟨⟨(List.mem_of_getElem? (i := 38) (by decide +kernel)), (List.mem_of_getElem? (i := 826) (by decide +kernel)), by decide +kernel, by decide +kernel, by decide +kernel⟩, (List.mem_of_getElem? (i := 823) (by decide +kernel)), (List.mem_of_getElem? (i := 824) (by decide +kernel)), (List.mem_of_getElem? (i := 825) (by decide +kernel)), ⟨_, rfl, rfl⟩⟩
theorem c_L_failed {E : zE} (hst : E.1.stackTraces = false) {qo : Nat} {u0 : Int64} {H : Heap} {r : zH} {a : Nat → Nat} {n : Int} {tx G : Int → Int} {fi ac : Int} {dd : Nat → Int → Int} {kp ik : Int → Int} {N : Int} {w c k : Int} (h : zCm E H r a n tx G fi ac dd kp ik) (hOK : cOK n tx G fi ac dd kp ik N) (hzw : zR w) (hzc : zR c) (hzk : zR k) (hLA : zLA E H r 1300 qo u0) : zCH E yL_failed cL_failed 6 (some .int) [(0, 12, 15, 28), (0, 12, 19, 13)] 8 213 [.ref (a 1200), .int (iI w), .int (iI c), .int (iI k), .ref qo] H 13566 277336 (zRi (cFd w c k) (zWo E H r a qo (cFd w c k) (sFs k.toNat G w c) n tx G fi ac dd kp ik)) := by
  refine zCH.of (by decide) (Nat.le_of_ble_eq_true rfl) hst ?_
  intro x O hE hpo hpx
  subst hE
  have hLA0 := hLA
  have h0 := h
  obtain ⟨_, _, _, _, _, ⟨fO, _⟩, _⟩ := id h
  change zG x H 0 0 0 [(0, .ref (a 1200)), (1, .int (iI w)), (2, .int (iI c)), (3, .int (iI k)), (4, .ref qo)] []
  refine z_aloadh 4 O dL_failed_0 rfl ?_
  refine z_iconsth 0 O dL_failed_2 (by decide +kernel) ?_
  refine z_aload_nh 0 O dL_failed_3 rfl ?_
  refine z_iload_nh 1 O dL_failed_4 rfl ?_
  refine z_iload_nh 2 O dL_failed_5 rfl ?_
  refine z_iload_nh 3 O dL_failed_6 rfl ?_
  refine z_invVh (As := [.int (iI w), .int (iI c), .int (iI k)]) (rest := [.int (iI 0), .ref qo]) (q := a 1200) kM_L_70 O dL_failed_7 (c_X5_failed hst h hOK hzw hzc hzk) rfl fO.1 (by decide) (Nat.le_of_ble_eq_true rfl) (by omega) (by omega) (Nat.le_of_ble_eq_true rfl) (fun X H1 hp hz => ?_) (fun v H1 hp hz => ?_)
  · obtain ⟨⟨hc, rfl⟩ | ⟨hc, rfl⟩ | ⟨hc, rfl⟩, hx⟩ := hp
    · refine ⟨15, (zh_B ⟨by omega, by omega⟩), fun q1 => ?_⟩
      refine z_astoreh [(5, .ref q1), (0, .ref (a 1200)), (1, .int (iI w)), (2, .int (iI c)), (3, .int (iI k)), (4, .ref qo)] O dL_failed_15 (by decide) rfl ?_
      refine z_iconsth 1 O dL_failed_17 (by decide +kernel) ?_
      exact z_ireturnh O dL_failed_18 rfl (by omega) (by omega) (by rw [hpo]; exact ⟨by rw [hc], Or.inr ⟨by rw [hc]; decide, hx⟩⟩)
    · refine ⟨19, ((zh_A ⟨by omega, by omega⟩).beB zn_AB), fun q1 => ?_⟩
      refine z_astoreh [(5, .ref q1), (0, .ref (a 1200)), (1, .int (iI w)), (2, .int (iI c)), (3, .int (iI k)), (4, .ref qo)] O dL_failed_19 (by decide) rfl ?_
      refine z_iconsth 2 O dL_failed_21 (by decide +kernel) ?_
      exact z_ireturnh O dL_failed_22 rfl (by omega) (by omega) (by rw [hpo]; exact ⟨by rw [hc], Or.inr ⟨by rw [hc]; decide, hx⟩⟩)
    · exfalso; revert hc; unfold cFd; (repeat' split) <;> omega
  · obtain ⟨rfl, hc, hcp⟩ := hp
    obtain ⟨r1, a1, ha1, hfr, hgv, hcm⟩ := hcp
    have hL1 := hLA0.fr hfr (by show ¬ (_ < _); omega)
    refine z_i2lRh O dL_failed_10 ?_
    refine z_lasth O dL_failed_11 hL1.1 (fun H2 hL2 hC2 => ?_)
    have hf2 := hL1.ch hC2
    refine z_gotoh 23 O dL_failed_12 (by decide) ?_
    refine z_iconsth 0 O dL_failed_23 (by decide +kernel) ?_
    exact z_ireturnh O dL_failed_24 rfl (by omega) (by omega) (by rw [hpo]; exact ⟨by rw [hc], Or.inl ⟨hc, r1, a1, ha1, ((hfr.up (fun s h => by have : s < 1300 := h; show s ≤ 1300; omega)).tr (hf2.up (fun s h => by have : s = 1300 := h; show s ≤ 1300; omega))), by have := hgv; unfold zGv at *; have := hC2.1; have := zSz_ch hC2 hL1.1 hL2; omega, hcm.fr hf2 (fun s h => by show ¬ (_ = _); omega), ⟨hL2, hL1.2⟩⟩⟩)
theorem kM_L_73 : zMV RL 73 yX5_changes cX5_changes 2 (some .int) 1 5 := ⟨⟨(List.mem_of_getElem? (i := 38) (by decide +kernel)), (List.mem_of_getElem? (i := 835) (by decide +kernel)), by decide +kernel, by decide +kernel, by decide +kernel⟩, (List.mem_of_getElem? (i := 832) (by decide +kernel)), (List.mem_of_getElem? (i := 833) (by decide +kernel)), (List.mem_of_getElem? (i := 834) (by decide +kernel)), ⟨_, rfl, rfl⟩⟩
theorem c_L_changes {E : zE} (hst : E.1.stackTraces = false) {qo : Nat} {u0 : Int64} {H : Heap} {r : zH} {a : Nat → Nat} {n : Int} {tx G : Int → Int} {fi ac : Int} {dd : Nat → Int → Int} {kp ik : Int → Int} {N : Int} {w : Int} (h : zCm E H r a n tx G fi ac dd kp ik) (hOK : cOK n tx G fi ac dd kp ik N) (hzw : zR w) (hLA : zLA E H r 1300 qo u0) : zCH E yL_changes cL_changes 4 (some .int) [(0, 9, 12, 28)] 8 210 [.ref (a 1200), .int (iI w), .ref qo] H 1038 26776 (zRi (cWw w) (zWo E H r a qo (cWw w) (vCh G w) n tx G fi ac dd kp ik)) := by
  refine zCH.of (by decide) (Nat.le_of_ble_eq_true rfl) hst ?_
  intro x O hE hpo hpx
  subst hE
  have hLA0 := hLA
  have h0 := h
  obtain ⟨_, _, _, _, _, ⟨fO, _⟩, _⟩ := id h
  change zG x H 0 0 0 [(0, .ref (a 1200)), (1, .int (iI w)), (2, .ref qo)] []
  refine z_aload_nh 2 O dL_changes_0 rfl ?_
  refine z_iconsth 0 O dL_changes_1 (by decide +kernel) ?_
  refine z_aload_nh 0 O dL_changes_2 rfl ?_
  refine z_iload_nh 1 O dL_changes_3 rfl ?_
  refine z_invVh (As := [.int (iI w)]) (rest := [.int (iI 0), .ref qo]) (q := a 1200) kM_L_73 O dL_changes_4 (c_X5_changes hst h hOK hzw) rfl fO.1 (by decide) (Nat.le_of_ble_eq_true rfl) (by omega) (by omega) (Nat.le_of_ble_eq_true rfl) (fun X H1 hp hz => ?_) (fun v H1 hp hz => ?_)
  · obtain ⟨⟨hc, rfl⟩ | ⟨hc, rfl⟩ | ⟨hc, rfl⟩, hx⟩ := hp
    · refine ⟨12, (zh_B ⟨by omega, by omega⟩), fun q1 => ?_⟩
      refine z_astore_nh [(3, .ref q1), (0, .ref (a 1200)), (1, .int (iI w)), (2, .ref qo)] O dL_changes_12 (by decide) rfl ?_
      refine z_iconsth 1 O dL_changes_13 (by decide +kernel) ?_
      exact z_ireturnh O dL_changes_14 rfl (by omega) (by omega) (by rw [hpo]; exact ⟨by rw [hc], Or.inr ⟨by rw [hc]; decide, hx⟩⟩)
    · exfalso; revert hc; unfold cWw; (repeat' split) <;> omega
    · exfalso; revert hc; unfold cWw; (repeat' split) <;> omega
  · obtain ⟨rfl, hc, hcp⟩ := hp
    obtain ⟨r1, a1, ha1, hfr, hgv, hcm⟩ := hcp
    have hL1 := hLA0.fr hfr (by show ¬ (_ < _); omega)
    refine z_i2lRh O dL_changes_7 ?_
    refine z_lasth O dL_changes_8 hL1.1 (fun H2 hL2 hC2 => ?_)
    have hf2 := hL1.ch hC2
    refine z_gotoh 15 O dL_changes_9 (by decide) ?_
    refine z_iconsth 0 O dL_changes_15 (by decide +kernel) ?_
    exact z_ireturnh O dL_changes_16 rfl (by omega) (by omega) (by rw [hpo]; exact ⟨by rw [hc], Or.inl ⟨hc, r1, a1, ha1, ((hfr.up (fun s h => by have : s < 1300 := h; show s ≤ 1300; omega)).tr (hf2.up (fun s h => by have : s = 1300 := h; show s ≤ 1300; omega))), by have := hgv; unfold zGv at *; have := hC2.1; have := zSz_ch hC2 hL1.1 hL2; omega, hcm.fr hf2 (fun s h => by show ¬ (_ = _); omega), ⟨hL2, hL1.2⟩⟩⟩)
theorem kM_L_76 : zMV RL 76 yX5_lost cX5_lost 4 (some .int) 2 5 := ⟨⟨(List.mem_of_getElem? (i := 38) (by decide +kernel)), (List.mem_of_getElem? (i := 846) (by decide +kernel)), by decide +kernel, by decide +kernel, by decide +kernel⟩, (List.mem_of_getElem? (i := 843) (by decide +kernel)), (List.mem_of_getElem? (i := 844) (by decide +kernel)), (List.mem_of_getElem? (i := 845) (by decide +kernel)), ⟨_, rfl, rfl⟩⟩
theorem c_L_lost {E : zE} (hst : E.1.stackTraces = false) {qo : Nat} {u0 : Int64} {H : Heap} {r : zH} {a : Nat → Nat} {n : Int} {tx G : Int → Int} {fi ac : Int} {dd : Nat → Int → Int} {kp ik : Int → Int} {N : Int} {w i : Int} (h : zCm E H r a n tx G fi ac dd kp ik) (hOK : cOK n tx G fi ac dd kp ik N) (hzw : zR w) (hzi : zR i) (hLA : zLA E H r 1300 qo u0) : zCH E yL_lost cL_lost 5 (some .int) [(0, 10, 13, 28)] 8 140 [.ref (a 1200), .int (iI w), .int (iI i), .ref qo] H 14 6296 (zRi (cLo G w i) (zWo E H r a qo (cLo G w i) (zSum 16 (sDf (sBack G w i) G)) n tx G fi ac dd kp ik)) := by
  refine zCH.of (by decide) (Nat.le_of_ble_eq_true rfl) hst ?_
  intro x O hE hpo hpx
  subst hE
  have hLA0 := hLA
  have h0 := h
  obtain ⟨_, _, _, _, _, ⟨fO, _⟩, _⟩ := id h
  change zG x H 0 0 0 [(0, .ref (a 1200)), (1, .int (iI w)), (2, .int (iI i)), (3, .ref qo)] []
  refine z_aload_nh 3 O dL_lost_0 rfl ?_
  refine z_iconsth 0 O dL_lost_1 (by decide +kernel) ?_
  refine z_aload_nh 0 O dL_lost_2 rfl ?_
  refine z_iload_nh 1 O dL_lost_3 rfl ?_
  refine z_iload_nh 2 O dL_lost_4 rfl ?_
  refine z_invVh (As := [.int (iI w), .int (iI i)]) (rest := [.int (iI 0), .ref qo]) (q := a 1200) kM_L_76 O dL_lost_5 (c_X5_lost hst h hOK hzw hzi) rfl fO.1 (by decide) (Nat.le_of_ble_eq_true rfl) (by omega) (by omega) (Nat.le_of_ble_eq_true rfl) (fun X H1 hp hz => ?_) (fun v H1 hp hz => ?_)
  · obtain ⟨⟨hc, rfl⟩ | ⟨hc, rfl⟩ | ⟨hc, rfl⟩, hx⟩ := hp
    · refine ⟨13, (zh_B ⟨by omega, by omega⟩), fun q1 => ?_⟩
      refine z_astoreh [(4, .ref q1), (0, .ref (a 1200)), (1, .int (iI w)), (2, .int (iI i)), (3, .ref qo)] O dL_lost_13 (by decide) rfl ?_
      refine z_iconsth 1 O dL_lost_15 (by decide +kernel) ?_
      exact z_ireturnh O dL_lost_16 rfl (by omega) (by omega) (by rw [hpo]; exact ⟨by rw [hc], Or.inr ⟨by rw [hc]; decide, hx⟩⟩)
    · exfalso; revert hc; unfold cLo; (repeat' split) <;> omega
    · exfalso; revert hc; unfold cLo; (repeat' split) <;> omega
  · obtain ⟨rfl, hc, hcp⟩ := hp
    obtain ⟨r1, a1, ha1, hfr, hgv, hcm⟩ := hcp
    have hL1 := hLA0.fr hfr (by show ¬ (_ < _); omega)
    refine z_i2lRh O dL_lost_8 ?_
    refine z_lasth O dL_lost_9 hL1.1 (fun H2 hL2 hC2 => ?_)
    have hf2 := hL1.ch hC2
    refine z_gotoh 17 O dL_lost_10 (by decide) ?_
    refine z_iconsth 0 O dL_lost_17 (by decide +kernel) ?_
    exact z_ireturnh O dL_lost_18 rfl (by omega) (by omega) (by rw [hpo]; exact ⟨by rw [hc], Or.inl ⟨hc, r1, a1, ha1, ((hfr.up (fun s h => by have : s < 1300 := h; show s ≤ 1300; omega)).tr (hf2.up (fun s h => by have : s = 1300 := h; show s ≤ 1300; omega))), by have := hgv; unfold zGv at *; have := hC2.1; have := zSz_ch hC2 hL1.1 hL2; omega, hcm.fr hf2 (fun s h => by show ¬ (_ = _); omega), ⟨hL2, hL1.2⟩⟩⟩)
theorem kM_L_79 : zMV RL 79 yX5_mercyLeft cX5_mercyLeft 4 (some .int) 1 5 := ⟨⟨(List.mem_of_getElem? (i := 38) (by decide +kernel)), (List.mem_of_getElem? (i := 854) (by decide +kernel)), by decide +kernel, by decide +kernel, by decide +kernel⟩, (List.mem_of_getElem? (i := 851) (by decide +kernel)), (List.mem_of_getElem? (i := 852) (by decide +kernel)), (List.mem_of_getElem? (i := 853) (by decide +kernel)), ⟨_, rfl, rfl⟩⟩
theorem c_L_mercyLeft {E : zE} (hst : E.1.stackTraces = false) {qo : Nat} {u0 : Int64} {H : Heap} {r : zH} {a : Nat → Nat} {n : Int} {tx G : Int → Int} {fi ac : Int} {dd : Nat → Int → Int} {kp ik : Int → Int} {N : Int} {w : Int} (h : zCm E H r a n tx G fi ac dd kp ik) (hOK : cOK n tx G fi ac dd kp ik N) (hzw : zR w) (hLA : zLA E H r 1300 qo u0) : zCH E yL_mercyLeft cL_mercyLeft 4 (some .int) [(0, 9, 12, 28)] 8 135 [.ref (a 1200), .int (iI w), .ref qo] H 1 6 (zRi (cWw w) (zWo E H r a qo (cWw w) (vMl G w) n tx G fi ac dd kp ik)) := by
  refine zCH.of (by decide) (Nat.le_of_ble_eq_true rfl) hst ?_
  intro x O hE hpo hpx
  subst hE
  have hLA0 := hLA
  have h0 := h
  obtain ⟨_, _, _, _, _, ⟨fO, _⟩, _⟩ := id h
  change zG x H 0 0 0 [(0, .ref (a 1200)), (1, .int (iI w)), (2, .ref qo)] []
  refine z_aload_nh 2 O dL_mercyLeft_0 rfl ?_
  refine z_iconsth 0 O dL_mercyLeft_1 (by decide +kernel) ?_
  refine z_aload_nh 0 O dL_mercyLeft_2 rfl ?_
  refine z_iload_nh 1 O dL_mercyLeft_3 rfl ?_
  refine z_invVh (As := [.int (iI w)]) (rest := [.int (iI 0), .ref qo]) (q := a 1200) kM_L_79 O dL_mercyLeft_4 (c_X5_mercyLeft hst h hOK hzw) rfl fO.1 (by decide) (Nat.le_of_ble_eq_true rfl) (by omega) (by omega) (Nat.le_of_ble_eq_true rfl) (fun X H1 hp hz => ?_) (fun v H1 hp hz => ?_)
  · obtain ⟨⟨hc, rfl⟩ | ⟨hc, rfl⟩ | ⟨hc, rfl⟩, hx⟩ := hp
    · refine ⟨12, (zh_B ⟨by omega, by omega⟩), fun q1 => ?_⟩
      refine z_astore_nh [(3, .ref q1), (0, .ref (a 1200)), (1, .int (iI w)), (2, .ref qo)] O dL_mercyLeft_12 (by decide) rfl ?_
      refine z_iconsth 1 O dL_mercyLeft_13 (by decide +kernel) ?_
      exact z_ireturnh O dL_mercyLeft_14 rfl (by omega) (by omega) (by rw [hpo]; exact ⟨by rw [hc], Or.inr ⟨by rw [hc]; decide, hx⟩⟩)
    · exfalso; revert hc; unfold cWw; (repeat' split) <;> omega
    · exfalso; revert hc; unfold cWw; (repeat' split) <;> omega
  · obtain ⟨rfl, hc, rfl⟩ := hp
    have hcp : ∃ (r1 : zH) (a1 : Nat → Nat), a1 1200 = a 1200 ∧ zFr H1 r H1 r1 (fun s => s < 1300) ∧ zGv H1 r H1 r1 ∧ zCm (zEn x) H1 r1 a1 n tx G fi ac dd kp ik := ⟨r, a, rfl, zFr.rf, zGv.rf, h0⟩
    obtain ⟨r1, a1, ha1, hfr, hgv, hcm⟩ := hcp
    have hL1 := hLA0.fr hfr (by show ¬ (_ < _); omega)
    refine z_i2lRh O dL_mercyLeft_7 ?_
    refine z_lasth O dL_mercyLeft_8 hL1.1 (fun H2 hL2 hC2 => ?_)
    have hf2 := hL1.ch hC2
    refine z_gotoh 15 O dL_mercyLeft_9 (by decide) ?_
    refine z_iconsth 0 O dL_mercyLeft_15 (by decide +kernel) ?_
    exact z_ireturnh O dL_mercyLeft_16 rfl (by omega) (by omega) (by rw [hpo]; exact ⟨by rw [hc], Or.inl ⟨hc, r1, a1, ha1, ((hfr.up (fun s h => by have : s < 1300 := h; show s ≤ 1300; omega)).tr (hf2.up (fun s h => by have : s = 1300 := h; show s ≤ 1300; omega))), by have := hgv; unfold zGv at *; have := hC2.1; have := zSz_ch hC2 hL1.1 hL2; omega, hcm.fr hf2 (fun s h => by show ¬ (_ = _); omega), ⟨hL2, hL1.2⟩⟩⟩)
theorem kM_L_82 : zMV RL 82 yX5_runScript cX5_runScript 6 (some .int) 2 5 := ⟨⟨(List.mem_of_getElem? (i := 38) (by decide +kernel)), (List.mem_of_getElem? (i := 863) (by decide +kernel)), by decide +kernel, by decide +kernel, by decide +kernel⟩, (List.mem_of_getElem? (i := 860) (by decide +kernel)), (List.mem_of_getElem? (i := 861) (by decide +kernel)), (List.mem_of_getElem? (i := 862) (by decide +kernel)), ⟨_, rfl, rfl⟩⟩
theorem c_L_runScript {E : zE} (hst : E.1.stackTraces = false) {qo : Nat} {u0 : Int64} {H : Heap} {r : zH} {a : Nat → Nat} {n : Int} {tx G : Int → Int} {fi ac : Int} {dd : Nat → Int → Int} {kp ik : Int → Int} {N : Int} {n0 s0 : Int} (h : zCm E H r a n tx G fi ac dd kp ik) (hOK : cOK n tx G fi ac dd kp ik N) (hzn : zR n0) (hzs : zRL s0) (hN6 : N ≤ 630) (hLA : zLA E H r 1300 qo u0) : zCH E yL_runScript cL_runScript 6 (some .int) [(0, 11, 14, 13)] 9 238 [.ref (a 1200), .int (iI n0), .long (iL s0), .ref qo] H 13566 277336 (zRi (cRs n0 s0) (zWo E H r a qo (cRs n0 s0) (sRu n0.toNat s0 0 G) n tx G fi ac dd kp ik)) := by
  refine zCH.of (by decide) (Nat.le_of_ble_eq_true rfl) hst ?_
  intro x O hE hpo hpx
  subst hE
  have hLA0 := hLA
  have h0 := h
  obtain ⟨_, _, _, _, _, ⟨fO, _⟩, _⟩ := id h
  change zG x H 0 0 0 [(0, .ref (a 1200)), (1, .int (iI n0)), (2, .long (iL s0)), (4, .ref qo)] []
  refine z_aloadh 3 O dL_runScript_0 rfl ?_
  refine z_iconsth 0 O dL_runScript_2 (by decide +kernel) ?_
  refine z_aload_nh 0 O dL_runScript_3 rfl ?_
  refine z_iload_nh 1 O dL_runScript_4 rfl ?_
  refine z_lload_nh 2 O dL_runScript_5 rfl ?_
  refine z_invVh (As := [.int (iI n0), .long (iL s0)]) (rest := [.int (iI 0), .ref qo]) (q := a 1200) kM_L_82 O dL_runScript_6 (c_X5_runScript hst h hOK hzn hzs hN6) rfl fO.1 (by decide) (Nat.le_of_ble_eq_true rfl) (by omega) (by omega) (Nat.le_of_ble_eq_true rfl) (fun X H1 hp hz => ?_) (fun v H1 hp hz => ?_)
  · obtain ⟨⟨hc, rfl⟩ | ⟨hc, rfl⟩ | ⟨hc, rfl⟩, hx⟩ := hp
    · refine ⟨14, (zh_A ⟨by omega, by omega⟩), fun q1 => ?_⟩
      refine z_astoreh [(5, .ref q1), (0, .ref (a 1200)), (1, .int (iI n0)), (2, .long (iL s0)), (4, .ref qo)] O dL_runScript_14 (by decide) rfl ?_
      refine z_iconsth 1 O dL_runScript_16 (by decide +kernel) ?_
      exact z_ireturnh O dL_runScript_17 rfl (by omega) (by omega) (by rw [hpo]; exact ⟨by rw [hc], Or.inr ⟨by rw [hc]; decide, hx⟩⟩)
    · exfalso; revert hc; unfold cRs; (repeat' split) <;> omega
    · exfalso; revert hc; unfold cRs; (repeat' split) <;> omega
  · obtain ⟨rfl, hc, hcp⟩ := hp
    obtain ⟨r1, a1, ha1, hfr, hgv, hcm⟩ := hcp
    have hL1 := hLA0.fr hfr (by show ¬ (_ < _); omega)
    refine z_i2lRh O dL_runScript_9 ?_
    refine z_lasth O dL_runScript_10 hL1.1 (fun H2 hL2 hC2 => ?_)
    have hf2 := hL1.ch hC2
    refine z_gotoh 18 O dL_runScript_11 (by decide) ?_
    refine z_iconsth 0 O dL_runScript_18 (by decide +kernel) ?_
    exact z_ireturnh O dL_runScript_19 rfl (by omega) (by omega) (by rw [hpo]; exact ⟨by rw [hc], Or.inl ⟨hc, r1, a1, ha1, ((hfr.up (fun s h => by have : s < 1300 := h; show s ≤ 1300; omega)).tr (hf2.up (fun s h => by have : s = 1300 := h; show s ≤ 1300; omega))), by have := hgv; unfold zGv at *; have := hC2.1; have := zSz_ch hC2 hL1.1 hL2; omega, hcm.fr hf2 (fun s h => by show ¬ (_ = _); omega), ⟨hL2, hL1.2⟩⟩⟩)
theorem kM_L_86 : zMV RL 86 yX5_simulate cX5_simulate 7 (some .int) 2 5 := ⟨⟨(List.mem_of_getElem? (i := 38) (by decide +kernel)), (List.mem_of_getElem? (i := 885) (by decide +kernel)), by decide +kernel, by decide +kernel, by decide +kernel⟩, (List.mem_of_getElem? (i := 882) (by decide +kernel)), (List.mem_of_getElem? (i := 883) (by decide +kernel)), (List.mem_of_getElem? (i := 884) (by decide +kernel)), ⟨_, rfl, rfl⟩⟩
theorem c_L_simulate {E : zE} (hst : E.1.stackTraces = false) {qo : Nat} {u0 : Int64} {H : Heap} {r : zH} {a : Nat → Nat} {n : Int} {tx G : Int → Int} {fi ac : Int} {dd : Nat → Int → Int} {kp ik : Int → Int} {N : Int} {x0 : Int64} {k : Int} (h : zCm E H r a n tx G fi ac dd kp ik) (hOK : cOK n tx G fi ac dd kp ik N) (hzk : zR k) (hN6 : N ≤ 540) (hLA : zLA E H r 1300 qo u0) : zCH E yL_simulate cL_simulate 6 (some .int) [(0, 11, 14, 13)] 9 238 [.ref (a 1200), .long x0, .int (iI k), .ref qo] H 13566 277336 (zRi (cSi k) (zWo E H r a qo (cSi k) (vSi x0 k G) n tx G fi ac dd kp ik)) := by
  refine zCH.of (by decide) (Nat.le_of_ble_eq_true rfl) hst ?_
  intro x O hE hpo hpx
  subst hE
  have hLA0 := hLA
  have h0 := h
  obtain ⟨_, _, _, _, _, ⟨fO, _⟩, _⟩ := id h
  change zG x H 0 0 0 [(0, .ref (a 1200)), (1, .long x0), (3, .int (iI k)), (4, .ref qo)] []
  refine z_aloadh 3 O dL_simulate_0 rfl ?_
  refine z_iconsth 0 O dL_simulate_2 (by decide +kernel) ?_
  refine z_aload_nh 0 O dL_simulate_3 rfl ?_
  refine z_lload_nh 1 O dL_simulate_4 rfl ?_
  refine z_iload_nh 2 O dL_simulate_5 rfl ?_
  refine z_invVh (As := [.long x0, .int (iI k)]) (rest := [.int (iI 0), .ref qo]) (q := a 1200) kM_L_86 O dL_simulate_6 (c_X5_simulate hst h hOK hzk hN6) rfl fO.1 (by decide) (Nat.le_of_ble_eq_true rfl) (by omega) (by omega) (Nat.le_of_ble_eq_true rfl) (fun X H1 hp hz => ?_) (fun v H1 hp hz => ?_)
  · obtain ⟨⟨hc, rfl⟩ | ⟨hc, rfl⟩ | ⟨hc, rfl⟩, hx⟩ := hp
    · refine ⟨14, (zh_A ⟨by omega, by omega⟩), fun q1 => ?_⟩
      refine z_astoreh [(5, .ref q1), (0, .ref (a 1200)), (1, .long x0), (3, .int (iI k)), (4, .ref qo)] O dL_simulate_14 (by decide) rfl ?_
      refine z_iconsth 1 O dL_simulate_16 (by decide +kernel) ?_
      exact z_ireturnh O dL_simulate_17 rfl (by omega) (by omega) (by rw [hpo]; exact ⟨by rw [hc], Or.inr ⟨by rw [hc]; decide, hx⟩⟩)
    · exfalso; revert hc; unfold cSi; (repeat' split) <;> omega
    · exfalso; revert hc; unfold cSi; (repeat' split) <;> omega
  · obtain ⟨rfl, hc, hcp⟩ := hp
    obtain ⟨r1, a1, ha1, hfr, hgv, hcm⟩ := hcp
    have hL1 := hLA0.fr hfr (by show ¬ (_ < _); omega)
    refine z_i2lRh O dL_simulate_9 ?_
    refine z_lasth O dL_simulate_10 hL1.1 (fun H2 hL2 hC2 => ?_)
    have hf2 := hL1.ch hC2
    refine z_gotoh 18 O dL_simulate_11 (by decide) ?_
    refine z_iconsth 0 O dL_simulate_18 (by decide +kernel) ?_
    exact z_ireturnh O dL_simulate_19 rfl (by omega) (by omega) (by rw [hpo]; exact ⟨by rw [hc], Or.inl ⟨hc, r1, a1, ha1, ((hfr.up (fun s h => by have : s < 1300 := h; show s ≤ 1300; omega)).tr (hf2.up (fun s h => by have : s = 1300 := h; show s ≤ 1300; omega))), by have := hgv; unfold zGv at *; have := hC2.1; have := zSz_ch hC2 hL1.1 hL2; omega, hcm.fr hf2 (fun s h => by show ¬ (_ = _); omega), ⟨hL2, hL1.2⟩⟩⟩)
theorem kM_L_90 : zMV RL 90 yX5_save cX5_save 3 (some .int) 1 5 := ⟨⟨(List.mem_of_getElem? (i := 38) (by decide +kernel)), (List.mem_of_getElem? (i := 899) (by decide +kernel)), by decide +kernel, by decide +kernel, by decide +kernel⟩, (List.mem_of_getElem? (i := 896) (by decide +kernel)), (List.mem_of_getElem? (i := 897) (by decide +kernel)), (List.mem_of_getElem? (i := 898) (by decide +kernel)), ⟨_, rfl, rfl⟩⟩
theorem c_L_save {E : zE} (hst : E.1.stackTraces = false) {qo : Nat} {u0 : Int64} {H : Heap} {r : zH} {a : Nat → Nat} {n : Int} {tx G : Int → Int} {fi ac : Int} {dd : Nat → Int → Int} {kp ik : Int → Int} {N : Int} {k : Int} (h : zCm E H r a n tx G fi ac dd kp ik) (hOK : cOK n tx G fi ac dd kp ik N) (hzk : zR k) (hLA : zLA E H r 1300 qo u0) : zCH E yL_save cL_save 4 (some .int) [(0, 9, 12, 28)] 8 139 [.ref (a 1200), .int (iI k), .ref qo] H 65 6677 (zRi (cSl k) (zWo E H r a qo (cSl k) (zSum 16 G) n tx G fi ac dd (zCpy G kp 0 (4086 * k) 4086) (zU ik k 1))) := by
  refine zCH.of (by decide) (Nat.le_of_ble_eq_true rfl) hst ?_
  intro x O hE hpo hpx
  subst hE
  have hLA0 := hLA
  have h0 := h
  obtain ⟨_, _, _, _, _, ⟨fO, _⟩, _⟩ := id h
  change zG x H 0 0 0 [(0, .ref (a 1200)), (1, .int (iI k)), (2, .ref qo)] []
  refine z_aload_nh 2 O dL_save_0 rfl ?_
  refine z_iconsth 0 O dL_save_1 (by decide +kernel) ?_
  refine z_aload_nh 0 O dL_save_2 rfl ?_
  refine z_iload_nh 1 O dL_save_3 rfl ?_
  refine z_invVh (As := [.int (iI k)]) (rest := [.int (iI 0), .ref qo]) (q := a 1200) kM_L_90 O dL_save_4 (c_X5_save hst h hOK hzk) rfl fO.1 (by decide) (Nat.le_of_ble_eq_true rfl) (by omega) (by omega) (Nat.le_of_ble_eq_true rfl) (fun X H1 hp hz => ?_) (fun v H1 hp hz => ?_)
  · obtain ⟨⟨hc, rfl⟩ | ⟨hc, rfl⟩ | ⟨hc, rfl⟩, hx⟩ := hp
    · refine ⟨12, (zh_B ⟨by omega, by omega⟩), fun q1 => ?_⟩
      refine z_astore_nh [(3, .ref q1), (0, .ref (a 1200)), (1, .int (iI k)), (2, .ref qo)] O dL_save_12 (by decide) rfl ?_
      refine z_iconsth 1 O dL_save_13 (by decide +kernel) ?_
      exact z_ireturnh O dL_save_14 rfl (by omega) (by omega) (by rw [hpo]; exact ⟨by rw [hc], Or.inr ⟨by rw [hc]; decide, hx⟩⟩)
    · exfalso; revert hc; unfold cSl; (repeat' split) <;> omega
    · exfalso; revert hc; unfold cSl; (repeat' split) <;> omega
  · obtain ⟨rfl, hc, hcp⟩ := hp
    obtain ⟨r1, a1, ha1, hfr, hgv, hcm⟩ := hcp
    have hL1 := hLA0.fr hfr (by show ¬ (_ < _); omega)
    refine z_i2lRh O dL_save_7 ?_
    refine z_lasth O dL_save_8 hL1.1 (fun H2 hL2 hC2 => ?_)
    have hf2 := hL1.ch hC2
    refine z_gotoh 15 O dL_save_9 (by decide) ?_
    refine z_iconsth 0 O dL_save_15 (by decide +kernel) ?_
    exact z_ireturnh O dL_save_16 rfl (by omega) (by omega) (by rw [hpo]; exact ⟨by rw [hc], Or.inl ⟨hc, r1, a1, ha1, ((hfr.up (fun s h => by have : s < 1300 := h; show s ≤ 1300; omega)).tr (hf2.up (fun s h => by have : s = 1300 := h; show s ≤ 1300; omega))), by have := hgv; unfold zGv at *; have := hC2.1; have := zSz_ch hC2 hL1.1 hL2; omega, hcm.fr hf2 (fun s h => by show ¬ (_ = _); omega), ⟨hL2, hL1.2⟩⟩⟩)
theorem kM_L_93 : zMV RL 93 yX5_restore cX5_restore 3 (some .int) 1 5 := ⟨⟨(List.mem_of_getElem? (i := 38) (by decide +kernel)), (List.mem_of_getElem? (i := 910) (by decide +kernel)), by decide +kernel, by decide +kernel, by decide +kernel⟩, (List.mem_of_getElem? (i := 907) (by decide +kernel)), (List.mem_of_getElem? (i := 908) (by decide +kernel)), (List.mem_of_getElem? (i := 909) (by decide +kernel)), ⟨_, rfl, rfl⟩⟩
theorem c_L_restore {E : zE} (hst : E.1.stackTraces = false) {qo : Nat} {u0 : Int64} {H : Heap} {r : zH} {a : Nat → Nat} {n : Int} {tx G : Int → Int} {fi ac : Int} {dd : Nat → Int → Int} {kp ik : Int → Int} {N : Int} {k : Int} (h : zCm E H r a n tx G fi ac dd kp ik) (hOK : cOK n tx G fi ac dd kp ik N) (hzk : zR k) (hLA : zLA E H r 1300 qo u0) : zCH E yL_restore cL_restore 4 (some .int) [(0, 9, 12, 28), (0, 9, 15, 15)] 8 139 [.ref (a 1200), .int (iI k), .ref qo] H 14 6296 (zRi (cRe ik k) (zWo E H r a qo (cRe ik k) (zSum 16 (fun j => kp (4086 * k + j))) n tx (fun j => kp (4086 * k + j)) fi 0 dd kp ik)) := by
  refine zCH.of (by decide) (Nat.le_of_ble_eq_true rfl) hst ?_
  intro x O hE hpo hpx
  subst hE
  have hLA0 := hLA
  have h0 := h
  obtain ⟨_, _, _, _, _, ⟨fO, _⟩, _⟩ := id h
  change zG x H 0 0 0 [(0, .ref (a 1200)), (1, .int (iI k)), (2, .ref qo)] []
  refine z_aload_nh 2 O dL_restore_0 rfl ?_
  refine z_iconsth 0 O dL_restore_1 (by decide +kernel) ?_
  refine z_aload_nh 0 O dL_restore_2 rfl ?_
  refine z_iload_nh 1 O dL_restore_3 rfl ?_
  refine z_invVh (As := [.int (iI k)]) (rest := [.int (iI 0), .ref qo]) (q := a 1200) kM_L_93 O dL_restore_4 (c_X5_restore hst h hOK hzk) rfl fO.1 (by decide) (Nat.le_of_ble_eq_true rfl) (by omega) (by omega) (Nat.le_of_ble_eq_true rfl) (fun X H1 hp hz => ?_) (fun v H1 hp hz => ?_)
  · obtain ⟨⟨hc, rfl⟩ | ⟨hc, rfl⟩ | ⟨hc, rfl⟩, hx⟩ := hp
    · refine ⟨12, (zh_B ⟨by omega, by omega⟩), fun q1 => ?_⟩
      refine z_astore_nh [(3, .ref q1), (0, .ref (a 1200)), (1, .int (iI k)), (2, .ref qo)] O dL_restore_12 (by decide) rfl ?_
      refine z_iconsth 1 O dL_restore_13 (by decide +kernel) ?_
      exact z_ireturnh O dL_restore_14 rfl (by omega) (by omega) (by rw [hpo]; exact ⟨by rw [hc], Or.inr ⟨by rw [hc]; decide, hx⟩⟩)
    · refine ⟨15, ((zh_S ⟨by omega, by omega⟩).beB zn_SB), fun q1 => ?_⟩
      refine z_astore_nh [(3, .ref q1), (0, .ref (a 1200)), (1, .int (iI k)), (2, .ref qo)] O dL_restore_15 (by decide) rfl ?_
      refine z_iconsth 2 O dL_restore_16 (by decide +kernel) ?_
      exact z_ireturnh O dL_restore_17 rfl (by omega) (by omega) (by rw [hpo]; exact ⟨by rw [hc], Or.inr ⟨by rw [hc]; decide, hx⟩⟩)
    · exfalso; revert hc; unfold cRe; (repeat' split) <;> omega
  · obtain ⟨rfl, hc, hcp⟩ := hp
    obtain ⟨r1, a1, ha1, hfr, hgv, hcm⟩ := hcp
    have hL1 := hLA0.fr hfr (by show ¬ (_ < _); omega)
    refine z_i2lRh O dL_restore_7 ?_
    refine z_lasth O dL_restore_8 hL1.1 (fun H2 hL2 hC2 => ?_)
    have hf2 := hL1.ch hC2
    refine z_gotoh 18 O dL_restore_9 (by decide) ?_
    refine z_iconsth 0 O dL_restore_18 (by decide +kernel) ?_
    exact z_ireturnh O dL_restore_19 rfl (by omega) (by omega) (by rw [hpo]; exact ⟨by rw [hc], Or.inl ⟨hc, r1, a1, ha1, ((hfr.up (fun s h => by have : s < 1300 := h; show s ≤ 1300; omega)).tr (hf2.up (fun s h => by have : s = 1300 := h; show s ≤ 1300; omega))), by have := hgv; unfold zGv at *; have := hC2.1; have := zSz_ch hC2 hL1.1 hL2; omega, hcm.fr hf2 (fun s h => by show ¬ (_ = _); omega), ⟨hL2, hL1.2⟩⟩⟩)
