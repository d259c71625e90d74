/-! the law: its start (written by program: wip/whole/gen/class33.py) -/
theorem kN_L_8 : zCN RL 8 5 6 [.null, .null, .null, .null, .null, .null] := ⟨_, _, tyX5, rfl, zu_X5, tyX5_ok, (List.mem_of_getElem? (i := 58) (by decide +kernel)), (List.mem_of_getElem? (i := 59) (by decide +kernel)), (List.mem_of_getElem? (i := 38) (by decide +kernel)), fun j hj => by rcases (show j = 0 ∨ j = 1 ∨ j = 2 ∨ j = 3 ∨ j = 4 ∨ j = 5 by omega) with rfl | rfl | rfl | rfl | rfl | rfl <;> first | rfl | (rw [show defaultValue _ = Value.int 0 from rfl, iI_0]; rfl)⟩
theorem kN_L_97 : zCN RL 97 6 17 [.int (iI 0), .null, .int (iI 0), .int (iI 0), .int (iI 0), .int (iI 0), .null, .null, .null, .null, .null, .null, .null, .int (iI 0), .int (iI 0), .null, .null] := ⟨_, _, tyX6, rfl, zu_X6, tyX6_ok, (List.mem_of_getElem? (i := 912) (by decide +kernel)), (List.mem_of_getElem? (i := 913) (by decide +kernel)), (List.mem_of_getElem? (i := 47) (by decide +kernel)), fun j hj => by rcases (show j = 0 ∨ j = 1 ∨ j = 2 ∨ j = 3 ∨ j = 4 ∨ j = 5 ∨ j = 6 ∨ j = 7 ∨ j = 8 ∨ j = 9 ∨ j = 10 ∨ j = 11 ∨ j = 12 ∨ j = 13 ∨ j = 14 ∨ j = 15 ∨ j = 16 by omega) with rfl | rfl | rfl | rfl | rfl | rfl | rfl | rfl | rfl | rfl | rfl | rfl | rfl | rfl | rfl | rfl | rfl <;> first | rfl | (rw [show defaultValue _ = Value.int 0 from rfl, iI_0]; rfl)⟩
theorem kM_L_96 : zMI RL 96 yX5_init cX5_init 1 0 := ⟨⟨(List.mem_of_getElem? (i := 38) (by decide +kernel)), (List.mem_of_getElem? (i := 62) (by decide +kernel)), by decide +kernel, by decide +kernel, by decide +kernel⟩, Or.inl (List.mem_of_getElem? (i := 60) (by decide +kernel)), (List.mem_of_getElem? (i := 61) (by decide +kernel)), rfl⟩
theorem kM_L_99 : zMI RL 99 yX6_init cX6_init 1 0 := ⟨⟨(List.mem_of_getElem? (i := 47) (by decide +kernel)), (List.mem_of_getElem? (i := 916) (by decide +kernel)), by decide +kernel, by decide +kernel, by decide +kernel⟩, Or.inl (List.mem_of_getElem? (i := 914) (by decide +kernel)), (List.mem_of_getElem? (i := 915) (by decide +kernel)), rfl⟩
theorem law_go {x : zX} {bs Ls : Nat} {xs : Nat → Int32} (hst : (zEn x).1.stackTraces = false) (O : zOk x RL cL_law 7 (some .boolean) "law" 12 478 601024 7293034) (hS : zScr x bs Ls xs) (hL : Ls ≤ 2048) (hpo : zPo x = fun v _ => v = some (.int 1)) : zG x (zH0 x) 0 0 0 [(0, .ref bs)] [] := by
  obtain ⟨r0, hr0⟩ : ∃ z : zH, z = (fun _ => 0, fun _ => 0) := ⟨_, rfl⟩
  obtain ⟨H, hH⟩ : ∃ z : Heap, z = zH0 x := ⟨_, rfl⟩
  rw [← hH]
  refine z_new kN_L_8 O dL_law_0 (by omega) (by omega) (fun H1 hO1 hN1 => ?_)
  obtain ⟨r1, er1⟩ : ∃ z, z = zTag r0 H.size 1200 := ⟨_, rfl⟩
  obtain ⟨q1, eq1⟩ : ∃ z, z = H.size := ⟨_, rfl⟩
  have q1t : r1.1 q1 = 1200 := by rw [er1, eq1]; exact zTag_1
  rw [← eq1]
  have ho1 : zO (zEn x) H1 r1 1200 q1 5 [.null, .null, .null, .null, .null, .null] := ⟨by rw [eq1]; exact hO1, q1t⟩
  refine z_dup O dL_law_3 rfl ?_
  refine z_Ivm [] [.ref q1] kM_L_96 O dL_law_4 (c_X5_init hst (a := fun _ => 0) ho1) rfl rfl (by decide) (Nat.le_of_ble_eq_true rfl) (by omega) (by omega) (Nat.le_of_ble_eq_true rfl) zNx (fun H2 hp2 hz2 => ?_)
  obtain ⟨r2, a2, ha2, hf2, hcm2⟩ := hp2
  refine z_astore_n [(1, .ref q1), (0, .ref bs)] O dL_law_7 (by decide) rfl ?_
  refine z_new kN_L_97 O dL_law_8 (by omega) (by omega) (fun H3 hO3 hN3 => ?_)
  obtain ⟨r3, er3⟩ : ∃ z, z = zTag r2 H2.size 100000 := ⟨_, rfl⟩
  have hf3 : zFr H2 r2 H3 r3 (fun _ => False) := by rw [er3]; exact hN3.fr r2 100000 _
  obtain ⟨q3, eq3⟩ : ∃ z, z = H2.size := ⟨_, rfl⟩
  have q3t : r3.1 q3 = 100000 := by rw [er3, eq3]; exact zTag_1
  rw [← eq3]
  have ho3 : zO (zEn x) H3 r3 100000 q3 6 [.int (iI 0), .null, .int (iI 0), .int (iI 0), .int (iI 0), .int (iI 0), .null, .null, .null, .null, .null, .null, .null, .int (iI 0), .int (iI 0), .null, .null] := ⟨by rw [eq3]; exact hO3, q3t⟩
  have hcm3 := hcm2.fr hf3 (fun _ _ h => h)
  refine z_dup O dL_law_11 rfl ?_
  refine z_Ivm [] [.ref q3] kM_L_99 O dL_law_12 (c_X6_init hst ho3) rfl rfl (by decide) (Nat.le_of_ble_eq_true rfl) (by omega) (by omega) (Nat.le_of_ble_eq_true rfl) zNx (fun H4 hp4 hz4 => ?_)
  obtain ⟨r4, Q, hf4, hM4⟩ := hp4
  have hcm4 := hcm3.fr hf4 (fun s h => by show ¬ (_ ≤ _); omega)
  refine z_astore_n [(2, .ref q3), (1, .ref q1), (0, .ref bs)] O dL_law_15 (by decide) rfl ?_
  refine z_iconst 1 O dL_law_16 (by decide +kernel) ?_
  refine z_newl O dL_law_17 (by omega) (by omega) (fun H5 hl5 hN5 => ?_)
  obtain ⟨r5, er5⟩ : ∃ z, z = zTag r4 H4.size 1300 := ⟨_, rfl⟩
  have hf5 : zFr H4 r4 H5 r5 (fun _ => False) := by rw [er5]; exact hN5.fr r4 1300 _
  obtain ⟨q5, eq5⟩ : ∃ z, z = H4.size := ⟨_, rfl⟩
  have q5t : r5.1 q5 = 1300 := by rw [er5, eq5]; exact zTag_1
  rw [← eq5]
  have hLA5 : zLA (zEn x) H5 r5 1300 q5 0 := ⟨by rw [eq5]; exact hl5, q5t⟩
  have hcm5 := hcm4.fr hf5 (fun _ _ h => h)
  have hM5 := hM4.fr hf5 (fun _ _ h => h)
  refine z_astore_n [(3, .ref q5), (2, .ref q3), (1, .ref q1), (0, .ref bs)] O dL_law_19 (by decide) rfl ?_
  refine z_iconst 0 O dL_law_20 (by decide +kernel) ?_
  refine z_istore [(4, .int (iI 0)), (3, .ref q5), (2, .ref q3), (1, .ref q1), (0, .ref bs)] O dL_law_21 (by decide) rfl ?_
  refine z_locs [0, 4, 3, 2, 1] rfl ?_
  refine z_meter (fun m1 m2 => ?_)
  exact law_loop hst O hS hL hpo 513 0 20 H5 r5 a2 0 (fun _ => 0) sClean 0 0 (fun _ _ => 0) (fun _ => 0) (fun _ => 0) _ _
    ⟨ha2, hcm5, ⟨_, hM5⟩, ⟨_, hLA5⟩, ⟨⟨by omega, by omega⟩, fun j h1 h2 => by omega, sW_clean.up (by omega) (by omega), by omega, ⟨by omega, by omega⟩, ⟨by omega, by omega⟩, fun j h1 h2 => ⟨Int.le_refl _, by show (0 : Int) ≤ 1; omega⟩⟩, fun k h1 h2 => by omega, fun s h1 h2 h3 => absurd h3 (show ¬ (0 : Int) = 1 by decide)⟩
    ⟨by omega, by omega⟩ (by omega) (by omega) (by omega) (by omega)
theorem st_arr {s : State} {args : Array Value} {ty : FieldType} (h : (Cond.arrayClass ty).before args s = true) (hob : ∀ C, ty ≠ .object C) : ∃ c : ClassId, ArrOfT s c ty ∧ va_RA s c ty := by
  obtain ⟨c, k, comp, h1, h2, h3⟩ := Cond.arrayClass_spec h
  refine ⟨c, fun n z => ⟨fun k h => (by cases h), k, h2, comp, h3⟩, ?_⟩
  cases ty <;> first | exact h1 | exact absurd rfl (hob _)
theorem st_ao {s : State} {args : Array Value} {C : String} (h : (Cond.arrayOver (.object C)).before args s = true) : ∃ c : ClassId, ArrOfT s c (.object C) ∧ va_RA s c (.object C) := by
  obtain ⟨comp, c, k, h1, h2, h3, h4, h5⟩ := Cond.arrayOver_spec h
  exact ⟨c, fun n z => ⟨fun k h => (by cases h), k, h3, comp, h4⟩, k, comp, h3, h4, h1, h5⟩
theorem st_zW {s : State} {args : Array Value} (hts : ∀ w ∈ lw_tbl, w.before args s = true) : zW s := by
  intro w hw hg
  have h1 := hts w hw
  cases w
  case fieldLinkNest => exact h1
  case methodLinkNest => exact h1
  case castable => exact h1
  case declares => exact h1
  case arrayOver ty => exact h1
  all_goals exact word_at (State.WarmedH.refl s) (good_of_word hg) h1
theorem st_zStr {s : State} {args : Array Value} (hts : ∀ w ∈ lw_tbl, w.before args s = true) : zStr s := by
  intro own k tx hm
  have h1 := hts _ hm
  have hcur : ∃ cur, s.vm.findClass own = some cur := by
    have h2 := h1
    simp only [Cond.before, Cond.holds, Cond.value] at h2
    cases hc : s.vm.findClass own with
    | none => simp [hc] at h2
    | some cur => exact ⟨cur, rfl⟩
  obtain ⟨cur, hcur⟩ := hcur
  obtain ⟨k9, cf, j, a, hk, -, -, -, hr, hev⟩ := Cond.stringRef_spec hcur h1
  exact ⟨a, vk_R.of h1 hev⟩
theorem st_s0 {s : State} {args : Array Value} (hts : ∀ w ∈ lw_tbl, w.before args s = true) (hs : ∀ c ∈ flatC (Jvm.Cond.and given_1 narrow_1), c.before args s = true) : ∃ k v : Nat, vk_S 1 [1] [[119]] (fun _ => k) (fun _ => v) (fun q => s.heap.size ≤ q) s s.heap ∧ vk_R RX5 301 "w" k s := by
  obtain ⟨adK, adV, hS, hE⟩ := vk_Sof (args := args) (s := s) (N := 1) (tm := fun _ => Term.string "ForgivenWork" 301) (len := [1]) (byt := [[119]]) (A := fun q => s.heap.size ≤ q) (by intro i hi; (obtain rfl : i = 0 := (by omega)); decide)
    (by intro i hi; exact hs _ (by decide +kernel)) (by intro i hi; exact hs _ (by decide +kernel)) (by intro i hi; exact hs _ (by decide +kernel)) (by intro i hi; (obtain rfl : i = 0 := (by omega)); exact hs _ (by decide +kernel))
    (by intro i hi j hj; (obtain rfl : i = 0 := (by omega)); rcases (show j = 0 from (by have h9 : j < 1 := hj; omega)) with rfl <;> exact hs _ (by decide +kernel)) (by intro i j hi hj hij; omega) (fun a ha => Nat.not_le.mpr ha)
  exact ⟨adK 0, adV 0, ⟨fun i hi => by (obtain rfl : i = 0 := (by omega)); exact hS.1 0 (by decide), fun i j hi hj _ => by omega⟩, vk_R.of (hts _ (List.mem_of_getElem? (i := 287) (by decide +kernel))) (hE 0 (by decide))⟩
theorem st_s1 {s : State} {args : Array Value} (hts : ∀ w ∈ lw_tbl, w.before args s = true) (hs : ∀ c ∈ flatC (Jvm.Cond.and given_1 narrow_1), c.before args s = true) : ∃ k v : Nat, vk_S 1 [5] [[119, 67, 99, 68, 100]] (fun _ => k) (fun _ => v) (fun q => s.heap.size ≤ q) s s.heap ∧ vk_R RX5 303 "wCcDd" k s := by
  obtain ⟨adK, adV, hS, hE⟩ := vk_Sof (args := args) (s := s) (N := 1) (tm := fun _ => Term.string "ForgivenWork" 303) (len := [5]) (byt := [[119, 67, 99, 68, 100]]) (A := fun q => s.heap.size ≤ q) (by intro i hi; (obtain rfl : i = 0 := (by omega)); decide)
    (by intro i hi; exact hs _ (by decide +kernel)) (by intro i hi; exact hs _ (by decide +kernel)) (by intro i hi; exact hs _ (by decide +kernel)) (by intro i hi; (obtain rfl : i = 0 := (by omega)); exact hs _ (by decide +kernel))
    (by intro i hi j hj; (obtain rfl : i = 0 := (by omega)); rcases (show j = 0 ∨ j = 1 ∨ j = 2 ∨ j = 3 ∨ j = 4 from (by have h9 : j < 5 := hj; omega)) with rfl | rfl | rfl | rfl | rfl <;> exact hs _ (by decide +kernel)) (by intro i j hi hj hij; omega) (fun a ha => Nat.not_le.mpr ha)
  exact ⟨adK 0, adV 0, ⟨fun i hi => by (obtain rfl : i = 0 := (by omega)); exact hS.1 0 (by decide), fun i j hi hj _ => by omega⟩, vk_R.of (hts _ (List.mem_of_getElem? (i := 288) (by decide +kernel))) (hE 0 (by decide))⟩
theorem st_s2 {s : State} {args : Array Value} (hts : ∀ w ∈ lw_tbl, w.before args s = true) (hs : ∀ c ∈ flatC (Jvm.Cond.and given_1 narrow_1), c.before args s = true) : ∃ k v : Nat, vk_S 1 [5] [[119, 67, 99, 68, 110]] (fun _ => k) (fun _ => v) (fun q => s.heap.size ≤ q) s s.heap ∧ vk_R RX5 305 "wCcDn" k s := by
  obtain ⟨adK, adV, hS, hE⟩ := vk_Sof (args := args) (s := s) (N := 1) (tm := fun _ => Term.string "ForgivenWork" 305) (len := [5]) (byt := [[119, 67, 99, 68, 110]]) (A := fun q => s.heap.size ≤ q) (by intro i hi; (obtain rfl : i = 0 := (by omega)); decide)
    (by intro i hi; exact hs _ (by decide +kernel)) (by intro i hi; exact hs _ (by decide +kernel)) (by intro i hi; exact hs _ (by decide +kernel)) (by intro i hi; (obtain rfl : i = 0 := (by omega)); exact hs _ (by decide +kernel))
    (by intro i hi j hj; (obtain rfl : i = 0 := (by omega)); rcases (show j = 0 ∨ j = 1 ∨ j = 2 ∨ j = 3 ∨ j = 4 from (by have h9 : j < 5 := hj; omega)) with rfl | rfl | rfl | rfl | rfl <;> exact hs _ (by decide +kernel)) (by intro i j hi hj hij; omega) (fun a ha => Nat.not_le.mpr ha)
  exact ⟨adK 0, adV 0, ⟨fun i hi => by (obtain rfl : i = 0 := (by omega)); exact hS.1 0 (by decide), fun i j hi hj _ => by omega⟩, vk_R.of (hts _ (List.mem_of_getElem? (i := 289) (by decide +kernel))) (hE 0 (by decide))⟩
theorem st_s3 {s : State} {args : Array Value} (hts : ∀ w ∈ lw_tbl, w.before args s = true) (hs : ∀ c ∈ flatC (Jvm.Cond.and given_1 narrow_1), c.before args s = true) : ∃ k v : Nat, vk_S 1 [2] [[119, 105]] (fun _ => k) (fun _ => v) (fun q => s.heap.size ≤ q) s s.heap ∧ vk_R RX5 307 "wi" k s := by
  obtain ⟨adK, adV, hS, hE⟩ := vk_Sof (args := args) (s := s) (N := 1) (tm := fun _ => Term.string "ForgivenWork" 307) (len := [2]) (byt := [[119, 105]]) (A := fun q => s.heap.size ≤ q) (by intro i hi; (obtain rfl : i = 0 := (by omega)); decide)
    (by intro i hi; exact hs _ (by decide +kernel)) (by intro i hi; exact hs _ (by decide +kernel)) (by intro i hi; exact hs _ (by decide +kernel)) (by intro i hi; (obtain rfl : i = 0 := (by omega)); exact hs _ (by decide +kernel))
    (by intro i hi j hj; (obtain rfl : i = 0 := (by omega)); rcases (show j = 0 ∨ j = 1 from (by have h9 : j < 2 := hj; omega)) with rfl | rfl <;> exact hs _ (by decide +kernel)) (by intro i j hi hj hij; omega) (fun a ha => Nat.not_le.mpr ha)
  exact ⟨adK 0, adV 0, ⟨fun i hi => by (obtain rfl : i = 0 := (by omega)); exact hS.1 0 (by decide), fun i j hi hj _ => by omega⟩, vk_R.of (hts _ (List.mem_of_getElem? (i := 290) (by decide +kernel))) (hE 0 (by decide))⟩
theorem st_s4 {s : State} {args : Array Value} (hts : ∀ w ∈ lw_tbl, w.before args s = true) (hs : ∀ c ∈ flatC (Jvm.Cond.and given_1 narrow_1), c.before args s = true) : ∃ k v : Nat, vk_S 1 [1] [[109]] (fun _ => k) (fun _ => v) (fun q => s.heap.size ≤ q) s s.heap ∧ vk_R RX5 309 "m" k s := by
  obtain ⟨adK, adV, hS, hE⟩ := vk_Sof (args := args) (s := s) (N := 1) (tm := fun _ => Term.string "ForgivenWork" 309) (len := [1]) (byt := [[109]]) (A := fun q => s.heap.size ≤ q) (by intro i hi; (obtain rfl : i = 0 := (by omega)); decide)
    (by intro i hi; exact hs _ (by decide +kernel)) (by intro i hi; exact hs _ (by decide +kernel)) (by intro i hi; exact hs _ (by decide +kernel)) (by intro i hi; (obtain rfl : i = 0 := (by omega)); exact hs _ (by decide +kernel))
    (by intro i hi j hj; (obtain rfl : i = 0 := (by omega)); rcases (show j = 0 from (by have h9 : j < 1 := hj; omega)) with rfl <;> exact hs _ (by decide +kernel)) (by intro i j hi hj hij; omega) (fun a ha => Nat.not_le.mpr ha)
  exact ⟨adK 0, adV 0, ⟨fun i hi => by (obtain rfl : i = 0 := (by omega)); exact hS.1 0 (by decide), fun i j hi hj _ => by omega⟩, vk_R.of (hts _ (List.mem_of_getElem? (i := 291) (by decide +kernel))) (hE 0 (by decide))⟩
theorem st_s5 {s : State} {args : Array Value} (hts : ∀ w ∈ lw_tbl, w.before args s = true) (hs : ∀ c ∈ flatC (Jvm.Cond.and given_1 narrow_1), c.before args s = true) : ∃ k v : Nat, vk_S 1 [0] [[]] (fun _ => k) (fun _ => v) (fun q => s.heap.size ≤ q) s s.heap ∧ vk_R RX5 311 "" k s := by
  obtain ⟨adK, adV, hS, hE⟩ := vk_Sof (args := args) (s := s) (N := 1) (tm := fun _ => Term.string "ForgivenWork" 311) (len := [0]) (byt := [[]]) (A := fun q => s.heap.size ≤ q) (by intro i hi; (obtain rfl : i = 0 := (by omega)); decide)
    (by intro i hi; exact hs _ (by decide +kernel)) (by intro i hi; exact hs _ (by decide +kernel)) (by intro i hi; exact hs _ (by decide +kernel)) (by intro i hi; (obtain rfl : i = 0 := (by omega)); exact hs _ (by decide +kernel))
    (by intro i hi j hj; (obtain rfl : i = 0 := (by omega)); exact absurd hj (Nat.not_lt_zero j)) (by intro i j hi hj hij; omega) (fun a ha => Nat.not_le.mpr ha)
  exact ⟨adK 0, adV 0, ⟨fun i hi => by (obtain rfl : i = 0 := (by omega)); exact hS.1 0 (by decide), fun i j hi hj _ => by omega⟩, vk_R.of (hts _ (List.mem_of_getElem? (i := 292) (by decide +kernel))) (hE 0 (by decide))⟩
theorem st_kn {s : State} {args : Array Value} (l : Launch) (hts : ∀ w ∈ lw_tbl, w.before args s = true) (hg : (Jvm.Cond.and given_1 narrow_1).before args s = true) : ∃ (D : va_G) (ca : Nat → ClassId), zKn ((l, D, ca, s.heap.size) : zE) s s.heap := by
  have hs := flat_of_before _ hg
  have hA : ∀ a : Nat, a < s.heap.size → ¬ (fun q => s.heap.size ≤ q) a := fun a ha => Nat.not_le.mpr ha
  obtain ⟨c0, i0, k0⟩ := u_known (C := RX0) (T := TX0) (N := 3) (n := 3) hts zu_X0 (hts _ (List.mem_of_getElem? (i := 230) (by decide +kernel)))
  obtain ⟨c1, i1, k1⟩ := u_known (C := RX1) (T := TX1) (N := 3) (n := 3) hts zu_X1 (hts _ (List.mem_of_getElem? (i := 67) (by decide +kernel)))
  obtain ⟨c2, i2, k2⟩ := u_known (C := RX2) (T := TX2) (N := 7) (n := 7) hts zu_X2 (hts _ (List.mem_of_getElem? (i := 90) (by decide +kernel)))
  obtain ⟨c3, i3, k3⟩ := u_known (C := RX3) (T := TX3) (N := 5) (n := 5) hts zu_X3 (hts _ (List.mem_of_getElem? (i := 129) (by decide +kernel)))
  obtain ⟨c4, i4, k4⟩ := u_known (C := RX4) (T := TX4) (N := 9) (n := 9) hts zu_X4 (hts _ (List.mem_of_getElem? (i := 120) (by decide +kernel)))
  obtain ⟨c5, i5, k5⟩ := u_known (C := RX5) (T := TX5) (N := 6) (n := 6) hts zu_X5 (hts _ (List.mem_of_getElem? (i := 59) (by decide +kernel)))
  obtain ⟨c6, i6, k6⟩ := u_known (C := RX6) (T := TX6) (N := 17) (n := 17) hts zu_X6 (hts _ (List.mem_of_getElem? (i := 913) (by decide +kernel)))
  obtain ⟨t0, a0, b0⟩ := st_arr (ty := .int) (hts _ (by decide +kernel)) (fun C h => nomatch h)
  obtain ⟨t1, a1, b1⟩ := st_arr (ty := .boolean) (hts _ (by decide +kernel)) (fun C h => nomatch h)
  obtain ⟨t2, a2, b2⟩ := st_ao (C := RX2) (hts _ (by decide +kernel))
  obtain ⟨t3, a3, b3⟩ := st_ao (C := RX4) (hts _ (by decide +kernel))
  obtain ⟨t4, a4, b4⟩ := st_ao (C := RX3) (hts _ (by decide +kernel))
  obtain ⟨t5, a5, b5⟩ := st_arr (ty := .long) (hts _ (by decide +kernel)) (fun C h => nomatch h)
  obtain ⟨x0, y0, h0, g0⟩ := st_s0 hts hs
  obtain ⟨x1, y1, h1, g1⟩ := st_s1 hts hs
  obtain ⟨x2, y2, h2, g2⟩ := st_s2 hts hs
  obtain ⟨x3, y3, h3, g3⟩ := st_s3 hts hs
  obtain ⟨x4, y4, h4, g4⟩ := st_s4 hts hs
  obtain ⟨x5, y5, h5, g5⟩ := st_s5 hts hs
  refine ⟨(fun k => match k with | 0 => c0 | 1 => c1 | 2 => c2 | 3 => c3 | 4 => c4 | 5 => c5 | _ => c6, fun k => match k with | 0 => i0 | 1 => i1 | 2 => i2 | 3 => i3 | 4 => i4 | 5 => i5 | _ => i6), (fun k => match k with | 0 => t0 | 1 => t1 | 2 => t2 | 3 => t3 | 4 => t4 | 5 => t5 | 100 => x0 | 101 => x1 | 102 => x2 | 103 => x3 | 104 => x4 | 105 => x5 | 200 => y0 | 201 => y1 | 202 => y2 | 203 => y3 | 204 => y4 | 205 => y5 | _ => 0), ⟨?_, ?_⟩, Nat.le_refl _, st_zW hts, st_zStr hts, ?_, ?_, ?_, ?_, ?_, ?_⟩
  · intro c q hq
    rcases (show c = 0 ∨ c = 1 ∨ c = 2 ∨ c = 3 ∨ c = 4 ∨ c = 5 ∨ c = 6 ∨ 7 ≤ c by omega) with rfl | rfl | rfl | rfl | rfl | rfl | rfl | h7
    · have e := Option.some.inj hq; subst e; exact k0
    · have e := Option.some.inj hq; subst e; exact k1
    · have e := Option.some.inj hq; subst e; exact k2
    · have e := Option.some.inj hq; subst e; exact k3
    · have e := Option.some.inj hq; subst e; exact k4
    · have e := Option.some.inj hq; subst e; exact k5
    · have e := Option.some.inj hq; subst e; exact k6
    · rw [List.getElem?_eq_none (by show 7 ≤ c; exact h7)] at hq; cases hq
  · intro c q hq
    rcases (show c = 0 ∨ c = 1 ∨ c = 2 ∨ c = 3 ∨ c = 4 ∨ c = 5 ∨ 6 ≤ c by omega) with rfl | rfl | rfl | rfl | rfl | rfl | h7
    · have e := Option.some.inj hq; subst e; exact ⟨a0, b0⟩
    · have e := Option.some.inj hq; subst e; exact ⟨a1, b1⟩
    · have e := Option.some.inj hq; subst e; exact ⟨a2, b2⟩
    · have e := Option.some.inj hq; subst e; exact ⟨a3, b3⟩
    · have e := Option.some.inj hq; subst e; exact ⟨a4, b4⟩
    · have e := Option.some.inj hq; subst e; exact ⟨a5, b5⟩
    · rw [List.getElem?_eq_none (by show 6 ≤ c; exact h7)] at hq; cases hq
  · exact vx_Zqof (args := args) (hts _ (by decide +kernel)) (hts _ (by decide +kernel)) (hs _ (by decide +kernel)) hA
  · exact vx_Zqof (args := args) (hts _ (by decide +kernel)) (hts _ (by decide +kernel)) (hs _ (by decide +kernel)) hA
  · intro i hi
    rcases (show i = 0 ∨ i = 1 ∨ i = 2 ∨ i = 3 ∨ i = 4 ∨ i = 5 by omega) with rfl | rfl | rfl | rfl | rfl | rfl
    · exact ⟨h0, g0⟩
    · exact ⟨h1, g1⟩
    · exact ⟨h2, g2⟩
    · exact ⟨h3, g3⟩
    · exact ⟨h4, g4⟩
    · exact ⟨h5, g5⟩
  · exact va_Zof (args := args) (hts _ (by decide +kernel)) (hts _ (by decide +kernel)) (va_eqi (hs _ (by decide +kernel))) hA
  · exact va_Zqof (args := args) (hts _ (by decide +kernel)) (hts _ (by decide +kernel)) (hs _ (by decide +kernel)) hA
  · exact ⟨va_Nc.of (hs _ (by decide +kernel)), va_Nc.of (hs _ (by decide +kernel)), va_Nc.of (hs _ (by decide +kernel))⟩
