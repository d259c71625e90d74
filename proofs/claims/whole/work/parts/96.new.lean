/-! the class: its object comes to be (written by program: wip/whole/gen/class23.py) -/
theorem zHy.a2 {E : zE} {H : Heap} {r : zH} {a a1 : Nat → Nat} {nx cn : Int} {fl : Int → Bool} {F : Int → Int → Int} (h : zHy E H r a nx cn fl F) (e : ∀ s : Nat, (128 ≤ s ∧ s < 1024) ∨ s = 1204 ∨ s = 1205 → a1 s = a s) : zHy E H r a1 nx cn fl F := by
  obtain ⟨h1, h2, h3, h4, h5⟩ := h
  refine ⟨by rw [e 1204 (by omega), e 1205 (by omega)]; exact h1, ?_, h3, h4, fun i hi hf => (h5 i hi hf).a (fun s p q => e s (by omega))⟩
  rw [e 1205 (by omega)]
  exact ⟨h2.1.to (fun i i0 i1 => (zOp_n rfl (e _ (by omega))).symm), h2.2⟩
theorem c_X0_init {E : zE} (hst : E.1.stackTraces = false) {H : Heap} {r : zH} {a : Nat → Nat} {q : Nat} (hO : zO E H r 1204 q 0 [.null, .int (iI 0), .int (iI 0)]) (hq : a 1204 = q) : zC E yX0_init cX0_init 1 none 1 20 [.ref q] H 1 14 (zRv (fun H1 => ∃ (r1 : zH) (a1 : Nat → Nat), (∀ s : Nat, s ≠ 1205 → a1 s = a s) ∧ zFr H r H1 r1 (fun s => s = 1204) ∧ zHy E H1 r1 a1 0 0 (fun _ => false) (fun _ => sClean))) zN := by
  refine zC.of (by decide) (Nat.le_of_ble_eq_true rfl) hst ?_
  intro x O hE hpo hpx
  subst hE
  change zG x H 0 0 0 [(0, .ref q)] []
  refine z_aload_n 0 O dX0_init_0 rfl ?_
  refine z_objInit (List.mem_of_getElem? (i := 234) (by decide +kernel)) O dX0_init_1 (by decide) (Nat.le_of_ble_eq_true rfl) ?_
  refine z_aload_n 0 O dX0_init_4 rfl ?_
  refine z_bipush 14 O dX0_init_5 (by decide +kernel) ?_
  refine z_newr (t := 2) (ci := 2) (n := 14) (C := "ForgivenWork$State") (by unfold zTC; decide) ⟨_, rfl, rfl⟩ (List.mem_of_getElem? (i := 235) (by decide +kernel)) O dX0_init_7 ⟨by omega, by omega⟩ (by omega) (by omega) (by omega) (by omega) (by omega) (List.mem_of_getElem? (i := 236) (by decide +kernel)) (fun H1 hA2 hN3 => ?_)
  obtain ⟨r5, er5⟩ : ∃ z, z = zTag r H.size 1205 := ⟨_, rfl⟩
  have hf6 : zFr H r H1 r5 (fun _ => False) := by rw [er5]; exact hN3.fr r 1205 _
  obtain ⟨q4, eq4⟩ : ∃ z, z = H.size := ⟨_, rfl⟩
  have q4t : r5.1 q4 = 1205 := by rw [er5, eq4]; exact zTag_1
  rw [← eq4]
  have hO7 := hO.fr hf6 (by first | exact (fun h => h) | exact zT1 (by omega) | (show ¬ (_ ∨ _); omega) | (show ¬ (_ ∧ _); omega))
  have hq8 : zQr (zEn x) H1 r5 1205 q4 2 14 (fun _ => none) := ⟨by rw [eq4]; exact hA2, q4t⟩
  refine z_putf kP_X0_11 O (fun _ => rfl) dX0_init_10 hO7.1 rfl rfl (Nat.le_of_ble_eq_true rfl) (fun H9 hO10 hC11 => ?_)
  have hf12 := hO7.ch hC11
  have ho13 : zO (zEn x) H9 r5 1204 q 0 [.ref q4, .int (iI 0), .int (iI 0)] := ⟨hO10, hO7.2⟩
  have hq14 := hq8.fr hf12 (by first | exact (fun h => h) | exact zT1 (by omega) | (show ¬ (_ ∨ _); omega) | (show ¬ (_ ∧ _); omega))
  obtain ⟨a1, ha1⟩ : ∃ z, z = (fun s => if s = 1205 then q4 else a s) := ⟨_, rfl⟩
  have h5 : a1 1205 = q4 := by rw [ha1]; exact if_pos rfl
  have hn : ∀ s, s ≠ 1205 → a1 s = a s := fun s hs => by rw [ha1]; exact if_neg hs
  have h4 : a1 1204 = q := (hn 1204 (by omega)).trans hq
  exact z_iretv O dX0_init_13 rfl (by omega) (by omega) hpo (⟨r5, a1, hn, (((hf6.up (fun s h => by first | exact h.elim | omega | (simp at h ⊢; omega)))).tr (hf12.up (fun s h => by first | exact h.elim | omega | (simp at h ⊢; omega)))), (by rw [h4, h5]; exact ho13), (by rw [h5]; exact ⟨hq14.1.to (fun i i0 i1 => (zOp_f Bool.false_ne_true).symm), hq14.2⟩), ⟨by omega, by omega⟩, ⟨by omega, by omega⟩, fun i hi hf => absurd hf Bool.false_ne_true⟩)

theorem c_X5_init {E : zE} (hst : E.1.stackTraces = false) {H : Heap} {r : zH} {a : Nat → Nat} {q : Nat} (hO : zO E H r 1200 q 5 [.null, .null, .null, .null, .null, .null]) : zC E yX5_init cX5_init 1 none 4 112 [.ref q] H 108 906 (zRv (fun H1 => ∃ (r1 : zH) (a1 : Nat → Nat), a1 1200 = q ∧ zFr H r H1 r1 (fun s => s < 1300) ∧ zCm E H1 r1 a1 0 (fun _ => 0) sClean 0 0 (fun _ _ => 0) (fun _ => 0) (fun _ => 0))) zN := by
  refine zC.of (by decide) (Nat.le_of_ble_eq_true rfl) hst ?_
  intro x O hE hpo hpx
  subst hE
  change zG x H 0 0 0 [(0, .ref q)] []
  refine z_aload_n 0 O dX5_init_0 rfl ?_
  refine z_objInit (List.mem_of_getElem? (i := 63) (by decide +kernel)) O dX5_init_1 (by decide) (Nat.le_of_ble_eq_true rfl) ?_
  refine z_aload_n 0 O dX5_init_4 rfl ?_
  refine z_new kN_X5_7 O dX5_init_5 (by omega) (by omega) (fun H1 hO2 hN3 => ?_)
  obtain ⟨r5, er5⟩ : ∃ z, z = zTag r H.size 1202 := ⟨_, rfl⟩
  have hf6 : zFr H r H1 r5 (fun _ => False) := by rw [er5]; exact hN3.fr r 1202 _
  obtain ⟨q4, eq4⟩ : ∃ z, z = H.size := ⟨_, rfl⟩
  have q4t : r5.1 q4 = 1202 := by rw [er5, eq4]; exact zTag_1
  rw [← eq4]
  have hO7 := hO.fr hf6 (by first | exact (fun h => h) | exact zT1 (by omega) | (show ¬ (_ ∨ _); omega) | (show ¬ (_ ∧ _); omega))
  have ho8 : zO (zEn x) H1 r5 1202 q4 1 [.int (iI 0), .null, .int (iI 0)] := ⟨by rw [eq4]; exact hO2, q4t⟩
  refine z_dup O dX5_init_8 rfl ?_
  refine z_bipush 120 O dX5_init_9 (by decide +kernel) ?_
  refine z_bipush 120 O dX5_init_11 (by decide +kernel) ?_
  refine z_Ivm [.int (iI 120), .int (iI 120)] [.ref q4, .ref q] kM_X5_11 O dX5_init_13 (c_X1_init hst (c := 120) (most := 120) ho8 ⟨by omega, by omega⟩ (by omega)) rfl rfl (by decide) (Nat.le_of_ble_eq_true rfl) (by omega) (by omega) (Nat.le_of_ble_eq_true rfl) zNx (fun H9 hp10 hz11 => ?_)
  obtain ⟨r12, hf13, hr14, fcap15⟩ := hp10
  have hO16 := hO7.fr hf13 (by first | exact (fun h => h) | exact zT1 (by omega) | (show ¬ (_ ∨ _); omega) | (show ¬ (_ ∧ _); omega))
  have fcap15 : r12.2 1203 = 120 := fcap15
  refine z_putf kP_X5_14 O (fun _ => rfl) dX5_init_16 hO16.1 rfl rfl (Nat.le_of_ble_eq_true rfl) (fun H17 hO18 hC19 => ?_)
  have hf20 := hO16.ch hC19
  have ho21 : zO (zEn x) H17 r12 1200 q 5 [.ref q4, .null, .null, .null, .null, .null] := ⟨hO18, hO16.2⟩
  have hr22 := hr14.fr hf20 (by first | exact (fun h => h) | exact zT1 (by omega) | (show ¬ (_ ∨ _); omega) | (show ¬ (_ ∧ _); omega)) (by first | exact (fun h => h) | exact zT1 (by omega) | (show ¬ (_ ∨ _); omega) | (show ¬ (_ ∧ _); omega))
  have fcap23 := (hf20.2.2.2 1203 (by first | exact (fun h => h) | exact zT1 (by omega) | (show ¬ (_ ∨ _); omega) | (show ¬ (_ ∧ _); omega))).trans fcap15
  refine z_aload_n 0 O dX5_init_19 rfl ?_
  refine z_new kN_X5_18 O dX5_init_20 (by omega) (by omega) (fun H24 hO25 hN26 => ?_)
  obtain ⟨r28, er28⟩ : ∃ z, z = zTag r12 H17.size 0 := ⟨_, rfl⟩
  have hf29 : zFr H17 r12 H24 r28 (fun _ => False) := by rw [er28]; exact hN26.fr r12 0 _
  obtain ⟨q27, eq27⟩ : ∃ z, z = H17.size := ⟨_, rfl⟩
  have q27t : r28.1 q27 = 0 := by rw [er28, eq27]; exact zTag_1
  rw [← eq27]
  have ho30 := ho21.fr hf29 (by first | exact (fun h => h) | exact zT1 (by omega) | (show ¬ (_ ∨ _); omega) | (show ¬ (_ ∧ _); omega))
  have hr31 := hr22.fr hf29 (by first | exact (fun h => h) | exact zT1 (by omega) | (show ¬ (_ ∨ _); omega) | (show ¬ (_ ∧ _); omega)) (by first | exact (fun h => h) | exact zT1 (by omega) | (show ¬ (_ ∨ _); omega) | (show ¬ (_ ∧ _); omega))
  have fcap32 := (hf29.2.2.2 1203 (by first | exact (fun h => h) | exact zT1 (by omega) | (show ¬ (_ ∨ _); omega) | (show ¬ (_ ∧ _); omega))).trans fcap23
  have ho33 : zO (zEn x) H24 r28 0 q27 2 [.null, .null, .null, .int (iI 0), .int (iI 0), .int (iI 0), .int (iI 0)] := ⟨by rw [eq27]; exact hO25, q27t⟩
  refine z_dup O dX5_init_23 rfl ?_
  obtain ⟨a3, ha3⟩ : ∃ z, z = (fun s => if s = 0 then q27 else a s) := ⟨_, rfl⟩
  have hq3 : a3 0 = q27 := by rw [ha3]; exact if_pos rfl
  refine z_Ivm [] [.ref q27, .ref q] kM_X5_20 O dX5_init_24 (c_X2_init hst (a := a3) ho33 hq3) rfl rfl (by decide) (Nat.le_of_ble_eq_true rfl) (by omega) (by omega) (Nat.le_of_ble_eq_true rfl) zNx (fun H34 hp35 hz36 => ?_)
  obtain ⟨r37, b3, hat3, hf38, hz39⟩ := hp35
  have ho40 := ho30.fr hf38 (by first | exact (fun h => h) | exact zT1 (by omega) | (show ¬ (_ ∨ _); omega) | (show ¬ (_ ∧ _); omega))
  have hr41 := hr31.fr hf38 (by first | exact (fun h => h) | exact zT1 (by omega) | (show ¬ (_ ∨ _); omega) | (show ¬ (_ ∧ _); omega)) (by first | exact (fun h => h) | exact zT1 (by omega) | (show ¬ (_ ∨ _); omega) | (show ¬ (_ ∧ _); omega))
  have fcap42 := (hf38.2.2.2 1203 (by first | exact (fun h => h) | exact zT1 (by omega) | (show ¬ (_ ∨ _); omega) | (show ¬ (_ ∧ _); omega))).trans fcap32
  have hb3 : b3 0 = q27 := (hat3 _ (by omega)).trans hq3
  have k3 : ∀ s, ¬ (0 ≤ s ∧ s < 0 + 64) → b3 s = a s := fun s hs => (hat3 s (by omega)).trans (by rw [ha3]; exact if_neg (by omega))
  refine z_putf kP_X5_21 O (fun _ => rfl) dX5_init_27 ho40.1 rfl rfl (Nat.le_of_ble_eq_true rfl) (fun H43 hO44 hC45 => ?_)
  have hf46 := ho40.ch hC45
  have ho47 : zO (zEn x) H43 r37 1200 q 5 [.ref q4, .ref q27, .null, .null, .null, .null] := ⟨hO44, ho40.2⟩
  have hr48 := hr41.fr hf46 (by first | exact (fun h => h) | exact zT1 (by omega) | (show ¬ (_ ∨ _); omega) | (show ¬ (_ ∧ _); omega)) (by first | exact (fun h => h) | exact zT1 (by omega) | (show ¬ (_ ∨ _); omega) | (show ¬ (_ ∧ _); omega))
  have hz49 := hz39.fr hf46 (fun s h1 h2 => by first | exact (fun h => h) | exact zT1 (by omega) | (show ¬ (_ ∨ _); omega) | (show ¬ (_ ∧ _); omega) | (show ¬ (_ < _); omega))
  have fcap50 := (hf46.2.2.2 1203 (by first | exact (fun h => h) | exact zT1 (by omega) | (show ¬ (_ ∨ _); omega) | (show ¬ (_ ∧ _); omega))).trans fcap42
  refine z_aload_n 0 O dX5_init_30 rfl ?_
  refine z_new kN_X5_18 O dX5_init_31 (by omega) (by omega) (fun H51 hO52 hN53 => ?_)
  obtain ⟨r55, er55⟩ : ∃ z, z = zTag r37 H43.size 64 := ⟨_, rfl⟩
  have hf56 : zFr H43 r37 H51 r55 (fun _ => False) := by rw [er55]; exact hN53.fr r37 64 _
  obtain ⟨q54, eq54⟩ : ∃ z, z = H43.size := ⟨_, rfl⟩
  have q54t : r55.1 q54 = 64 := by rw [er55, eq54]; exact zTag_1
  rw [← eq54]
  have ho57 := ho47.fr hf56 (by first | exact (fun h => h) | exact zT1 (by omega) | (show ¬ (_ ∨ _); omega) | (show ¬ (_ ∧ _); omega))
  have hr58 := hr48.fr hf56 (by first | exact (fun h => h) | exact zT1 (by omega) | (show ¬ (_ ∨ _); omega) | (show ¬ (_ ∧ _); omega)) (by first | exact (fun h => h) | exact zT1 (by omega) | (show ¬ (_ ∨ _); omega) | (show ¬ (_ ∧ _); omega))
  have hz59 := hz49.fr hf56 (fun s h1 h2 => by first | exact (fun h => h) | exact zT1 (by omega) | (show ¬ (_ ∨ _); omega) | (show ¬ (_ ∧ _); omega) | (show ¬ (_ < _); omega))
  have fcap60 := (hf56.2.2.2 1203 (by first | exact (fun h => h) | exact zT1 (by omega) | (show ¬ (_ ∨ _); omega) | (show ¬ (_ ∧ _); omega))).trans fcap50
  have ho61 : zO (zEn x) H51 r55 64 q54 2 [.null, .null, .null, .int (iI 0), .int (iI 0), .int (iI 0), .int (iI 0)] := ⟨by rw [eq54]; exact hO52, q54t⟩
  refine z_dup O dX5_init_34 rfl ?_
  obtain ⟨a4, ha4⟩ : ∃ z, z = (fun s => if s = 64 then q54 else b3 s) := ⟨_, rfl⟩
  have hq4 : a4 64 = q54 := by rw [ha4]; exact if_pos rfl
  refine z_Ivm [] [.ref q54, .ref q] kM_X5_20 O dX5_init_35 (c_X2_init hst (a := a4) ho61 hq4) rfl rfl (by decide) (Nat.le_of_ble_eq_true rfl) (by omega) (by omega) (Nat.le_of_ble_eq_true rfl) zNx (fun H62 hp63 hz64 => ?_)
  obtain ⟨r65, b4, hat4, hf66, hz67⟩ := hp63
  have ho68 := ho57.fr hf66 (by first | exact (fun h => h) | exact zT1 (by omega) | (show ¬ (_ ∨ _); omega) | (show ¬ (_ ∧ _); omega))
  have hr69 := hr58.fr hf66 (by first | exact (fun h => h) | exact zT1 (by omega) | (show ¬ (_ ∨ _); omega) | (show ¬ (_ ∧ _); omega)) (by first | exact (fun h => h) | exact zT1 (by omega) | (show ¬ (_ ∨ _); omega) | (show ¬ (_ ∧ _); omega))
  have hz70 := hz59.fr hf66 (fun s h1 h2 => by first | exact (fun h => h) | exact zT1 (by omega) | (show ¬ (_ ∨ _); omega) | (show ¬ (_ ∧ _); omega) | (show ¬ (_ < _); omega))
  have fcap71 := (hf66.2.2.2 1203 (by first | exact (fun h => h) | exact zT1 (by omega) | (show ¬ (_ ∨ _); omega) | (show ¬ (_ ∧ _); omega))).trans fcap60
  have hb4 : b4 64 = q54 := (hat4 _ (by omega)).trans hq4
  have k4 : ∀ s, ¬ (64 ≤ s ∧ s < 64 + 64) → b4 s = b3 s := fun s hs => (hat4 s (by omega)).trans (by rw [ha4]; exact if_neg (by omega))
  refine z_putf kP_X5_25 O (fun _ => rfl) dX5_init_38 ho68.1 rfl rfl (Nat.le_of_ble_eq_true rfl) (fun H72 hO73 hC74 => ?_)
  have hf75 := ho68.ch hC74
  have ho76 : zO (zEn x) H72 r65 1200 q 5 [.ref q4, .ref q27, .ref q54, .null, .null, .null] := ⟨hO73, ho68.2⟩
  have hr77 := hr69.fr hf75 (by first | exact (fun h => h) | exact zT1 (by omega) | (show ¬ (_ ∨ _); omega) | (show ¬ (_ ∧ _); omega)) (by first | exact (fun h => h) | exact zT1 (by omega) | (show ¬ (_ ∨ _); omega) | (show ¬ (_ ∧ _); omega))
  have hz78 := hz70.fr hf75 (fun s h1 h2 => by first | exact (fun h => h) | exact zT1 (by omega) | (show ¬ (_ ∨ _); omega) | (show ¬ (_ ∧ _); omega) | (show ¬ (_ < _); omega))
  have hz79 := hz67.fr hf75 (fun s h1 h2 => by first | exact (fun h => h) | exact zT1 (by omega) | (show ¬ (_ ∨ _); omega) | (show ¬ (_ ∧ _); omega) | (show ¬ (_ < _); omega))
  have fcap80 := (hf75.2.2.2 1203 (by first | exact (fun h => h) | exact zT1 (by omega) | (show ¬ (_ ∨ _); omega) | (show ¬ (_ ∧ _); omega))).trans fcap71
  refine z_aload_n 0 O dX5_init_41 rfl ?_
  refine z_new kN_X5_28 O dX5_init_42 (by omega) (by omega) (fun H81 hO82 hN83 => ?_)
  obtain ⟨r85, er85⟩ : ∃ z, z = zTag r65 H72.size 1204 := ⟨_, rfl⟩
  have hf86 : zFr H72 r65 H81 r85 (fun _ => False) := by rw [er85]; exact hN83.fr r65 1204 _
  obtain ⟨q84, eq84⟩ : ∃ z, z = H72.size := ⟨_, rfl⟩
  have q84t : r85.1 q84 = 1204 := by rw [er85, eq84]; exact zTag_1
  rw [← eq84]
  have ho87 := ho76.fr hf86 (by first | exact (fun h => h) | exact zT1 (by omega) | (show ¬ (_ ∨ _); omega) | (show ¬ (_ ∧ _); omega))
  have hr88 := hr77.fr hf86 (by first | exact (fun h => h) | exact zT1 (by omega) | (show ¬ (_ ∨ _); omega) | (show ¬ (_ ∧ _); omega)) (by first | exact (fun h => h) | exact zT1 (by omega) | (show ¬ (_ ∨ _); omega) | (show ¬ (_ ∧ _); omega))
  have hz89 := hz78.fr hf86 (fun s h1 h2 => by first | exact (fun h => h) | exact zT1 (by omega) | (show ¬ (_ ∨ _); omega) | (show ¬ (_ ∧ _); omega) | (show ¬ (_ < _); omega))
  have hz90 := hz79.fr hf86 (fun s h1 h2 => by first | exact (fun h => h) | exact zT1 (by omega) | (show ¬ (_ ∨ _); omega) | (show ¬ (_ ∧ _); omega) | (show ¬ (_ < _); omega))
  have fcap91 := (hf86.2.2.2 1203 (by first | exact (fun h => h) | exact zT1 (by omega) | (show ¬ (_ ∨ _); omega) | (show ¬ (_ ∧ _); omega))).trans fcap80
  have ho92 : zO (zEn x) H81 r85 1204 q84 0 [.null, .int (iI 0), .int (iI 0)] := ⟨by rw [eq84]; exact hO82, q84t⟩
  refine z_dup O dX5_init_45 rfl ?_
  obtain ⟨a6, ha6⟩ : ∃ z, z = (fun s => if s = 1204 then q84 else b4 s) := ⟨_, rfl⟩
  have hq6 : a6 1204 = q84 := by rw [ha6]; exact if_pos rfl
  refine z_Ivm [] [.ref q84, .ref q] kM_X5_30 O dX5_init_46 (c_X0_init hst (a := a6) ho92 hq6) rfl rfl (by decide) (Nat.le_of_ble_eq_true rfl) (by omega) (by omega) (Nat.le_of_ble_eq_true rfl) zNx (fun H93 hp94 hz95 => ?_)
  obtain ⟨r96, b6, hat6, hf97, hz98⟩ := hp94
  have ho99 := ho87.fr hf97 (by first | exact (fun h => h) | exact zT1 (by omega) | (show ¬ (_ ∨ _); omega) | (show ¬ (_ ∧ _); omega))
  have hr100 := hr88.fr hf97 (by first | exact (fun h => h) | exact zT1 (by omega) | (show ¬ (_ ∨ _); omega) | (show ¬ (_ ∧ _); omega)) (by first | exact (fun h => h) | exact zT1 (by omega) | (show ¬ (_ ∨ _); omega) | (show ¬ (_ ∧ _); omega))
  have hz101 := hz89.fr hf97 (fun s h1 h2 => by first | exact (fun h => h) | exact zT1 (by omega) | (show ¬ (_ ∨ _); omega) | (show ¬ (_ ∧ _); omega) | (show ¬ (_ < _); omega))
  have hz102 := hz90.fr hf97 (fun s h1 h2 => by first | exact (fun h => h) | exact zT1 (by omega) | (show ¬ (_ ∨ _); omega) | (show ¬ (_ ∧ _); omega) | (show ¬ (_ < _); omega))
  have fcap103 := (hf97.2.2.2 1203 (by first | exact (fun h => h) | exact zT1 (by omega) | (show ¬ (_ ∨ _); omega) | (show ¬ (_ ∧ _); omega))).trans fcap91
  have hb6 : b6 1204 = q84 := (hat6 _ (by omega)).trans hq6
  have k6 : ∀ s, s ≠ 1204 → s ≠ 1205 → b6 s = b4 s := fun s h1 h2 => (hat6 s h2).trans (by rw [ha6]; exact if_neg h1)
  refine z_putf kP_X5_31 O (fun _ => rfl) dX5_init_49 ho99.1 rfl rfl (Nat.le_of_ble_eq_true rfl) (fun H104 hO105 hC106 => ?_)
  have hf107 := ho99.ch hC106
  have ho108 : zO (zEn x) H104 r96 1200 q 5 [.ref q4, .ref q27, .ref q54, .ref q84, .null, .null] := ⟨hO105, ho99.2⟩
  have hr109 := hr100.fr hf107 (by first | exact (fun h => h) | exact zT1 (by omega) | (show ¬ (_ ∨ _); omega) | (show ¬ (_ ∧ _); omega)) (by first | exact (fun h => h) | exact zT1 (by omega) | (show ¬ (_ ∨ _); omega) | (show ¬ (_ ∧ _); omega))
  have hz110 := hz101.fr hf107 (fun s h1 h2 => by first | exact (fun h => h) | exact zT1 (by omega) | (show ¬ (_ ∨ _); omega) | (show ¬ (_ ∧ _); omega) | (show ¬ (_ < _); omega))
  have hz111 := hz102.fr hf107 (fun s h1 h2 => by first | exact (fun h => h) | exact zT1 (by omega) | (show ¬ (_ ∨ _); omega) | (show ¬ (_ ∧ _); omega) | (show ¬ (_ < _); omega))
  have hz112 := hz98.fr hf107 (fun s h1 => by first | exact (fun h => h) | exact zT1 (by omega) | (show ¬ (_ ∨ _); omega) | (show ¬ (_ ∧ _); omega) | (show ¬ (_ < _); omega))
  have fcap113 := (hf107.2.2.2 1203 (by first | exact (fun h => h) | exact zT1 (by omega) | (show ¬ (_ ∨ _); omega) | (show ¬ (_ ∧ _); omega))).trans fcap103
  refine z_aload_n 0 O dX5_init_52 rfl ?_
  refine z_iconst 2 O dX5_init_53 (by decide +kernel) ?_
  refine z_newr (t := 2) (ci := 2) (n := 2) (C := "ForgivenWork$State") (by unfold zTC; decide) ⟨_, rfl, rfl⟩ (List.mem_of_getElem? (i := 89) (by decide +kernel)) O dX5_init_54 ⟨by omega, by omega⟩ (by omega) (by omega) (by omega) (by omega) (by omega) (List.mem_of_getElem? (i := 236) (by decide +kernel)) (fun H114 hA115 hN116 => ?_)
  obtain ⟨r118, er118⟩ : ∃ z, z = zTag r96 H104.size 1206 := ⟨_, rfl⟩
  have hf119 : zFr H104 r96 H114 r118 (fun _ => False) := by rw [er118]; exact hN116.fr r96 1206 _
  obtain ⟨q117, eq117⟩ : ∃ z, z = H104.size := ⟨_, rfl⟩
  have q117t : r118.1 q117 = 1206 := by rw [er118, eq117]; exact zTag_1
  rw [← eq117]
  have ho120 := ho108.fr hf119 (by first | exact (fun h => h) | exact zT1 (by omega) | (show ¬ (_ ∨ _); omega) | (show ¬ (_ ∧ _); omega))
  have hr121 := hr109.fr hf119 (by first | exact (fun h => h) | exact zT1 (by omega) | (show ¬ (_ ∨ _); omega) | (show ¬ (_ ∧ _); omega)) (by first | exact (fun h => h) | exact zT1 (by omega) | (show ¬ (_ ∨ _); omega) | (show ¬ (_ ∧ _); omega))
  have hz122 := hz110.fr hf119 (fun s h1 h2 => by first | exact (fun h => h) | exact zT1 (by omega) | (show ¬ (_ ∨ _); omega) | (show ¬ (_ ∧ _); omega) | (show ¬ (_ < _); omega))
  have hz123 := hz111.fr hf119 (fun s h1 h2 => by first | exact (fun h => h) | exact zT1 (by omega) | (show ¬ (_ ∨ _); omega) | (show ¬ (_ ∧ _); omega) | (show ¬ (_ < _); omega))
  have hz124 := hz112.fr hf119 (fun s h1 => by first | exact (fun h => h) | exact zT1 (by omega) | (show ¬ (_ ∨ _); omega) | (show ¬ (_ ∧ _); omega) | (show ¬ (_ < _); omega))
  have fcap125 := (hf119.2.2.2 1203 (by first | exact (fun h => h) | exact zT1 (by omega) | (show ¬ (_ ∨ _); omega) | (show ¬ (_ ∧ _); omega))).trans fcap113
  have hq126 : zQr (zEn x) H114 r118 1206 q117 2 2 (fun _ => none) := ⟨by rw [eq117]; exact hA115, q117t⟩
  refine z_putf kP_X5_35 O (fun _ => rfl) dX5_init_57 ho120.1 rfl rfl (Nat.le_of_ble_eq_true rfl) (fun H127 hO128 hC129 => ?_)
  have hf130 := ho120.ch hC129
  have ho131 : zO (zEn x) H127 r118 1200 q 5 [.ref q4, .ref q27, .ref q54, .ref q84, .ref q117, .null] := ⟨hO128, ho120.2⟩
  have hr132 := hr121.fr hf130 (by first | exact (fun h => h) | exact zT1 (by omega) | (show ¬ (_ ∨ _); omega) | (show ¬ (_ ∧ _); omega)) (by first | exact (fun h => h) | exact zT1 (by omega) | (show ¬ (_ ∨ _); omega) | (show ¬ (_ ∧ _); omega))
  have hz133 := hz122.fr hf130 (fun s h1 h2 => by first | exact (fun h => h) | exact zT1 (by omega) | (show ¬ (_ ∨ _); omega) | (show ¬ (_ ∧ _); omega) | (show ¬ (_ < _); omega))
  have hz134 := hz123.fr hf130 (fun s h1 h2 => by first | exact (fun h => h) | exact zT1 (by omega) | (show ¬ (_ ∨ _); omega) | (show ¬ (_ ∧ _); omega) | (show ¬ (_ < _); omega))
  have hz135 := hz124.fr hf130 (fun s h1 => by first | exact (fun h => h) | exact zT1 (by omega) | (show ¬ (_ ∨ _); omega) | (show ¬ (_ ∧ _); omega) | (show ¬ (_ < _); omega))
  have hq136 := hq126.fr hf130 (by first | exact (fun h => h) | exact zT1 (by omega) | (show ¬ (_ ∨ _); omega) | (show ¬ (_ ∧ _); omega))
  have fcap137 := (hf130.2.2.2 1203 (by first | exact (fun h => h) | exact zT1 (by omega) | (show ¬ (_ ∨ _); omega) | (show ¬ (_ ∧ _); omega))).trans fcap125
  refine z_aload_n 0 O dX5_init_60 rfl ?_
  refine z_iconst 2 O dX5_init_61 (by decide +kernel) ?_
  refine z_newz (n := 2) O dX5_init_62 ⟨by omega, by omega⟩ (by omega) (by omega) (by omega) (by omega) (by omega) (fun H138 hA139 hN140 => ?_)
  obtain ⟨r142, er142⟩ : ∃ z, z = zTag r118 H127.size 1207 := ⟨_, rfl⟩
  have hf143 : zFr H127 r118 H138 r142 (fun _ => False) := by rw [er142]; exact hN140.fr r118 1207 _
  obtain ⟨q141, eq141⟩ : ∃ z, z = H127.size := ⟨_, rfl⟩
  have q141t : r142.1 q141 = 1207 := by rw [er142, eq141]; exact zTag_1
  rw [← eq141]
  have ho144 := ho131.fr hf143 (by first | exact (fun h => h) | exact zT1 (by omega) | (show ¬ (_ ∨ _); omega) | (show ¬ (_ ∧ _); omega))
  have hr145 := hr132.fr hf143 (by first | exact (fun h => h) | exact zT1 (by omega) | (show ¬ (_ ∨ _); omega) | (show ¬ (_ ∧ _); omega)) (by first | exact (fun h => h) | exact zT1 (by omega) | (show ¬ (_ ∨ _); omega) | (show ¬ (_ ∧ _); omega))
  have hz146 := hz133.fr hf143 (fun s h1 h2 => by first | exact (fun h => h) | exact zT1 (by omega) | (show ¬ (_ ∨ _); omega) | (show ¬ (_ ∧ _); omega) | (show ¬ (_ < _); omega))
  have hz147 := hz134.fr hf143 (fun s h1 h2 => by first | exact (fun h => h) | exact zT1 (by omega) | (show ¬ (_ ∨ _); omega) | (show ¬ (_ ∧ _); omega) | (show ¬ (_ < _); omega))
  have hz148 := hz135.fr hf143 (fun s h1 => by first | exact (fun h => h) | exact zT1 (by omega) | (show ¬ (_ ∨ _); omega) | (show ¬ (_ ∧ _); omega) | (show ¬ (_ < _); omega))
  have hq149 := hq136.fr hf143 (by first | exact (fun h => h) | exact zT1 (by omega) | (show ¬ (_ ∨ _); omega) | (show ¬ (_ ∧ _); omega))
  have fcap150 := (hf143.2.2.2 1203 (by first | exact (fun h => h) | exact zT1 (by omega) | (show ¬ (_ ∨ _); omega) | (show ¬ (_ ∧ _); omega))).trans fcap137
  have ha151 : zZ (zEn x) H138 r142 1207 q141 2 (fun _ => 0) := ⟨by rw [eq141]; exact hA139, q141t⟩
  refine z_putf kP_X5_39 O (fun _ => rfl) dX5_init_64 ho144.1 rfl rfl (Nat.le_of_ble_eq_true rfl) (fun H152 hO153 hC154 => ?_)
  have hf155 := ho144.ch hC154
  have ho156 : zO (zEn x) H152 r142 1200 q 5 [.ref q4, .ref q27, .ref q54, .ref q84, .ref q117, .ref q141] := ⟨hO153, ho144.2⟩
  have hr157 := hr145.fr hf155 (by first | exact (fun h => h) | exact zT1 (by omega) | (show ¬ (_ ∨ _); omega) | (show ¬ (_ ∧ _); omega)) (by first | exact (fun h => h) | exact zT1 (by omega) | (show ¬ (_ ∨ _); omega) | (show ¬ (_ ∧ _); omega))
  have hz158 := hz146.fr hf155 (fun s h1 h2 => by first | exact (fun h => h) | exact zT1 (by omega) | (show ¬ (_ ∨ _); omega) | (show ¬ (_ ∧ _); omega) | (show ¬ (_ < _); omega))
  have hz159 := hz147.fr hf155 (fun s h1 h2 => by first | exact (fun h => h) | exact zT1 (by omega) | (show ¬ (_ ∨ _); omega) | (show ¬ (_ ∧ _); omega) | (show ¬ (_ < _); omega))
  have hz160 := hz148.fr hf155 (fun s h1 => by first | exact (fun h => h) | exact zT1 (by omega) | (show ¬ (_ ∨ _); omega) | (show ¬ (_ ∧ _); omega) | (show ¬ (_ < _); omega))
  have hq161 := hq149.fr hf155 (by first | exact (fun h => h) | exact zT1 (by omega) | (show ¬ (_ ∨ _); omega) | (show ¬ (_ ∧ _); omega))
  have ha162 := ha151.fr hf155 (by first | exact (fun h => h) | exact zT1 (by omega) | (show ¬ (_ ∨ _); omega) | (show ¬ (_ ∧ _); omega))
  have fcap163 := (hf155.2.2.2 1203 (by first | exact (fun h => h) | exact zT1 (by omega) | (show ¬ (_ ∨ _); omega) | (show ¬ (_ ∧ _); omega))).trans fcap150
  obtain ⟨A, hA⟩ : ∃ z, z = (fun s => if s = 1206 then q117 else if s = 1207 then q141 else if s = 1202 then q4 else if s = 1200 then q else b6 s) := ⟨_, rfl⟩
  have hA6 : ∀ s, ¬ (s = 1200 ∨ s = 1202 ∨ s = 1206 ∨ s = 1207) → A s = b6 s := fun s hs => by rw [hA]; dsimp only; rw [if_neg (by omega), if_neg (by omega), if_neg (by omega), if_neg (by omega)]
  have e1200 : A 1200 = q := by rw [hA]; rfl
  have e1202 : A 1202 = q4 := by rw [hA]; rfl
  have e1206 : A 1206 = q117 := by rw [hA]; rfl
  have e1207 : A 1207 = q141 := by rw [hA]; rfl
  have e0 : A 0 = q27 := (hA6 0 (by omega)).trans ((k6 0 (by omega) (by omega)).trans ((k4 0 (by omega)).trans hb3))
  have e64 : A 64 = q54 := (hA6 64 (by omega)).trans ((k6 64 (by omega) (by omega)).trans hb4)
  have e1204 : A 1204 = q84 := (hA6 1204 (by omega)).trans hb6
  exact z_iretv O dX5_init_67 rfl (by omega) (by omega) hpo (⟨r142, A, e1200, (((((((((((((((((((((((((((((((hf6.up (fun s h => by first | exact h.elim | (show _ < _; omega) | omega | (simp at h ⊢; omega)))).tr (hf13.up (fun s h => by first | exact h.elim | (show _ < _; omega) | omega | (simp at h ⊢; omega))))).tr (hf20.up (fun s h => by first | exact h.elim | (show _ < _; omega) | omega | (simp at h ⊢; omega))))).tr (hf29.up (fun s h => by first | exact h.elim | (show _ < _; omega) | omega | (simp at h ⊢; omega))))).tr (hf38.up (fun s h => by first | exact h.elim | (show _ < _; omega) | omega | (simp at h ⊢; omega))))).tr (hf46.up (fun s h => by first | exact h.elim | (show _ < _; omega) | omega | (simp at h ⊢; omega))))).tr (hf56.up (fun s h => by first | exact h.elim | (show _ < _; omega) | omega | (simp at h ⊢; omega))))).tr (hf66.up (fun s h => by first | exact h.elim | (show _ < _; omega) | omega | (simp at h ⊢; omega))))).tr (hf75.up (fun s h => by first | exact h.elim | (show _ < _; omega) | omega | (simp at h ⊢; omega))))).tr (hf86.up (fun s h => by first | exact h.elim | (show _ < _; omega) | omega | (simp at h ⊢; omega))))).tr (hf97.up (fun s h => by first | exact h.elim | (show _ < _; omega) | omega | (simp at h ⊢; omega))))).tr (hf107.up (fun s h => by first | exact h.elim | (show _ < _; omega) | omega | (simp at h ⊢; omega))))).tr (hf119.up (fun s h => by first | exact h.elim | (show _ < _; omega) | omega | (simp at h ⊢; omega))))).tr (hf130.up (fun s h => by first | exact h.elim | (show _ < _; omega) | omega | (simp at h ⊢; omega))))).tr (hf143.up (fun s h => by first | exact h.elim | (show _ < _; omega) | omega | (simp at h ⊢; omega))))).tr (hf155.up (fun s h => by first | exact h.elim | (show _ < _; omega) | omega | (simp at h ⊢; omega)))), 0, (fun _ => false), (fun _ => sClean), (fun _ => false), (fun _ => sClean), ⟨by rw [e1200, e1202, e0, e64, e1204, e1206, e1207]; exact ho156, by rw [e1202]; exact hr157, fcap163, hz158.a (fun s p1 p2 => (hA6 s (by omega)).trans ((k6 s (by omega) (by omega)).trans (k4 s (by omega)))), ⟨sClean, hz159.a (fun s p1 p2 => (hA6 s (by omega)).trans (k6 s (by omega) (by omega)))⟩, hz160.a2 (fun s hs => hA6 s (by omega)), by rw [e1206]; exact ⟨hq161.1.to (fun i i0 i1 => (zOp_f Bool.false_ne_true).symm), hq161.2⟩, (fun i hi hf => absurd hf Bool.false_ne_true), by rw [e1207]; exact ha162⟩, hRel.no, fun s h1 h2 h3 => absurd h3 (show ¬ (0 : Int) = 1 by decide)⟩)

