/-! the class: a worker is made (written by program: wip/whole/gen/class3.py) -/
theorem c_X3_init {E : zE} (hst : E.1.stackTraces = false) {H : Heap} {q : Nat}  : zC E yX3_init cX3_init 1 none 1 20 [.ref q] H 0 0 (zRv (zSm H)) zN := by
  refine zC.of (by decide) (Nat.le_of_ble_eq_true rfl) hst ?_
  intro x O hE hpo hpx
  subst hE
  change zG x H 0 0 0 [(0, .ref q)] []
  refine z_aload_n 0 O dX3_init_0 rfl ?_
  refine z_objInit (List.mem_of_getElem? (i := 133) (by decide +kernel)) O dX3_init_1 (by decide) (Nat.le_of_ble_eq_true rfl) ?_
  exact z_iretv O dX3_init_4 rfl (by omega) (by omega) hpo (rfl)

theorem sClean_z {w k : Int} (h : 0 ≤ w) (q : 0 ≤ k) : sClean (at_ w k) = 0 := if_neg (by rw [at_e]; omega)
theorem zQr.to9 {E : zE} {H : Heap} {r : zH} {t q k n : Nat} {b : Nat → Nat} {v : Nat} (i : Nat) (h : zQr E H r t q k n (zUr (fun j => if j < (i : Int) then some (b j.toNat) else none) (i : Int) (some v))) : zQr E H r t q k n (fun j => if j < ((i + 1 : Nat) : Int) then some ((fun j => if j = i then v else b j) j.toNat) else none) := by
  refine ⟨h.1.to (fun j h0 h1 => ?_), h.2⟩
  unfold zUr
  by_cases z : j = (i : Int)
  · rw [if_pos z, if_pos (by omega)]
    show some v = some (if j.toNat = i then v else b j.toNat)
    rw [if_pos (by omega)]
  · rw [if_neg z]
    show (if j < (i : Int) then some (b j.toNat) else none) = _
    by_cases y : j < (i : Int)
    · rw [if_pos y, if_pos (by omega)]
      show some (b j.toNat) = some (if j.toNat = i then v else b j.toNat)
      rw [if_neg (by omega)]
    · rw [if_neg y, if_neg (by omega)]
theorem c_X4_init {E : zE} (hst : E.1.stackTraces = false) {H : Heap} {r : zH} {a : Nat → Nat} {t q : Nat} {w : Int} (hO : zO E H r t q 4 [.int (iI 0), .null, .null, .null, .null, .null, .int (iI 0), .int (iI 0), .int (iI 0)]) (hq : a t = q) (hw : 0 ≤ w ∧ w ≤ 2) : zC E yX4_init cX4_init 3 none 2 43 [.ref q, .int (iI w)] H 14 102 (zRv (fun H1 => ∃ (r1 : zH) (a1 : Nat → Nat), (∀ s : Nat, ¬ (t < s ∧ s < t + 16) → a1 s = a s) ∧ zFr H r H1 r1 (fun s => t ≤ s ∧ s < t + 16) ∧ zWkr E H1 r1 a1 t w sClean)) zN := by
  refine zC.of (by decide) (Nat.le_of_ble_eq_true rfl) hst ?_
  intro x O hE hpo hpx
  subst hE
  change zG x H 0 0 0 [(0, .ref q), (1, .int (iI w))] []
  refine z_aload_n 0 O dX4_init_0 rfl ?_
  refine z_objInit (List.mem_of_getElem? (i := 124) (by decide +kernel)) O dX4_init_1 (by decide) (Nat.le_of_ble_eq_true rfl) ?_
  refine z_aload_n 0 O dX4_init_4 rfl ?_
  refine z_iconst 5 O dX4_init_5 (by decide +kernel) ?_
  refine z_newr (t := 4) (ci := 3) (n := 5) (C := "ForgivenWork$Work") (by unfold zTC; decide) ⟨_, rfl, rfl⟩ (List.mem_of_getElem? (i := 125) (by decide +kernel)) O dX4_init_6 ⟨by omega, by omega⟩ (by omega) (by omega) (by omega) (by omega) (by omega) (List.mem_of_getElem? (i := 126) (by decide +kernel)) (fun H1 hA2 hN3 => ?_)
  obtain ⟨r5, er5⟩ : ∃ z, z = zTag r H.size (t + 1) := ⟨_, rfl⟩
  have hf6 : zFr H r H1 r5 (fun _ => False) := by rw [er5]; exact hN3.fr r (t + 1) _
  obtain ⟨q4, eq4⟩ : ∃ z, z = H.size := ⟨_, rfl⟩
  have q4t : r5.1 q4 = t + 1 := by rw [er5, eq4]; exact zTag_1
  rw [← eq4]
  have hO7 := hO.fr hf6 (by first | exact (fun h => h) | exact zT1 (by omega) | (show ¬ (_ ∨ _); omega) | (show ¬ (_ ∧ _); omega))
  have hq8 : zQr (zEn x) H1 r5 (t + 1) q4 4 5 (fun _ => none) := ⟨by rw [eq4]; exact hA2, q4t⟩
  refine z_putf kP_X4_11 O (fun _ => rfl) dX4_init_9 hO7.1 rfl rfl (Nat.le_of_ble_eq_true rfl) (fun H9 hO10 hC11 => ?_)
  have hf12 := hO7.ch hC11
  have ho13 : zO (zEn x) H9 r5 t q 4 [.int (iI 0), .ref q4, .null, .null, .null, .null, .int (iI 0), .int (iI 0), .int (iI 0)] := ⟨hO10, hO7.2⟩
  have hq14 := hq8.fr hf12 (by first | exact (fun h => h) | exact zT1 (by omega) | (show ¬ (_ ∨ _); omega) | (show ¬ (_ ∧ _); omega))
  refine z_aload_n 0 O dX4_init_12 rfl ?_
  refine z_new kN_X4_17 O dX4_init_13 (by omega) (by omega) (fun H15 hO16 hN17 => ?_)
  obtain ⟨r19, er19⟩ : ∃ z, z = zTag r5 H9.size (t + 2) := ⟨_, rfl⟩
  have hf20 : zFr H9 r5 H15 r19 (fun _ => False) := by rw [er19]; exact hN17.fr r5 (t + 2) _
  obtain ⟨q18, eq18⟩ : ∃ z, z = H9.size := ⟨_, rfl⟩
  have q18t : r19.1 q18 = t + 2 := by rw [er19, eq18]; exact zTag_1
  rw [← eq18]
  have ho21 := ho13.fr hf20 (by first | exact (fun h => h) | exact zT1 (by omega) | (show ¬ (_ ∨ _); omega) | (show ¬ (_ ∧ _); omega))
  have hq22 := hq14.fr hf20 (by first | exact (fun h => h) | exact zT1 (by omega) | (show ¬ (_ ∨ _); omega) | (show ¬ (_ ∧ _); omega))
  have ho23 : zO (zEn x) H15 r19 (t + 2) q18 1 [.int (iI 0), .null, .int (iI 0)] := ⟨by rw [eq18]; exact hO16, q18t⟩
  refine z_dup O dX4_init_16 rfl ?_
  refine z_bipush 40 O dX4_init_17 (by decide +kernel) ?_
  refine z_sipush 1024 O dX4_init_19 (by decide +kernel) ?_
  refine z_Ivm [.int (iI ((40 : Nat) : Int)), .int (iI ((1024 : Nat) : Int))] [.ref q18, .ref q] kM_X4_19 O dX4_init_22 (c_X1_init hst ho23 (c := 40) (most := 1024) ⟨by decide, by decide⟩ (by decide)) rfl rfl (by decide) (Nat.le_of_ble_eq_true rfl) (by omega) (by omega) (Nat.le_of_ble_eq_true rfl) zNx (fun H24 hp25 hz26 => ?_)
  obtain ⟨r27, hf28, hr29, hk30⟩ := hp25
  have ho31 := ho21.fr hf28 (by first | exact (fun h => h) | exact zT1 (by omega) | (show ¬ (_ ∨ _); omega) | (show ¬ (_ ∧ _); omega))
  have hq32 := hq22.fr hf28 (by first | exact (fun h => h) | exact zT1 (by omega) | (show ¬ (_ ∨ _); omega) | (show ¬ (_ ∧ _); omega))
  refine z_putf kP_X4_22 O (fun _ => rfl) dX4_init_25 ho31.1 rfl rfl (Nat.le_of_ble_eq_true rfl) (fun H33 hO34 hC35 => ?_)
  have hf36 := ho31.ch hC35
  have ho37 : zO (zEn x) H33 r27 t q 4 [.int (iI 0), .ref q4, .ref q18, .null, .null, .null, .int (iI 0), .int (iI 0), .int (iI 0)] := ⟨hO34, ho31.2⟩
  have hq38 := hq32.fr hf36 (by first | exact (fun h => h) | exact zT1 (by omega) | (show ¬ (_ ∨ _); omega) | (show ¬ (_ ∧ _); omega))
  have hr39 := hr29.fr hf36 (by first | exact (fun h => h) | exact zT1 (by omega) | (show ¬ (_ ∨ _); omega) | (show ¬ (_ ∧ _); omega)) (by first | exact (fun h => h) | exact zT1 (by omega) | (show ¬ (_ ∨ _); omega) | (show ¬ (_ ∧ _); omega))
  refine z_aload_n 0 O dX4_init_28 rfl ?_
  refine z_new kN_X4_17 O dX4_init_29 (by omega) (by omega) (fun H40 hO41 hN42 => ?_)
  obtain ⟨r44, er44⟩ : ∃ z, z = zTag r27 H33.size (t + 4) := ⟨_, rfl⟩
  have hf45 : zFr H33 r27 H40 r44 (fun _ => False) := by rw [er44]; exact hN42.fr r27 (t + 4) _
  obtain ⟨q43, eq43⟩ : ∃ z, z = H33.size := ⟨_, rfl⟩
  have q43t : r44.1 q43 = t + 4 := by rw [er44, eq43]; exact zTag_1
  rw [← eq43]
  have ho46 := ho37.fr hf45 (by first | exact (fun h => h) | exact zT1 (by omega) | (show ¬ (_ ∨ _); omega) | (show ¬ (_ ∧ _); omega))
  have hq47 := hq38.fr hf45 (by first | exact (fun h => h) | exact zT1 (by omega) | (show ¬ (_ ∨ _); omega) | (show ¬ (_ ∧ _); omega))
  have hr48 := hr39.fr hf45 (by first | exact (fun h => h) | exact zT1 (by omega) | (show ¬ (_ ∨ _); omega) | (show ¬ (_ ∧ _); omega)) (by first | exact (fun h => h) | exact zT1 (by omega) | (show ¬ (_ ∨ _); omega) | (show ¬ (_ ∧ _); omega))
  have ho49 : zO (zEn x) H40 r44 (t + 4) q43 1 [.int (iI 0), .null, .int (iI 0)] := ⟨by rw [eq43]; exact hO41, q43t⟩
  refine z_dup O dX4_init_32 rfl ?_
  refine z_bipush 12 O dX4_init_33 (by decide +kernel) ?_
  refine z_sipush 1024 O dX4_init_35 (by decide +kernel) ?_
  refine z_Ivm [.int (iI ((12 : Nat) : Int)), .int (iI ((1024 : Nat) : Int))] [.ref q43, .ref q] kM_X4_19 O dX4_init_38 (c_X1_init hst ho49 (c := 12) (most := 1024) ⟨by decide, by decide⟩ (by decide)) rfl rfl (by decide) (Nat.le_of_ble_eq_true rfl) (by omega) (by omega) (Nat.le_of_ble_eq_true rfl) zNx (fun H50 hp51 hz52 => ?_)
  obtain ⟨r53, hf54, hr55, hk56⟩ := hp51
  have ho57 := ho46.fr hf54 (by first | exact (fun h => h) | exact zT1 (by omega) | (show ¬ (_ ∨ _); omega) | (show ¬ (_ ∧ _); omega))
  have hq58 := hq47.fr hf54 (by first | exact (fun h => h) | exact zT1 (by omega) | (show ¬ (_ ∨ _); omega) | (show ¬ (_ ∧ _); omega))
  have hr59 := hr48.fr hf54 (by first | exact (fun h => h) | exact zT1 (by omega) | (show ¬ (_ ∨ _); omega) | (show ¬ (_ ∧ _); omega)) (by first | exact (fun h => h) | exact zT1 (by omega) | (show ¬ (_ ∨ _); omega) | (show ¬ (_ ∧ _); omega))
  refine z_putf kP_X4_26 O (fun _ => rfl) dX4_init_41 ho57.1 rfl rfl (Nat.le_of_ble_eq_true rfl) (fun H60 hO61 hC62 => ?_)
  have hf63 := ho57.ch hC62
  have ho64 : zO (zEn x) H60 r53 t q 4 [.int (iI 0), .ref q4, .ref q18, .ref q43, .null, .null, .int (iI 0), .int (iI 0), .int (iI 0)] := ⟨hO61, ho57.2⟩
  have hq65 := hq58.fr hf63 (by first | exact (fun h => h) | exact zT1 (by omega) | (show ¬ (_ ∨ _); omega) | (show ¬ (_ ∧ _); omega))
  have hr66 := hr59.fr hf63 (by first | exact (fun h => h) | exact zT1 (by omega) | (show ¬ (_ ∨ _); omega) | (show ¬ (_ ∧ _); omega)) (by first | exact (fun h => h) | exact zT1 (by omega) | (show ¬ (_ ∨ _); omega) | (show ¬ (_ ∧ _); omega))
  have hr67 := hr55.fr hf63 (by first | exact (fun h => h) | exact zT1 (by omega) | (show ¬ (_ ∨ _); omega) | (show ¬ (_ ∧ _); omega)) (by first | exact (fun h => h) | exact zT1 (by omega) | (show ¬ (_ ∨ _); omega) | (show ¬ (_ ∧ _); omega))
  refine z_aload_n 0 O dX4_init_44 rfl ?_
  refine z_new kN_X4_17 O dX4_init_45 (by omega) (by omega) (fun H68 hO69 hN70 => ?_)
  obtain ⟨r72, er72⟩ : ∃ z, z = zTag r53 H60.size (t + 6) := ⟨_, rfl⟩
  have hf73 : zFr H60 r53 H68 r72 (fun _ => False) := by rw [er72]; exact hN70.fr r53 (t + 6) _
  obtain ⟨q71, eq71⟩ : ∃ z, z = H60.size := ⟨_, rfl⟩
  have q71t : r72.1 q71 = t + 6 := by rw [er72, eq71]; exact zTag_1
  rw [← eq71]
  have ho74 := ho64.fr hf73 (by first | exact (fun h => h) | exact zT1 (by omega) | (show ¬ (_ ∨ _); omega) | (show ¬ (_ ∧ _); omega))
  have hq75 := hq65.fr hf73 (by first | exact (fun h => h) | exact zT1 (by omega) | (show ¬ (_ ∨ _); omega) | (show ¬ (_ ∧ _); omega))
  have hr76 := hr66.fr hf73 (by first | exact (fun h => h) | exact zT1 (by omega) | (show ¬ (_ ∨ _); omega) | (show ¬ (_ ∧ _); omega)) (by first | exact (fun h => h) | exact zT1 (by omega) | (show ¬ (_ ∨ _); omega) | (show ¬ (_ ∧ _); omega))
  have hr77 := hr67.fr hf73 (by first | exact (fun h => h) | exact zT1 (by omega) | (show ¬ (_ ∨ _); omega) | (show ¬ (_ ∧ _); omega)) (by first | exact (fun h => h) | exact zT1 (by omega) | (show ¬ (_ ∨ _); omega) | (show ¬ (_ ∧ _); omega))
  have ho78 : zO (zEn x) H68 r72 (t + 6) q71 1 [.int (iI 0), .null, .int (iI 0)] := ⟨by rw [eq71]; exact hO69, q71t⟩
  refine z_dup O dX4_init_48 rfl ?_
  refine z_iconst 4 O dX4_init_49 (by decide +kernel) ?_
  refine z_bipush 20 O dX4_init_50 (by decide +kernel) ?_
  refine z_Ivm [.int (iI ((4 : Nat) : Int)), .int (iI ((20 : Nat) : Int))] [.ref q71, .ref q] kM_X4_19 O dX4_init_52 (c_X1_init hst ho78 (c := 4) (most := 20) ⟨by decide, by decide⟩ (by decide)) rfl rfl (by decide) (Nat.le_of_ble_eq_true rfl) (by omega) (by omega) (Nat.le_of_ble_eq_true rfl) zNx (fun H79 hp80 hz81 => ?_)
  obtain ⟨r82, hf83, hr84, hk85⟩ := hp80
  have ho86 := ho74.fr hf83 (by first | exact (fun h => h) | exact zT1 (by omega) | (show ¬ (_ ∨ _); omega) | (show ¬ (_ ∧ _); omega))
  have hq87 := hq75.fr hf83 (by first | exact (fun h => h) | exact zT1 (by omega) | (show ¬ (_ ∨ _); omega) | (show ¬ (_ ∧ _); omega))
  have hr88 := hr76.fr hf83 (by first | exact (fun h => h) | exact zT1 (by omega) | (show ¬ (_ ∨ _); omega) | (show ¬ (_ ∧ _); omega)) (by first | exact (fun h => h) | exact zT1 (by omega) | (show ¬ (_ ∨ _); omega) | (show ¬ (_ ∧ _); omega))
  have hr89 := hr77.fr hf83 (by first | exact (fun h => h) | exact zT1 (by omega) | (show ¬ (_ ∨ _); omega) | (show ¬ (_ ∧ _); omega)) (by first | exact (fun h => h) | exact zT1 (by omega) | (show ¬ (_ ∨ _); omega) | (show ¬ (_ ∧ _); omega))
  refine z_putf kP_X4_29 O (fun _ => rfl) dX4_init_55 ho86.1 rfl rfl (Nat.le_of_ble_eq_true rfl) (fun H90 hO91 hC92 => ?_)
  have hf93 := ho86.ch hC92
  have ho94 : zO (zEn x) H90 r82 t q 4 [.int (iI 0), .ref q4, .ref q18, .ref q43, .ref q71, .null, .int (iI 0), .int (iI 0), .int (iI 0)] := ⟨hO91, ho86.2⟩
  have hq95 := hq87.fr hf93 (by first | exact (fun h => h) | exact zT1 (by omega) | (show ¬ (_ ∨ _); omega) | (show ¬ (_ ∧ _); omega))
  have hr96 := hr88.fr hf93 (by first | exact (fun h => h) | exact zT1 (by omega) | (show ¬ (_ ∨ _); omega) | (show ¬ (_ ∧ _); omega)) (by first | exact (fun h => h) | exact zT1 (by omega) | (show ¬ (_ ∨ _); omega) | (show ¬ (_ ∧ _); omega))
  have hr97 := hr89.fr hf93 (by first | exact (fun h => h) | exact zT1 (by omega) | (show ¬ (_ ∨ _); omega) | (show ¬ (_ ∧ _); omega)) (by first | exact (fun h => h) | exact zT1 (by omega) | (show ¬ (_ ∨ _); omega) | (show ¬ (_ ∧ _); omega))
  have hr98 := hr84.fr hf93 (by first | exact (fun h => h) | exact zT1 (by omega) | (show ¬ (_ ∨ _); omega) | (show ¬ (_ ∧ _); omega)) (by first | exact (fun h => h) | exact zT1 (by omega) | (show ¬ (_ ∨ _); omega) | (show ¬ (_ ∧ _); omega))
  refine z_aload_n 0 O dX4_init_58 rfl ?_
  refine z_new kN_X4_17 O dX4_init_59 (by omega) (by omega) (fun H99 hO100 hN101 => ?_)
  obtain ⟨r103, er103⟩ : ∃ z, z = zTag r82 H90.size (t + 8) := ⟨_, rfl⟩
  have hf104 : zFr H90 r82 H99 r103 (fun _ => False) := by rw [er103]; exact hN101.fr r82 (t + 8) _
  obtain ⟨q102, eq102⟩ : ∃ z, z = H90.size := ⟨_, rfl⟩
  have q102t : r103.1 q102 = t + 8 := by rw [er103, eq102]; exact zTag_1
  rw [← eq102]
  have ho105 := ho94.fr hf104 (by first | exact (fun h => h) | exact zT1 (by omega) | (show ¬ (_ ∨ _); omega) | (show ¬ (_ ∧ _); omega))
  have hq106 := hq95.fr hf104 (by first | exact (fun h => h) | exact zT1 (by omega) | (show ¬ (_ ∨ _); omega) | (show ¬ (_ ∧ _); omega))
  have hr107 := hr96.fr hf104 (by first | exact (fun h => h) | exact zT1 (by omega) | (show ¬ (_ ∨ _); omega) | (show ¬ (_ ∧ _); omega)) (by first | exact (fun h => h) | exact zT1 (by omega) | (show ¬ (_ ∨ _); omega) | (show ¬ (_ ∧ _); omega))
  have hr108 := hr97.fr hf104 (by first | exact (fun h => h) | exact zT1 (by omega) | (show ¬ (_ ∨ _); omega) | (show ¬ (_ ∧ _); omega)) (by first | exact (fun h => h) | exact zT1 (by omega) | (show ¬ (_ ∨ _); omega) | (show ¬ (_ ∧ _); omega))
  have hr109 := hr98.fr hf104 (by first | exact (fun h => h) | exact zT1 (by omega) | (show ¬ (_ ∨ _); omega) | (show ¬ (_ ∧ _); omega)) (by first | exact (fun h => h) | exact zT1 (by omega) | (show ¬ (_ ∨ _); omega) | (show ¬ (_ ∧ _); omega))
  have ho110 : zO (zEn x) H99 r103 (t + 8) q102 1 [.int (iI 0), .null, .int (iI 0)] := ⟨by rw [eq102]; exact hO100, q102t⟩
  refine z_dup O dX4_init_62 rfl ?_
  refine z_iconst 4 O dX4_init_63 (by decide +kernel) ?_
  refine z_bipush 20 O dX4_init_64 (by decide +kernel) ?_
  refine z_Ivm [.int (iI ((4 : Nat) : Int)), .int (iI ((20 : Nat) : Int))] [.ref q102, .ref q] kM_X4_19 O dX4_init_66 (c_X1_init hst ho110 (c := 4) (most := 20) ⟨by decide, by decide⟩ (by decide)) rfl rfl (by decide) (Nat.le_of_ble_eq_true rfl) (by omega) (by omega) (Nat.le_of_ble_eq_true rfl) zNx (fun H111 hp112 hz113 => ?_)
  obtain ⟨r114, hf115, hr116, hk117⟩ := hp112
  have ho118 := ho105.fr hf115 (by first | exact (fun h => h) | exact zT1 (by omega) | (show ¬ (_ ∨ _); omega) | (show ¬ (_ ∧ _); omega))
  have hq119 := hq106.fr hf115 (by first | exact (fun h => h) | exact zT1 (by omega) | (show ¬ (_ ∨ _); omega) | (show ¬ (_ ∧ _); omega))
  have hr120 := hr107.fr hf115 (by first | exact (fun h => h) | exact zT1 (by omega) | (show ¬ (_ ∨ _); omega) | (show ¬ (_ ∧ _); omega)) (by first | exact (fun h => h) | exact zT1 (by omega) | (show ¬ (_ ∨ _); omega) | (show ¬ (_ ∧ _); omega))
  have hr121 := hr108.fr hf115 (by first | exact (fun h => h) | exact zT1 (by omega) | (show ¬ (_ ∨ _); omega) | (show ¬ (_ ∧ _); omega)) (by first | exact (fun h => h) | exact zT1 (by omega) | (show ¬ (_ ∨ _); omega) | (show ¬ (_ ∧ _); omega))
  have hr122 := hr109.fr hf115 (by first | exact (fun h => h) | exact zT1 (by omega) | (show ¬ (_ ∨ _); omega) | (show ¬ (_ ∧ _); omega)) (by first | exact (fun h => h) | exact zT1 (by omega) | (show ¬ (_ ∨ _); omega) | (show ¬ (_ ∧ _); omega))
  refine z_putf kP_X4_32 O (fun _ => rfl) dX4_init_69 ho118.1 rfl rfl (Nat.le_of_ble_eq_true rfl) (fun H123 hO124 hC125 => ?_)
  have hf126 := ho118.ch hC125
  have ho127 : zO (zEn x) H123 r114 t q 4 [.int (iI 0), .ref q4, .ref q18, .ref q43, .ref q71, .ref q102, .int (iI 0), .int (iI 0), .int (iI 0)] := ⟨hO124, ho118.2⟩
  have hq128 := hq119.fr hf126 (by first | exact (fun h => h) | exact zT1 (by omega) | (show ¬ (_ ∨ _); omega) | (show ¬ (_ ∧ _); omega))
  have hr129 := hr120.fr hf126 (by first | exact (fun h => h) | exact zT1 (by omega) | (show ¬ (_ ∨ _); omega) | (show ¬ (_ ∧ _); omega)) (by first | exact (fun h => h) | exact zT1 (by omega) | (show ¬ (_ ∨ _); omega) | (show ¬ (_ ∧ _); omega))
  have hr130 := hr121.fr hf126 (by first | exact (fun h => h) | exact zT1 (by omega) | (show ¬ (_ ∨ _); omega) | (show ¬ (_ ∧ _); omega)) (by first | exact (fun h => h) | exact zT1 (by omega) | (show ¬ (_ ∨ _); omega) | (show ¬ (_ ∧ _); omega))
  have hr131 := hr122.fr hf126 (by first | exact (fun h => h) | exact zT1 (by omega) | (show ¬ (_ ∨ _); omega) | (show ¬ (_ ∧ _); omega)) (by first | exact (fun h => h) | exact zT1 (by omega) | (show ¬ (_ ∨ _); omega) | (show ¬ (_ ∧ _); omega))
  have hr132 := hr116.fr hf126 (by first | exact (fun h => h) | exact zT1 (by omega) | (show ¬ (_ ∨ _); omega) | (show ¬ (_ ∧ _); omega)) (by first | exact (fun h => h) | exact zT1 (by omega) | (show ¬ (_ ∨ _); omega) | (show ¬ (_ ∧ _); omega))
  refine z_aload_n 0 O dX4_init_72 rfl ?_
  refine z_iload_n 1 O dX4_init_73 rfl ?_
  refine z_putf kP_X4_35 O (fun _ => rfl) dX4_init_74 ho127.1 rfl rfl (Nat.le_of_ble_eq_true rfl) (fun H133 hO134 hC135 => ?_)
  have hf136 := ho127.ch hC135
  have ho137 : zO (zEn x) H133 r114 t q 4 [.int (iI w), .ref q4, .ref q18, .ref q43, .ref q71, .ref q102, .int (iI 0), .int (iI 0), .int (iI 0)] := ⟨hO134, ho127.2⟩
  have hq138 := hq128.fr hf136 (by first | exact (fun h => h) | exact zT1 (by omega) | (show ¬ (_ ∨ _); omega) | (show ¬ (_ ∧ _); omega))
  have hr139 := hr129.fr hf136 (by first | exact (fun h => h) | exact zT1 (by omega) | (show ¬ (_ ∨ _); omega) | (show ¬ (_ ∧ _); omega)) (by first | exact (fun h => h) | exact zT1 (by omega) | (show ¬ (_ ∨ _); omega) | (show ¬ (_ ∧ _); omega))
  have hr140 := hr130.fr hf136 (by first | exact (fun h => h) | exact zT1 (by omega) | (show ¬ (_ ∨ _); omega) | (show ¬ (_ ∧ _); omega)) (by first | exact (fun h => h) | exact zT1 (by omega) | (show ¬ (_ ∨ _); omega) | (show ¬ (_ ∧ _); omega))
  have hr141 := hr131.fr hf136 (by first | exact (fun h => h) | exact zT1 (by omega) | (show ¬ (_ ∨ _); omega) | (show ¬ (_ ∧ _); omega)) (by first | exact (fun h => h) | exact zT1 (by omega) | (show ¬ (_ ∨ _); omega) | (show ¬ (_ ∧ _); omega))
  have hr142 := hr132.fr hf136 (by first | exact (fun h => h) | exact zT1 (by omega) | (show ¬ (_ ∨ _); omega) | (show ¬ (_ ∧ _); omega)) (by first | exact (fun h => h) | exact zT1 (by omega) | (show ¬ (_ ∨ _); omega) | (show ¬ (_ ∧ _); omega))
  refine z_iconst 0 O dX4_init_77 (by decide +kernel) ?_
  refine z_istore_n [(2, .int (iI 0)), (0, .ref q), (1, .int (iI w))] O dX4_init_78 (by decide) rfl ?_
  have loop : ∀ (d : Nat) (i : Nat) (H' : Heap) (r' : zH) (b : Nat → Nat), (i + d = 5) → (zFr H r H' r' (fun s => t ≤ s ∧ s < t + 16)) → (∀ j : Nat, j < i → zO (zEn x) H' r' (t + 10 + j) (b j) 3 [.int (iI 0), .int (iI 0), .int (iI 0), .int (iI 0), .int (iI 0)]) → (zO (zEn x) H' r' t q 4 [.int (iI w), .ref q4, .ref q18, .ref q43, .ref q71, .ref q102, .int (iI 0), .int (iI 0), .int (iI 0)]) → (zQr (zEn x) H' r' (t + 1) q4 4 5 (fun j => if j < (i : Int) then some (b j.toNat) else none)) → (zRow (zEn x) H' r' (t + 2) q18 1024 0 (fun _ => 0)) → (zRow (zEn x) H' r' (t + 4) q43 1024 0 (fun _ => 0)) → (zRow (zEn x) H' r' (t + 6) q71 20 0 (fun _ => 0)) → (zRow (zEn x) H' r' (t + 8) q102 20 0 (fun _ => 0)) → zG x H' (9 + i) (77 + 5 * i) 79 [(2, .int (iI (i : Int))), (0, .ref q), (1, .int (iI w))] [] := by
    intro d
    induction d with
    | zero =>
      intro i H' r' b hid hf' hwk y0' y1' y2' y3' y4' y5'
      refine z_iload_n 0 O dX4_init_79 rfl ?_
      refine z_aload_n 1 O dX4_init_80 rfl ?_
      refine z_getf kF_X4_11 O dX4_init_81 y0'.1 rfl ?_
      refine z_alenR (by decide) O dX4_init_84 y1'.1 ?_
      refine z_icmp_ge 107 O dX4_init_85 (by decide) ⟨by omega, by omega⟩ ⟨by omega, by omega⟩ (fun c_85 => ?_) (fun c_85 => ?_)
      · skip
        obtain ⟨a1, ha1⟩ : ∃ z, z = (fun s => if s = t + 1 then q4 else if s = t + 2 then q18 else if s = t + 4 then q43 else if s = t + 6 then q71 else if s = t + 8 then q102 else if t + 10 ≤ s ∧ s < t + 15 then b (s - (t + 10)) else a s) := ⟨_, rfl⟩
        have hat : ∀ s : Nat, ¬ (t < s ∧ s < t + 16) → a1 s = a s := fun s hs => by rw [ha1]; dsimp only; rw [if_neg (by omega), if_neg (by omega), if_neg (by omega), if_neg (by omega), if_neg (by omega), if_neg (by omega)]
        have ha_1 : a1 (t + 1) = q4 := by rw [ha1]; dsimp only; rw [if_pos rfl]
        have ha_2 : a1 (t + 2) = q18 := by rw [ha1]; dsimp only; rw [if_neg (by omega), if_pos rfl]
        have ha_4 : a1 (t + 4) = q43 := by rw [ha1]; dsimp only; rw [if_neg (by omega), if_neg (by omega), if_pos rfl]
        have ha_6 : a1 (t + 6) = q71 := by rw [ha1]; dsimp only; rw [if_neg (by omega), if_neg (by omega), if_neg (by omega), if_pos rfl]
        have ha_8 : a1 (t + 8) = q102 := by rw [ha1]; dsimp only; rw [if_neg (by omega), if_neg (by omega), if_neg (by omega), if_neg (by omega), if_pos rfl]
        have hab : ∀ j : Nat, j < 5 → a1 (t + 10 + j) = b j := fun j hj => by rw [ha1]; dsimp only; rw [if_neg (by omega), if_neg (by omega), if_neg (by omega), if_neg (by omega), if_neg (by omega), if_pos (by omega), show t + 10 + j - (t + 10) = j by omega]
        have haq : a1 t = q := (hat t (by omega)).trans hq
        have hws9 : zWs (zEn x) H' r' a1 (t + 10) (fun _ _ => 0) := fun j hj => by rw [hab j hj]; exact hwk j (by omega)
        exact z_iretv O dX4_init_107 rfl (by omega) (by omega) hpo (⟨r', a1, hat, (hf'.up (fun s h => by first | exact h.elim | omega | (simp at h ⊢; omega))), zWkr.mk (g1 := fun _ => 0) (g2 := fun _ => 0) (f1 := fun _ => 0) (f2 := fun _ => 0) (by rw [haq, ha_1, ha_2, ha_4, ha_6, ha_8]; exact y0') (by rw [ha_1]; exact ⟨y1'.1.to (fun j h0 h1 => by rw [if_pos (by omega), hab j.toNat (by omega)]), y1'.2⟩) (by rw [ha_2]; exact y2') (by rw [ha_4]; exact y3') (by rw [ha_6]; exact y4') (by rw [ha_8]; exact y5') hws9 (sClean_z hw.1 (by decide)) (sClean_z hw.1 (by decide)) (sClean_z hw.1 (by decide)) (sClean_z hw.1 (by decide)) (sClean_z hw.1 (by decide)) (fun k k0 k1 => by omega) (fun k k0 k1 => by omega) (gRl.clear (sClean_z hw.1 (by decide)))⟩)
      · exfalso; omega
    | succ d ih =>
      intro i H' r' b hid hf' hwk y0' y1' y2' y3' y4' y5'
      refine z_iload_n 0 O dX4_init_79 rfl ?_
      refine z_aload_n 1 O dX4_init_80 rfl ?_
      refine z_getf kF_X4_11 O dX4_init_81 y0'.1 rfl ?_
      refine z_alenR (by decide) O dX4_init_84 y1'.1 ?_
      refine z_icmp_ge 107 O dX4_init_85 (by decide) ⟨by omega, by omega⟩ ⟨by omega, by omega⟩ (fun c_85 => ?_) (fun c_85 => ?_)
      · exfalso; omega
      · skip
        refine z_aload_n 1 O dX4_init_88 rfl ?_
        refine z_getf kF_X4_11 O dX4_init_89 y0'.1 rfl ?_
        refine z_iload_n 0 O dX4_init_92 rfl ?_
        refine z_new kN_X4_9 O dX4_init_93 (by omega) (by omega) (fun H143 hO144 hN145 => ?_)
        obtain ⟨r147, er147⟩ : ∃ z, z = zTag r' H'.size (t + 10 + i) := ⟨_, rfl⟩
        have hf148 : zFr H' r' H143 r147 (fun _ => False) := by rw [er147]; exact hN145.fr r' (t + 10 + i) _
        obtain ⟨q146, eq146⟩ : ∃ z, z = H'.size := ⟨_, rfl⟩
        have q146t : r147.1 q146 = t + 10 + i := by rw [er147, eq146]; exact zTag_1
        rw [← eq146]
        have y0'149 := y0'.fr hf148 (by first | exact (fun h => h) | exact zT1 (by omega) | (show ¬ (_ ∨ _); omega) | (show ¬ (_ ∧ _); omega))
        have y1'150 := y1'.fr hf148 (by first | exact (fun h => h) | exact zT1 (by omega) | (show ¬ (_ ∨ _); omega) | (show ¬ (_ ∧ _); omega))
        have y2'151 := y2'.fr hf148 (by first | exact (fun h => h) | exact zT1 (by omega) | (show ¬ (_ ∨ _); omega) | (show ¬ (_ ∧ _); omega)) (by first | exact (fun h => h) | exact zT1 (by omega) | (show ¬ (_ ∨ _); omega) | (show ¬ (_ ∧ _); omega))
        have y3'152 := y3'.fr hf148 (by first | exact (fun h => h) | exact zT1 (by omega) | (show ¬ (_ ∨ _); omega) | (show ¬ (_ ∧ _); omega)) (by first | exact (fun h => h) | exact zT1 (by omega) | (show ¬ (_ ∨ _); omega) | (show ¬ (_ ∧ _); omega))
        have y4'153 := y4'.fr hf148 (by first | exact (fun h => h) | exact zT1 (by omega) | (show ¬ (_ ∨ _); omega) | (show ¬ (_ ∧ _); omega)) (by first | exact (fun h => h) | exact zT1 (by omega) | (show ¬ (_ ∨ _); omega) | (show ¬ (_ ∧ _); omega))
        have y5'154 := y5'.fr hf148 (by first | exact (fun h => h) | exact zT1 (by omega) | (show ¬ (_ ∨ _); omega) | (show ¬ (_ ∧ _); omega)) (by first | exact (fun h => h) | exact zT1 (by omega) | (show ¬ (_ ∨ _); omega) | (show ¬ (_ ∧ _); omega))
        have ho155 : zO (zEn x) H143 r147 (t + 10 + i) q146 3 [.int (iI 0), .int (iI 0), .int (iI 0), .int (iI 0), .int (iI 0)] := ⟨by rw [eq146]; exact hO144, q146t⟩
        refine z_dup O dX4_init_96 rfl ?_
        refine z_Ivm [] [.ref q146, .int (iI (i : Int)), .ref q4] kM_X4_39 O dX4_init_97 (c_X3_init hst) rfl rfl (by decide) (Nat.le_of_ble_eq_true rfl) (by omega) (by omega) (Nat.le_of_ble_eq_true rfl) zNx (fun H156 hp157 hz158 => ?_)
        subst hp157
        refine z_aast (by unfold zTC; decide) O dX4_init_100 y1'150.1 ho155.1 ⟨by omega, by omega⟩ (by omega) (by omega) (fun H159 hQ160 hC161 => ?_)
        have hf162 := y1'150.ch hC161
        have hq163 : zQr (zEn x) H159 r147 (t + 1) q4 4 5 (zUr (fun j => if j < (i : Int) then some (b j.toNat) else none) (i : Int) (some q146)) := ⟨hQ160, y1'150.2⟩
        have y0'164 := y0'149.fr hf162 (by first | exact (fun h => h) | exact zT1 (by omega) | (show ¬ (_ ∨ _); omega) | (show ¬ (_ ∧ _); omega))
        have y2'165 := y2'151.fr hf162 (by first | exact (fun h => h) | exact zT1 (by omega) | (show ¬ (_ ∨ _); omega) | (show ¬ (_ ∧ _); omega)) (by first | exact (fun h => h) | exact zT1 (by omega) | (show ¬ (_ ∨ _); omega) | (show ¬ (_ ∧ _); omega))
        have y3'166 := y3'152.fr hf162 (by first | exact (fun h => h) | exact zT1 (by omega) | (show ¬ (_ ∨ _); omega) | (show ¬ (_ ∧ _); omega)) (by first | exact (fun h => h) | exact zT1 (by omega) | (show ¬ (_ ∨ _); omega) | (show ¬ (_ ∧ _); omega))
        have y4'167 := y4'153.fr hf162 (by first | exact (fun h => h) | exact zT1 (by omega) | (show ¬ (_ ∨ _); omega) | (show ¬ (_ ∧ _); omega)) (by first | exact (fun h => h) | exact zT1 (by omega) | (show ¬ (_ ∨ _); omega) | (show ¬ (_ ∧ _); omega))
        have y5'168 := y5'154.fr hf162 (by first | exact (fun h => h) | exact zT1 (by omega) | (show ¬ (_ ∨ _); omega) | (show ¬ (_ ∧ _); omega)) (by first | exact (fun h => h) | exact zT1 (by omega) | (show ¬ (_ ∨ _); omega) | (show ¬ (_ ∧ _); omega))
        have ho169 := ho155.fr hf162 (by first | exact (fun h => h) | exact zT1 (by omega) | (show ¬ (_ ∨ _); omega) | (show ¬ (_ ∧ _); omega))
        refine z_iinc 0 [(2, .int (iI ((i : Int) + 1))), (0, .ref q), (1, .int (iI w))] O dX4_init_101 (by decide) rfl rfl ?_
        refine z_goto 79 O dX4_init_104 (by decide) ?_
        refine z_widen (k := 9 + (i + 1)) (n := 77 + 5 * (i + 1)) (by omega) (by omega) ?_
        have hwk9 : ∀ j : Nat, j < i + 1 → zO (zEn x) H159 r147 (t + 10 + j) ((fun j => if j = i then q146 else b j) j) 3 [.int (iI 0), .int (iI 0), .int (iI 0), .int (iI 0), .int (iI 0)] := fun j hj => by
          by_cases z : j = i
          · subst z; show zO _ _ _ _ (if j = j then _ else _) _ _; rw [if_pos rfl]; exact ho169
          · show zO _ _ _ _ (if j = i then _ else _) _ _; rw [if_neg z]; exact (((hwk j (by omega)).fr hf148 (by first | exact (fun h => h) | exact zT1 (by omega) | (show ¬ (_ ∨ _); omega) | (show ¬ (_ ∧ _); omega))).fr hf162 (by first | exact (fun h => h) | exact zT1 (by omega) | (show ¬ (_ ∨ _); omega) | (show ¬ (_ ∧ _); omega)))
        exact ih (i + 1) H159 r147 (fun j => if j = i then q146 else b j) (by omega) (((((hf'.up (fun s h => by first | exact h.elim | omega | (simp at h ⊢; omega)))).tr (hf148.up (fun s h => by first | exact h.elim | omega | (simp at h ⊢; omega))))).tr (hf162.up (fun s h => by first | exact h.elim | omega | (simp at h ⊢; omega)))) hwk9 y0'164 (hq163.to9 i) y2'165 y3'166 y4'167 y5'168
  exact loop 5 0 H133 r114 (fun _ => 0) (by omega) (((((((((((((((((((((((((((((hf6.up (fun s h => by first | exact h.elim | omega | (simp at h ⊢; omega)))).tr (hf12.up (fun s h => by first | exact h.elim | omega | (simp at h ⊢; omega))))).tr (hf20.up (fun s h => by first | exact h.elim | omega | (simp at h ⊢; omega))))).tr (hf28.up (fun s h => by first | exact h.elim | omega | (simp at h ⊢; omega))))).tr (hf36.up (fun s h => by first | exact h.elim | omega | (simp at h ⊢; omega))))).tr (hf45.up (fun s h => by first | exact h.elim | omega | (simp at h ⊢; omega))))).tr (hf54.up (fun s h => by first | exact h.elim | omega | (simp at h ⊢; omega))))).tr (hf63.up (fun s h => by first | exact h.elim | omega | (simp at h ⊢; omega))))).tr (hf73.up (fun s h => by first | exact h.elim | omega | (simp at h ⊢; omega))))).tr (hf83.up (fun s h => by first | exact h.elim | omega | (simp at h ⊢; omega))))).tr (hf93.up (fun s h => by first | exact h.elim | omega | (simp at h ⊢; omega))))).tr (hf104.up (fun s h => by first | exact h.elim | omega | (simp at h ⊢; omega))))).tr (hf115.up (fun s h => by first | exact h.elim | omega | (simp at h ⊢; omega))))).tr (hf126.up (fun s h => by first | exact h.elim | omega | (simp at h ⊢; omega))))).tr (hf136.up (fun s h => by first | exact h.elim | omega | (simp at h ⊢; omega)))) (fun j hj => by omega) ho137 ⟨hq138.1.to (fun j h0 h1 => (if_neg (by omega)).symm), hq138.2⟩ hr139 hr140 hr141 hr142

