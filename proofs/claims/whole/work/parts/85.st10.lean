/-! the class: a state is made (written by program: wip/whole/gen/class13.py) -/
theorem zCap_at {r r1 : zH} {s m : Nat} (e : r1.2 = (zCap r s m).2) : r1.2 s = m := by rw [e]; exact if_pos rfl
theorem zCap_ne {r r1 : zH} {s m p : Nat} (e : r1.2 = (zCap r s m).2) (h : p ≠ s) : r1.2 p = r.2 p := by rw [e]; exact if_neg h
theorem zPc_s {c most : Nat} {n : Int} (h : n < c) : zPc c most n = c := if_pos h
theorem c_X2_init {E : zE} (hst : E.1.stackTraces = false) {H : Heap} {r : zH} {a : Nat → Nat} {t q : Nat} (hO : zO E H r t q 2 [.null, .null, .null, .int (iI 0), .int (iI 0), .int (iI 0), .int (iI 0)]) (hq : a t = q) : zC E yX2_init cX2_init 2 none 3 91 [.ref q] H 50 374 (zRv (fun H1 => ∃ (r1 : zH) (a1 : Nat → Nat), (∀ s : Nat, ¬ (t < s ∧ s < t + 64) → a1 s = a s) ∧ zFr H r H1 r1 (fun s => t ≤ s ∧ s < t + 64) ∧ zSt E H1 r1 a1 t sClean)) zN := by
  refine zC.of (by decide) (Nat.le_of_ble_eq_true rfl) hst ?_
  intro x O hE hpo hpx
  subst hE
  change zG x H 0 0 0 [(0, .ref q)] []
  refine z_aload_n 0 O dX2_init_0 rfl ?_
  refine z_objInit (List.mem_of_getElem? (i := 94) (by decide +kernel)) O dX2_init_1 (by decide) (Nat.le_of_ble_eq_true rfl) ?_
  refine z_aload_n 0 O dX2_init_4 rfl ?_
  refine z_new kN_X2_9 O dX2_init_5 (by omega) (by omega) (fun H1 hO2 hN3 => ?_)
  obtain ⟨r5, er5⟩ : ∃ z, z = zTag r H.size (t + 2) := ⟨_, rfl⟩
  have hf6 : zFr H r H1 r5 (fun _ => False) := by rw [er5]; exact hN3.fr r (t + 2) _
  obtain ⟨q4, eq4⟩ : ∃ z, z = H.size := ⟨_, rfl⟩
  have q4t : r5.1 q4 = t + 2 := by rw [er5, eq4]; exact zTag_1
  rw [← eq4]
  have hO7 := hO.fr hf6 (by first | exact (fun h => h) | exact zT1 (by omega) | (show ¬ (_ ∨ _); omega) | (show ¬ (_ ∧ _); omega))
  have ho8 : zO (zEn x) H1 r5 (t + 2) q4 1 [.int (iI 0), .null, .int (iI 0)] := ⟨by rw [eq4]; exact hO2, q4t⟩
  refine z_dup O dX2_init_8 rfl ?_
  refine z_bipush 16 O dX2_init_9 (by decide +kernel) ?_
  refine z_bipush 16 O dX2_init_11 (by decide +kernel) ?_
  refine z_Ivm [.int (iI ((16 : Nat) : Int)), .int (iI ((16 : Nat) : Int))] [.ref q4, .ref q] kM_X2_11 O dX2_init_13 (c_X1_init hst ho8 (c := 16) (most := 16) ⟨by decide, by decide⟩ (by decide)) rfl rfl (by decide) (Nat.le_of_ble_eq_true rfl) (by omega) (by omega) (Nat.le_of_ble_eq_true rfl) zNx (fun H9 hp10 hz11 => ?_)
  obtain ⟨r12, hf13, hr14, hk15⟩ := hp10
  have hO16 := hO7.fr hf13 (by first | exact (fun h => h) | exact zT1 (by omega) | (show ¬ (_ ∨ _); omega) | (show ¬ (_ ∧ _); omega))
  refine z_putf kP_X2_14 O (fun _ => rfl) dX2_init_16 hO16.1 rfl rfl (Nat.le_of_ble_eq_true rfl) (fun H17 hO18 hC19 => ?_)
  have hf20 := hO16.ch hC19
  have ho21 : zO (zEn x) H17 r12 t q 2 [.ref q4, .null, .null, .int (iI 0), .int (iI 0), .int (iI 0), .int (iI 0)] := ⟨hO18, hO16.2⟩
  have hr22 := hr14.fr hf20 (by first | exact (fun h => h) | exact zT1 (by omega) | (show ¬ (_ ∨ _); omega) | (show ¬ (_ ∧ _); omega)) (by first | exact (fun h => h) | exact zT1 (by omega) | (show ¬ (_ ∨ _); omega) | (show ¬ (_ ∧ _); omega))
  have hk23 := (hf20.2.2.2 (t + 2 + 1) (by first | exact (fun h => h) | exact zT1 (by omega) | (show ¬ (_ ∨ _); omega) | (show ¬ (_ ∧ _); omega))).trans hk15
  refine z_aload_n 0 O dX2_init_19 rfl ?_
  refine z_new kN_X2_9 O dX2_init_20 (by omega) (by omega) (fun H24 hO25 hN26 => ?_)
  obtain ⟨r28, er28⟩ : ∃ z, z = zTag r12 H17.size (t + 4) := ⟨_, rfl⟩
  have hf29 : zFr H17 r12 H24 r28 (fun _ => False) := by rw [er28]; exact hN26.fr r12 (t + 4) _
  obtain ⟨q27, eq27⟩ : ∃ z, z = H17.size := ⟨_, rfl⟩
  have q27t : r28.1 q27 = t + 4 := by rw [er28, eq27]; exact zTag_1
  rw [← eq27]
  have ho30 := ho21.fr hf29 (by first | exact (fun h => h) | exact zT1 (by omega) | (show ¬ (_ ∨ _); omega) | (show ¬ (_ ∧ _); omega))
  have hr31 := hr22.fr hf29 (by first | exact (fun h => h) | exact zT1 (by omega) | (show ¬ (_ ∨ _); omega) | (show ¬ (_ ∧ _); omega)) (by first | exact (fun h => h) | exact zT1 (by omega) | (show ¬ (_ ∨ _); omega) | (show ¬ (_ ∧ _); omega))
  have hk32 := (hf29.2.2.2 (t + 2 + 1) (by first | exact (fun h => h) | exact zT1 (by omega) | (show ¬ (_ ∨ _); omega) | (show ¬ (_ ∧ _); omega))).trans hk23
  have ho33 : zO (zEn x) H24 r28 (t + 4) q27 1 [.int (iI 0), .null, .int (iI 0)] := ⟨by rw [eq27]; exact hO25, q27t⟩
  refine z_dup O dX2_init_23 rfl ?_
  refine z_bipush 16 O dX2_init_24 (by decide +kernel) ?_
  refine z_bipush 16 O dX2_init_26 (by decide +kernel) ?_
  refine z_Ivm [.int (iI ((16 : Nat) : Int)), .int (iI ((16 : Nat) : Int))] [.ref q27, .ref q] kM_X2_11 O dX2_init_28 (c_X1_init hst ho33 (c := 16) (most := 16) ⟨by decide, by decide⟩ (by decide)) rfl rfl (by decide) (Nat.le_of_ble_eq_true rfl) (by omega) (by omega) (Nat.le_of_ble_eq_true rfl) zNx (fun H34 hp35 hz36 => ?_)
  obtain ⟨r37, hf38, hr39, hk40⟩ := hp35
  have ho41 := ho30.fr hf38 (by first | exact (fun h => h) | exact zT1 (by omega) | (show ¬ (_ ∨ _); omega) | (show ¬ (_ ∧ _); omega))
  have hr42 := hr31.fr hf38 (by first | exact (fun h => h) | exact zT1 (by omega) | (show ¬ (_ ∨ _); omega) | (show ¬ (_ ∧ _); omega)) (by first | exact (fun h => h) | exact zT1 (by omega) | (show ¬ (_ ∨ _); omega) | (show ¬ (_ ∧ _); omega))
  have hk43 := (hf38.2.2.2 (t + 2 + 1) (by first | exact (fun h => h) | exact zT1 (by omega) | (show ¬ (_ ∨ _); omega) | (show ¬ (_ ∧ _); omega))).trans hk32
  refine z_putf kP_X2_20 O (fun _ => rfl) dX2_init_31 ho41.1 rfl rfl (Nat.le_of_ble_eq_true rfl) (fun H44 hO45 hC46 => ?_)
  have hf47 := ho41.ch hC46
  have ho48 : zO (zEn x) H44 r37 t q 2 [.ref q4, .ref q27, .null, .int (iI 0), .int (iI 0), .int (iI 0), .int (iI 0)] := ⟨hO45, ho41.2⟩
  have hr49 := hr42.fr hf47 (by first | exact (fun h => h) | exact zT1 (by omega) | (show ¬ (_ ∨ _); omega) | (show ¬ (_ ∧ _); omega)) (by first | exact (fun h => h) | exact zT1 (by omega) | (show ¬ (_ ∨ _); omega) | (show ¬ (_ ∧ _); omega))
  have hr50 := hr39.fr hf47 (by first | exact (fun h => h) | exact zT1 (by omega) | (show ¬ (_ ∨ _); omega) | (show ¬ (_ ∧ _); omega)) (by first | exact (fun h => h) | exact zT1 (by omega) | (show ¬ (_ ∨ _); omega) | (show ¬ (_ ∧ _); omega))
  have hk51 := (hf47.2.2.2 (t + 2 + 1) (by first | exact (fun h => h) | exact zT1 (by omega) | (show ¬ (_ ∨ _); omega) | (show ¬ (_ ∧ _); omega))).trans hk43
  have hk52 := (hf47.2.2.2 (t + 4 + 1) (by first | exact (fun h => h) | exact zT1 (by omega) | (show ¬ (_ ∨ _); omega) | (show ¬ (_ ∧ _); omega))).trans hk40
  refine z_aload_n 0 O dX2_init_34 rfl ?_
  refine z_iconst 3 O dX2_init_35 (by decide +kernel) ?_
  refine z_newr (t := 3) (ci := 4) (n := 3) (C := "ForgivenWork$Worker") (by unfold zTC; decide) ⟨_, rfl, rfl⟩ (List.mem_of_getElem? (i := 97) (by decide +kernel)) O dX2_init_36 ⟨by omega, by omega⟩ (by omega) (by omega) (by omega) (by omega) (by omega) (List.mem_of_getElem? (i := 98) (by decide +kernel)) (fun H53 hA54 hN55 => ?_)
  obtain ⟨r57, er57⟩ : ∃ z, z = zTag r37 H44.size (t + 1) := ⟨_, rfl⟩
  have hf58 : zFr H44 r37 H53 r57 (fun _ => False) := by rw [er57]; exact hN55.fr r37 (t + 1) _
  obtain ⟨q56, eq56⟩ : ∃ z, z = H44.size := ⟨_, rfl⟩
  have q56t : r57.1 q56 = t + 1 := by rw [er57, eq56]; exact zTag_1
  rw [← eq56]
  have ho59 := ho48.fr hf58 (by first | exact (fun h => h) | exact zT1 (by omega) | (show ¬ (_ ∨ _); omega) | (show ¬ (_ ∧ _); omega))
  have hr60 := hr49.fr hf58 (by first | exact (fun h => h) | exact zT1 (by omega) | (show ¬ (_ ∨ _); omega) | (show ¬ (_ ∧ _); omega)) (by first | exact (fun h => h) | exact zT1 (by omega) | (show ¬ (_ ∨ _); omega) | (show ¬ (_ ∧ _); omega))
  have hr61 := hr50.fr hf58 (by first | exact (fun h => h) | exact zT1 (by omega) | (show ¬ (_ ∨ _); omega) | (show ¬ (_ ∧ _); omega)) (by first | exact (fun h => h) | exact zT1 (by omega) | (show ¬ (_ ∨ _); omega) | (show ¬ (_ ∧ _); omega))
  have hk62 := (hf58.2.2.2 (t + 2 + 1) (by first | exact (fun h => h) | exact zT1 (by omega) | (show ¬ (_ ∨ _); omega) | (show ¬ (_ ∧ _); omega))).trans hk51
  have hk63 := (hf58.2.2.2 (t + 4 + 1) (by first | exact (fun h => h) | exact zT1 (by omega) | (show ¬ (_ ∨ _); omega) | (show ¬ (_ ∧ _); omega))).trans hk52
  have hq64 : zQr (zEn x) H53 r57 (t + 1) q56 3 3 (fun _ => none) := ⟨by rw [eq56]; exact hA54, q56t⟩
  refine z_putf kP_X2_25 O (fun _ => rfl) dX2_init_39 ho59.1 rfl rfl (Nat.le_of_ble_eq_true rfl) (fun H65 hO66 hC67 => ?_)
  have hf68 := ho59.ch hC67
  have ho69 : zO (zEn x) H65 r57 t q 2 [.ref q4, .ref q27, .ref q56, .int (iI 0), .int (iI 0), .int (iI 0), .int (iI 0)] := ⟨hO66, ho59.2⟩
  have hr70 := hr60.fr hf68 (by first | exact (fun h => h) | exact zT1 (by omega) | (show ¬ (_ ∨ _); omega) | (show ¬ (_ ∧ _); omega)) (by first | exact (fun h => h) | exact zT1 (by omega) | (show ¬ (_ ∨ _); omega) | (show ¬ (_ ∧ _); omega))
  have hr71 := hr61.fr hf68 (by first | exact (fun h => h) | exact zT1 (by omega) | (show ¬ (_ ∨ _); omega) | (show ¬ (_ ∧ _); omega)) (by first | exact (fun h => h) | exact zT1 (by omega) | (show ¬ (_ ∨ _); omega) | (show ¬ (_ ∧ _); omega))
  have hq72 := hq64.fr hf68 (by first | exact (fun h => h) | exact zT1 (by omega) | (show ¬ (_ ∨ _); omega) | (show ¬ (_ ∧ _); omega))
  have hk73 := (hf68.2.2.2 (t + 2 + 1) (by first | exact (fun h => h) | exact zT1 (by omega) | (show ¬ (_ ∨ _); omega) | (show ¬ (_ ∧ _); omega))).trans hk62
  have hk74 := (hf68.2.2.2 (t + 4 + 1) (by first | exact (fun h => h) | exact zT1 (by omega) | (show ¬ (_ ∨ _); omega) | (show ¬ (_ ∧ _); omega))).trans hk63
  refine z_aload_n 0 O dX2_init_42 rfl ?_
  refine z_iconst 1 O dX2_init_43 (by decide +kernel) ?_
  refine z_putf kP_X2_29 O (fun _ => rfl) dX2_init_44 ho69.1 rfl rfl (Nat.le_of_ble_eq_true rfl) (fun H75 hO76 hC77 => ?_)
  have hf78 := ho69.ch hC77
  have ho79 : zO (zEn x) H75 r57 t q 2 [.ref q4, .ref q27, .ref q56, .int (iI 1), .int (iI 0), .int (iI 0), .int (iI 0)] := ⟨hO76, ho69.2⟩
  have hr80 := hr70.fr hf78 (by first | exact (fun h => h) | exact zT1 (by omega) | (show ¬ (_ ∨ _); omega) | (show ¬ (_ ∧ _); omega)) (by first | exact (fun h => h) | exact zT1 (by omega) | (show ¬ (_ ∨ _); omega) | (show ¬ (_ ∧ _); omega))
  have hr81 := hr71.fr hf78 (by first | exact (fun h => h) | exact zT1 (by omega) | (show ¬ (_ ∨ _); omega) | (show ¬ (_ ∧ _); omega)) (by first | exact (fun h => h) | exact zT1 (by omega) | (show ¬ (_ ∨ _); omega) | (show ¬ (_ ∧ _); omega))
  have hq82 := hq72.fr hf78 (by first | exact (fun h => h) | exact zT1 (by omega) | (show ¬ (_ ∨ _); omega) | (show ¬ (_ ∧ _); omega))
  have hk83 := (hf78.2.2.2 (t + 2 + 1) (by first | exact (fun h => h) | exact zT1 (by omega) | (show ¬ (_ ∨ _); omega) | (show ¬ (_ ∧ _); omega))).trans hk73
  have hk84 := (hf78.2.2.2 (t + 4 + 1) (by first | exact (fun h => h) | exact zT1 (by omega) | (show ¬ (_ ∨ _); omega) | (show ¬ (_ ∧ _); omega))).trans hk74
  refine z_iconst 0 O dX2_init_47 (by decide +kernel) ?_
  refine z_istore_n [(1, .int (iI 0)), (0, .ref q)] O dX2_init_48 (by decide) rfl ?_
  have loop49 : ∀ (d : Nat) (i : Int) (H' : Heap) (r' : zH), (0 ≤ i) → (i + (d : Int) = 16) → (zFr H r H' r' (fun s => t ≤ s ∧ s < t + 64)) → (r'.2 (t + 2 + 1) = 16) → (r'.2 (t + 4 + 1) = 16) → (zO (zEn x) H' r' t q 2 [.ref q4, .ref q27, .ref q56, .int (iI 1), .int (iI 0), .int (iI 0), .int (iI 0)]) → (zRow (zEn x) H' r' (t + 2) q4 16 i (fun _ => 0)) → (zRow (zEn x) H' r' (t + 4) q27 16 i (fun _ => -1)) → (zQr (zEn x) H' r' (t + 1) q56 3 3 (fun _ => none)) → zG x H' 5 41 49 [(1, .int (iI i)), (0, .ref q)] [] := by
    intro d
    induction d with
    | zero =>
      intro i H' r' hi0 hid hf' hc3 hc5 y0' y1' y2' y3'
      refine z_iload_n 0 O dX2_init_49 rfl ?_
      refine z_bipush 16 O dX2_init_50 (by decide +kernel) ?_
      refine z_icmp_ge 77 O dX2_init_52 (by decide) ⟨by omega, by omega⟩ ⟨by omega, by omega⟩ (fun c_52 => ?_) (fun c_52 => ?_)
      · skip
        refine z_iconst 0 O dX2_init_77 (by decide +kernel) ?_
        refine z_istore_n [(1, .int (iI 0)), (0, .ref q)] O dX2_init_78 (by decide) rfl ?_
        have loop79 : ∀ (d : Nat) (j : Nat) (H'' : Heap) (r'' : zH) (a' : Nat → Nat), (j + d = 3) → (∀ s : Nat, ¬ (t < s ∧ s < t + 64) → a' s = a s) → (zFr H r H'' r'' (fun s => t ≤ s ∧ s < t + 64)) → (zO (zEn x) H'' r'' t q 2 [.ref q4, .ref q27, .ref q56, .int (iI 1), .int (iI 0), .int (iI 0), .int (iI 0)]) → (zRow (zEn x) H'' r'' (t + 2) q4 16 16 (fun _ => 0)) → (zRow (zEn x) H'' r'' (t + 4) q27 16 16 (fun _ => -1)) → (zQr (zEn x) H'' r'' (t + 1) q56 3 3 (fun i => if i < (j : Int) then some (a' (t + 6 + 16 * i.toNat)) else none)) → (zAwp (zEn x) H'' r'' a' t j) → zG x H'' (5 + 15 * j) (41 + 111 * j) 79 [(1, .int (iI (j : Int))), (0, .ref q)] [] := by
          intro d
          induction d with
          | zero =>
            intro j H'' r'' a' hjd hat hf'' z0' z1' z2' z3' zA'
            refine z_iload_n 0 O dX2_init_79 rfl ?_
            refine z_aload_n 1 O dX2_init_80 rfl ?_
            refine z_getf kF_X2_25 O dX2_init_81 z0'.1 rfl ?_
            refine z_alenR (by decide) O dX2_init_84 z3'.1 ?_
            refine z_icmp_ge 108 O dX2_init_85 (by decide) ⟨by omega, by omega⟩ ⟨by omega, by omega⟩ (fun c_85 => ?_) (fun c_85 => ?_)
            · skip
              obtain ⟨a8, ha8⟩ : ∃ z, z = (fun s => if s = t + 1 then q56 else if s = t + 2 then q4 else if s = t + 4 then q27 else a' s) := ⟨_, rfl⟩
              have h1 : a8 (t + 1) = q56 := by rw [ha8]; exact if_pos rfl
              have h2 : a8 (t + 2) = q4 := by rw [ha8]; dsimp only; rw [if_neg (by omega), if_pos rfl]
              have h4 : a8 (t + 4) = q27 := by rw [ha8]; dsimp only; rw [if_neg (by omega), if_neg (by omega), if_pos rfl]
              have hn8 : ∀ s, s ≠ t + 1 → s ≠ t + 2 → s ≠ t + 4 → a8 s = a' s := fun s p1 p2 p3 => by rw [ha8]; dsimp only; rw [if_neg p1, if_neg p2, if_neg p3]
              have h0 : a8 t = q := (hn8 t (by omega) (by omega) (by omega)).trans ((hat t (by omega)).trans hq)
              exact z_iretv O dX2_init_108 rfl (by omega) (by omega) hpo (⟨r'', a8, (fun s hs => (hn8 s (by omega) (by omega) (by omega)).trans (hat s hs)), (hf''.up (fun s h => by first | exact h.elim | omega | (simp at h ⊢; omega))), ⟨(by rw [h0, h1, h2, h4]; exact z0'), (by rw [h1]; exact ⟨z3'.1.to (fun i i0 i1 => by rw [if_pos (by omega), hn8 _ (by omega) (by omega) (by omega)]), z3'.2⟩), (by rw [h2]; exact z1'.to (fun c c0 c1 => (sClean_v (by omega)).symm)), (by rw [h4]; exact z2'.to (fun c c0 c1 => by rw [sClean_v (by omega)]; rfl)), fun v hv => (zA' v (by omega)).a (fun s p1 p2 => hn8 s (by omega) (by omega) (by omega))⟩⟩)
            · exfalso; omega
          | succ d ih =>
            intro j H'' r'' a' hjd hat hf'' z0' z1' z2' z3' zA'
            refine z_iload_n 0 O dX2_init_79 rfl ?_
            refine z_aload_n 1 O dX2_init_80 rfl ?_
            refine z_getf kF_X2_25 O dX2_init_81 z0'.1 rfl ?_
            refine z_alenR (by decide) O dX2_init_84 z3'.1 ?_
            refine z_icmp_ge 108 O dX2_init_85 (by decide) ⟨by omega, by omega⟩ ⟨by omega, by omega⟩ (fun c_85 => ?_) (fun c_85 => ?_)
            · exfalso; omega
            · skip
              refine z_aload_n 1 O dX2_init_88 rfl ?_
              refine z_getf kF_X2_25 O dX2_init_89 z0'.1 rfl ?_
              refine z_iload_n 0 O dX2_init_92 rfl ?_
              refine z_new kN_X2_23 O dX2_init_93 (by omega) (by omega) (fun H85 hO86 hN87 => ?_)
              obtain ⟨r89, er89⟩ : ∃ z, z = zTag r'' H''.size (t + 6 + 16 * j) := ⟨_, rfl⟩
              have hf90 : zFr H'' r'' H85 r89 (fun _ => False) := by rw [er89]; exact hN87.fr r'' (t + 6 + 16 * j) _
              obtain ⟨q88, eq88⟩ : ∃ z, z = H''.size := ⟨_, rfl⟩
              have q88t : r89.1 q88 = t + 6 + 16 * j := by rw [er89, eq88]; exact zTag_1
              rw [← eq88]
              have z0'91 := z0'.fr hf90 (by first | exact (fun h => h) | exact zT1 (by omega) | (show ¬ (_ ∨ _); omega) | (show ¬ (_ ∧ _); omega))
              have z1'92 := z1'.fr hf90 (by first | exact (fun h => h) | exact zT1 (by omega) | (show ¬ (_ ∨ _); omega) | (show ¬ (_ ∧ _); omega)) (by first | exact (fun h => h) | exact zT1 (by omega) | (show ¬ (_ ∨ _); omega) | (show ¬ (_ ∧ _); omega))
              have z2'93 := z2'.fr hf90 (by first | exact (fun h => h) | exact zT1 (by omega) | (show ¬ (_ ∨ _); omega) | (show ¬ (_ ∧ _); omega)) (by first | exact (fun h => h) | exact zT1 (by omega) | (show ¬ (_ ∨ _); omega) | (show ¬ (_ ∧ _); omega))
              have z3'94 := z3'.fr hf90 (by first | exact (fun h => h) | exact zT1 (by omega) | (show ¬ (_ ∨ _); omega) | (show ¬ (_ ∧ _); omega))
              have zA'95 := zA'.fr hf90 (fun s h1 h2 => by first | exact (fun h => h) | exact zT1 (by omega) | (show ¬ (_ ∨ _); omega) | (show ¬ (_ ∧ _); omega))
              have ho96 : zO (zEn x) H85 r89 (t + 6 + 16 * j) q88 4 [.int (iI 0), .null, .null, .null, .null, .null, .int (iI 0), .int (iI 0), .int (iI 0)] := ⟨by rw [eq88]; exact hO86, q88t⟩
              refine z_dup O dX2_init_96 rfl ?_
              refine z_iload_n 0 O dX2_init_97 rfl ?_
              obtain ⟨a9, ha9⟩ : ∃ z, z = (fun s => if s = t + 6 + 16 * j then q88 else a' s) := ⟨_, rfl⟩
              have hq9 : a9 (t + 6 + 16 * j) = q88 := by rw [ha9]; exact if_pos rfl
              have hn9 : ∀ s, s ≠ t + 6 + 16 * j → a9 s = a' s := fun s hs => by rw [ha9]; exact if_neg hs
              refine z_Ivm [.int (iI (j : Int))] [.ref q88, .int (iI (j : Int)), .ref q56] kM_X2_37 O dX2_init_98 (c_X4_init hst (a := a9) ho96 hq9 ⟨by omega, by omega⟩) rfl rfl (by decide) (Nat.le_of_ble_eq_true rfl) (by omega) (by omega) (Nat.le_of_ble_eq_true rfl) zNx (fun H97 hp98 hz99 => ?_)
              obtain ⟨r100, a1, hat1, hf101, hz9⟩ := hp98
              have hb9 : a1 (t + 6 + 16 * j) = q88 := (hat1 _ (by omega)).trans hq9
              have hc9 : ∀ s, ¬ (t + 6 + 16 * j ≤ s ∧ s < t + 6 + 16 * j + 16) → a1 s = a' s := fun s hs => (hat1 s (by omega)).trans (hn9 s (by omega))
              have z0'102 := z0'91.fr hf101 (by first | exact (fun h => h) | exact zT1 (by omega) | (show ¬ (_ ∨ _); omega) | (show ¬ (_ ∧ _); omega))
              have z1'103 := z1'92.fr hf101 (by first | exact (fun h => h) | exact zT1 (by omega) | (show ¬ (_ ∨ _); omega) | (show ¬ (_ ∧ _); omega)) (by first | exact (fun h => h) | exact zT1 (by omega) | (show ¬ (_ ∨ _); omega) | (show ¬ (_ ∧ _); omega))
              have z2'104 := z2'93.fr hf101 (by first | exact (fun h => h) | exact zT1 (by omega) | (show ¬ (_ ∨ _); omega) | (show ¬ (_ ∧ _); omega)) (by first | exact (fun h => h) | exact zT1 (by omega) | (show ¬ (_ ∨ _); omega) | (show ¬ (_ ∧ _); omega))
              have z3'105 := z3'94.fr hf101 (by first | exact (fun h => h) | exact zT1 (by omega) | (show ¬ (_ ∨ _); omega) | (show ¬ (_ ∧ _); omega))
              have zA'106 := zA'95.fr hf101 (fun s h1 h2 => by first | exact (fun h => h) | exact zT1 (by omega) | (show ¬ (_ ∨ _); omega) | (show ¬ (_ ∧ _); omega))
              obtain ⟨_, _, _, _, hO9, _⟩ := id hz9
              rw [hb9] at hO9
              refine z_aast (by unfold zTC; decide) O dX2_init_101 z3'105.1 hO9.1 ⟨by omega, by omega⟩ (by omega) (by omega) (fun H107 hQ108 hC109 => ?_)
              have hf110 := z3'105.ch hC109
              have hq111 : zQr (zEn x) H107 r100 (t + 1) q56 3 3 (zUr (fun i => if i < (j : Int) then some (a' (t + 6 + 16 * i.toNat)) else none) (j : Int) (some q88)) := ⟨hQ108, z3'105.2⟩
              have z0'112 := z0'102.fr hf110 (by first | exact (fun h => h) | exact zT1 (by omega) | (show ¬ (_ ∨ _); omega) | (show ¬ (_ ∧ _); omega))
              have z1'113 := z1'103.fr hf110 (by first | exact (fun h => h) | exact zT1 (by omega) | (show ¬ (_ ∨ _); omega) | (show ¬ (_ ∧ _); omega)) (by first | exact (fun h => h) | exact zT1 (by omega) | (show ¬ (_ ∨ _); omega) | (show ¬ (_ ∧ _); omega))
              have z2'114 := z2'104.fr hf110 (by first | exact (fun h => h) | exact zT1 (by omega) | (show ¬ (_ ∨ _); omega) | (show ¬ (_ ∧ _); omega)) (by first | exact (fun h => h) | exact zT1 (by omega) | (show ¬ (_ ∨ _); omega) | (show ¬ (_ ∧ _); omega))
              have zA'115 := zA'106.fr hf110 (fun s h1 h2 => by first | exact (fun h => h) | exact zT1 (by omega) | (show ¬ (_ ∨ _); omega) | (show ¬ (_ ∧ _); omega))
              have hO116 := hO9.fr hf110 (by first | exact (fun h => h) | exact zT1 (by omega) | (show ¬ (_ ∨ _); omega) | (show ¬ (_ ∧ _); omega))
              have hz117 := hz9.fr hf110 (fun s h1 h2 => by first | exact (fun h => h) | exact zT1 (by omega) | (show ¬ (_ ∨ _); omega) | (show ¬ (_ ∧ _); omega))
              refine z_iinc 0 [(1, .int (iI ((j : Int) + 1))), (0, .ref q)] O dX2_init_102 (by decide) rfl rfl ?_
              refine z_goto 79 O dX2_init_105 (by decide) ?_
              have hA9 : zAwp (zEn x) H107 r100 a1 t (j + 1) := fun v hv => by
                by_cases y : v = j
                · subst y; exact hz117
                · exact (zA'115 v (by omega)).a (fun s p1 p2 => hc9 s (by omega))
              have hQ9 : zQr (zEn x) H107 r100 (t + 1) q56 3 3 (fun i => if i < ((j + 1 : Nat) : Int) then some (a1 (t + 6 + 16 * i.toNat)) else none) := ⟨hq111.1.to (fun i i0 i1 => by unfold zUr; by_cases y : i = (j : Int); (· rw [if_pos y, if_pos (by omega), show t + 6 + 16 * i.toNat = t + 6 + 16 * j by omega, hb9]); (· rw [if_neg y]; dsimp only; by_cases y2 : i < (j : Int); (· rw [if_pos y2, if_pos (by omega), hc9 _ (by omega)]); (· rw [if_neg y2, if_neg (by omega)]))), hq111.2⟩
              refine z_widen (k := 5 + 15 * (j + 1)) (n := 41 + 111 * (j + 1)) (by omega) (by omega) ?_
              exact ih (j + 1) H107 r100 a1 (by omega) (fun s hs => (hc9 s (by omega)).trans (hat s hs)) (((((((hf''.up (fun s h => by first | exact h.elim | omega | (simp at h ⊢; omega)))).tr (hf90.up (fun s h => by first | exact h.elim | omega | (simp at h ⊢; omega))))).tr (hf101.up (fun s h => by first | exact h.elim | omega | (simp at h ⊢; omega))))).tr (hf110.up (fun s h => by first | exact h.elim | omega | (simp at h ⊢; omega)))) z0'112 z1'113 z2'114 hQ9 hA9
        refine z_widen (k := 5 + 15 * 0) (n := 41 + 111 * 0) (by omega) (by omega) ?_
        exact loop79 3 0 H' r' a (by omega) (fun s hs => rfl) (hf'.up (fun s h => by first | exact h.elim | omega | (simp at h ⊢; omega))) y0' (by rw [show (16 : Int) = i by omega]; exact y1') (by rw [show (16 : Int) = i by omega]; exact y2') ⟨y3'.1.to (fun i i0 i1 => (if_neg (by omega)).symm), y3'.2⟩ (fun v hv => by omega)
      · exfalso; omega
    | succ d ih =>
      intro i H' r' hi0 hid hf' hc3 hc5 y0' y1' y2' y3'
      refine z_iload_n 0 O dX2_init_49 rfl ?_
      refine z_bipush 16 O dX2_init_50 (by decide +kernel) ?_
      refine z_icmp_ge 77 O dX2_init_52 (by decide) ⟨by omega, by omega⟩ ⟨by omega, by omega⟩ (fun c_52 => ?_) (fun c_52 => ?_)
      · exfalso; omega
      · skip
        refine z_aload_n 1 O dX2_init_55 rfl ?_
        refine z_getf kF_X2_14 O dX2_init_56 y0'.1 rfl ?_
        refine z_iconst 0 O dX2_init_59 (by decide +kernel) ?_
        obtain ⟨it118, hRo119⟩ := y1'.o
        have hcap120 := y1'.cap
        have hrn122 := y1'.n
        have hpc121 := zPc_R (n := i) hcap120.1 hrn122.1
        refine z_Vvm [.int (iI 0)] [] kM_X2_33 O dX2_init_60 (c_X1_push hst y1' (by omega) (Or.inr (by decide))) rfl rfl hRo119.1 (by decide) (Nat.le_of_ble_eq_true rfl) (by omega) (by omega) (Nat.le_of_ble_eq_true rfl) zNx (fun H123 hp124 hz125 => ?_)
        obtain ⟨r126, hf127, hr128, hc129⟩ := hp124
        have y0'130 := y0'.fr hf127 (by first | exact (fun h => h) | exact zT1 (by omega) | (show ¬ (_ ∨ _); omega) | (show ¬ (_ ∧ _); omega))
        have y2'131 := y2'.fr hf127 (by first | exact (fun h => h) | exact zT1 (by omega) | (show ¬ (_ ∨ _); omega) | (show ¬ (_ ∧ _); omega)) (by first | exact (fun h => h) | exact zT1 (by omega) | (show ¬ (_ ∨ _); omega) | (show ¬ (_ ∧ _); omega))
        have y3'132 := y3'.fr hf127 (by first | exact (fun h => h) | exact zT1 (by omega) | (show ¬ (_ ∨ _); omega) | (show ¬ (_ ∧ _); omega))
        refine z_aload_n 1 O dX2_init_63 rfl ?_
        refine z_getf kF_X2_20 O dX2_init_64 y0'130.1 rfl ?_
        refine z_iconst (-1) O dX2_init_67 (by decide +kernel) ?_
        obtain ⟨it133, hRo134⟩ := y2'131.o
        have hcap135 := y2'131.cap
        have hrn137 := y2'131.n
        have hpc136 := zPc_R (n := i) hcap135.1 hrn137.1
        refine z_Vvm [.int (iI (-1))] [] kM_X2_33 O dX2_init_68 (c_X1_push hst y2'131 (by omega) (Or.inr (by decide))) rfl rfl hRo134.1 (by decide) (Nat.le_of_ble_eq_true rfl) (by omega) (by omega) (Nat.le_of_ble_eq_true rfl) zNx (fun H138 hp139 hz140 => ?_)
        obtain ⟨r141, hf142, hr143, hc144⟩ := hp139
        have y0'145 := y0'130.fr hf142 (by first | exact (fun h => h) | exact zT1 (by omega) | (show ¬ (_ ∨ _); omega) | (show ¬ (_ ∧ _); omega))
        have hr146 := hr128.fr hf142 (by first | exact (fun h => h) | exact zT1 (by omega) | (show ¬ (_ ∨ _); omega) | (show ¬ (_ ∧ _); omega)) (by first | exact (fun h => h) | exact zT1 (by omega) | (show ¬ (_ ∨ _); omega) | (show ¬ (_ ∧ _); omega))
        have y3'147 := y3'132.fr hf142 (by first | exact (fun h => h) | exact zT1 (by omega) | (show ¬ (_ ∨ _); omega) | (show ¬ (_ ∧ _); omega))
        refine z_iinc 0 [(1, .int (iI (i + 1))), (0, .ref q)] O dX2_init_71 (by decide) rfl rfl ?_
        refine z_goto 49 O dX2_init_74 (by decide) ?_
        have e1 : zPc (r'.2 (t + 2 + 1)) 16 i = 16 := by rw [zPc_s (by omega)]; exact hc3
        have e0 : r126.2 (t + 4 + 1) = 16 := (zCap_ne hc129 (by omega)).trans hc5
        have e2 : zPc (r126.2 (t + 4 + 1)) 16 i = 16 := by rw [zPc_s (by omega)]; exact e0
        refine z_widen (k := 5) (n := 41) (by omega) (by omega) ?_
        exact ih (i + 1) H138 r141 (by omega) (by omega) (((((hf'.up (fun s h => by first | exact h.elim | omega | (simp at h ⊢; omega)))).tr (hf127.up (fun s h => by first | exact h.elim | omega | (simp at h ⊢; omega))))).tr (hf142.up (fun s h => by first | exact h.elim | omega | (simp at h ⊢; omega)))) ((zCap_ne hc144 (by omega)).trans ((zCap_at hc129).trans e1)) ((zCap_at hc144).trans e2) y0'145 (hr146.to (fun c c0 c1 => by unfold zU; split <;> rfl)) (hr143.to (fun c c0 c1 => by unfold zU; split <;> rfl)) y3'147
  refine z_widen (k := 5) (n := 41) (by omega) (by omega) ?_
  exact loop49 16 0 H75 r57 (by omega) (by omega) (((((((((((((((((hf6.up (fun s h => by first | exact h.elim | omega | (simp at h ⊢; omega)))).tr (hf13.up (fun s h => by first | exact h.elim | omega | (simp at h ⊢; omega))))).tr (hf20.up (fun s h => by first | exact h.elim | omega | (simp at h ⊢; omega))))).tr (hf29.up (fun s h => by first | exact h.elim | omega | (simp at h ⊢; omega))))).tr (hf38.up (fun s h => by first | exact h.elim | omega | (simp at h ⊢; omega))))).tr (hf47.up (fun s h => by first | exact h.elim | omega | (simp at h ⊢; omega))))).tr (hf58.up (fun s h => by first | exact h.elim | omega | (simp at h ⊢; omega))))).tr (hf68.up (fun s h => by first | exact h.elim | omega | (simp at h ⊢; omega))))).tr (hf78.up (fun s h => by first | exact h.elim | omega | (simp at h ⊢; omega)))) hk83 hk84 ho79 hr80 (hr81.to (fun c c0 c1 => by omega)) hq82

