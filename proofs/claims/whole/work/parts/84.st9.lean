/-! the class: states are copied, made; the oldest value (written by program: wip/whole/gen/class12.py) -/
/-- other addresses, the same -/
theorem zWkr.a {E : zE} {H : Heap} {r : zH} {a a1 : Nat → Nat} {t : Nat} {w : Int} {G : Int → Int} (h : zWkr E H r a t w G) (e : ∀ s : Nat, t ≤ s → s < t + 16 → a1 s = a s) : zWkr E H r a1 t w G := by
  obtain ⟨np, f1, f2, V, h1, h2, h3, h4, h5, h6, h7, h8⟩ := h
  refine ⟨np, f1, f2, V, ?_, ⟨?_, ?_⟩, ?_, ?_, ?_, ?_, fun i hi => ?_, h8⟩
  · rw [e t (by omega) (by omega), e _ (show t ≤ t + 1 by omega) (by omega), e _ (show t ≤ t + 2 by omega) (by omega), e _ (show t ≤ t + 4 by omega) (by omega), e _ (show t ≤ t + 6 by omega) (by omega), e _ (show t ≤ t + 8 by omega) (by omega)]; exact h1
  · rw [e _ (show t ≤ t + 1 by omega) (by omega)]; exact h2.1.to (fun i i0 i1 => by rw [e _ (by omega) (by omega)])
  · rw [e _ (show t ≤ t + 1 by omega) (by omega)]; exact h2.2
  · rw [e _ (by omega) (by omega)]; exact h3
  · rw [e _ (by omega) (by omega)]; exact h4
  · rw [e _ (by omega) (by omega)]; exact h5
  · rw [e _ (by omega) (by omega)]; exact h6
  · rw [e _ (by omega) (by omega)]; exact h7 i hi
theorem zSt.a {E : zE} {H : Heap} {r : zH} {a a1 : Nat → Nat} {t : Nat} {G : Int → Int} (h : zSt E H r a t G) (e : ∀ s : Nat, t ≤ s → s < t + 54 → a1 s = a s) : zSt E H r a1 t G := by
  obtain ⟨h1, h2, h3, h4, h5⟩ := h
  refine ⟨?_, ⟨?_, ?_⟩, ?_, ?_, fun v hv => (h5 v hv).a (fun s p q => e s (by omega) (by omega))⟩
  · rw [e t (by omega) (by omega), e _ (show t ≤ t + 1 by omega) (by omega), e _ (show t ≤ t + 2 by omega) (by omega), e _ (show t ≤ t + 4 by omega) (by omega)]; exact h1
  · rw [e _ (show t ≤ t + 1 by omega) (by omega)]; exact h2.1.to (fun i i0 i1 => by rw [e _ (by omega) (by omega)])
  · rw [e _ (show t ≤ t + 1 by omega) (by omega)]; exact h2.2
  · rw [e _ (by omega) (by omega)]; exact h3
  · rw [e _ (by omega) (by omega)]; exact h4
/-- the first n workers -/
def zAwp (E : zE) (H : Heap) (r : zH) (a : Nat → Nat) (t n : Nat) : Prop := ∀ v : Nat, v < n → zWkr E H r a (t + 6 + 16 * v) v sClean
theorem zAwp.fr {E : zE} {H H1 : Heap} {r r1 : zH} {a : Nat → Nat} {t n : Nat} {T : Nat → Prop} (h : zAwp E H r a t n) (f : zFr H r H1 r1 T) (m : ∀ s, t + 6 ≤ s → s < t + 6 + 16 * n → ¬ T s) : zAwp E H1 r1 a t n :=
  fun v hv => (h v hv).fr f (fun s p q => m s (by omega) (by omega))
theorem c_X2_copyFrom {E : zE} (hst : E.1.stackTraces = false) {H : Heap} {r : zH} {a : Nat → Nat} {t t2 : Nat} {G G2 : Int → Int} {N : Int} (h : zSt E H r a t G) (h2 : zSt E H r a t2 G2) (hG2 : sW G2 N) (hdd : t + 64 ≤ t2 ∨ t2 + 64 ≤ t) : zC E yX2_copyFrom cX2_copyFrom 5 none 3 93 [.ref (a t), .ref (a t2)] H 14 6296 (zRv (fun H1 => ∃ r1, zFr H r H1 r1 (fun s => t ≤ s ∧ s < t + 64) ∧ zSt E H1 r1 a t G2 ∧ ∀ s, r.2 s ≤ r1.2 s)) zN := by
  refine zC.of (by decide) (Nat.le_of_ble_eq_true rfl) hst ?_
  intro x O hE hpo hpx
  subst hE
  change zG x H 0 0 0 [(0, .ref (a t)), (1, .ref (a t2))] []
  obtain ⟨sO, sQ, sV, sL, sWs⟩ := id h
  obtain ⟨yO, yQ, yV, yL, yWs⟩ := id h2
  have sWs : zAw (zEn x) H r a t (fun _ => G) := sWs
  have yWs : zAw (zEn x) H r a t2 (fun _ => G2) := yWs
  refine z_aload_n 0 O dX2_copyFrom_0 rfl ?_
  refine z_getf kF_X2_14 O dX2_copyFrom_1 sO.1 rfl ?_
  refine z_aload_n 1 O dX2_copyFrom_4 rfl ?_
  refine z_getf kF_X2_14 O dX2_copyFrom_5 yO.1 rfl ?_
  obtain ⟨it1, hRo2⟩ := sV.o
  refine z_Vvm [.ref (a (t2 + 2))] [] kM_X2_58 O dX2_copyFrom_8 (c_X1_copyFrom hst sV yV ⟨by omega, by omega, by omega⟩) rfl rfl hRo2.1 (by decide) (Nat.le_of_ble_eq_true rfl) (by omega) (by omega) (Nat.le_of_ble_eq_true rfl) zNx (fun H3 hp4 hz5 => ?_)
  obtain ⟨r6, hf7, hr8, m9, hm10, hc11⟩ := hp4
  have hle12 := zCap_le hm10 hc11
  have sO13 := sO.fr hf7 (by first | exact (fun h => h) | exact zT1 (by omega) | (show ¬ (_ ∨ _); omega) | (show ¬ (_ ∧ _); omega))
  have sQ14 := sQ.fr hf7 (by first | exact (fun h => h) | exact zT1 (by omega) | (show ¬ (_ ∨ _); omega) | (show ¬ (_ ∧ _); omega))
  have sL15 := sL.fr hf7 (by first | exact (fun h => h) | exact zT1 (by omega) | (show ¬ (_ ∨ _); omega) | (show ¬ (_ ∧ _); omega)) (by first | exact (fun h => h) | exact zT1 (by omega) | (show ¬ (_ ∨ _); omega) | (show ¬ (_ ∧ _); omega))
  have sWs16 := sWs.fr hf7 (fun s h1 h2 => by first | exact (fun h => h) | exact zT1 (by omega) | (show ¬ (_ ∨ _); omega) | (show ¬ (_ ∧ _); omega))
  have yO17 := yO.fr hf7 (by first | exact (fun h => h) | exact zT1 (by omega) | (show ¬ (_ ∨ _); omega) | (show ¬ (_ ∧ _); omega))
  have yQ18 := yQ.fr hf7 (by first | exact (fun h => h) | exact zT1 (by omega) | (show ¬ (_ ∨ _); omega) | (show ¬ (_ ∧ _); omega))
  have yV19 := yV.fr hf7 (by first | exact (fun h => h) | exact zT1 (by omega) | (show ¬ (_ ∨ _); omega) | (show ¬ (_ ∧ _); omega)) (by first | exact (fun h => h) | exact zT1 (by omega) | (show ¬ (_ ∨ _); omega) | (show ¬ (_ ∧ _); omega))
  have yL20 := yL.fr hf7 (by first | exact (fun h => h) | exact zT1 (by omega) | (show ¬ (_ ∨ _); omega) | (show ¬ (_ ∧ _); omega)) (by first | exact (fun h => h) | exact zT1 (by omega) | (show ¬ (_ ∨ _); omega) | (show ¬ (_ ∧ _); omega))
  have yWs21 := yWs.fr hf7 (fun s h1 h2 => by first | exact (fun h => h) | exact zT1 (by omega) | (show ¬ (_ ∨ _); omega) | (show ¬ (_ ∧ _); omega))
  refine z_aload_n 0 O dX2_copyFrom_11 rfl ?_
  refine z_getf kF_X2_20 O dX2_copyFrom_12 sO13.1 rfl ?_
  refine z_aload_n 1 O dX2_copyFrom_15 rfl ?_
  refine z_getf kF_X2_20 O dX2_copyFrom_16 yO17.1 rfl ?_
  obtain ⟨it22, hRo23⟩ := sL15.o
  refine z_Vvm [.ref (a (t2 + 4))] [] kM_X2_58 O dX2_copyFrom_19 (c_X1_copyFrom hst sL15 yL20 ⟨by omega, by omega, by omega⟩) rfl rfl hRo23.1 (by decide) (Nat.le_of_ble_eq_true rfl) (by omega) (by omega) (Nat.le_of_ble_eq_true rfl) zNx (fun H24 hp25 hz26 => ?_)
  obtain ⟨r27, hf28, hr29, m30, hm31, hc32⟩ := hp25
  have hle33 := zCap_le hm31 hc32
  have sO34 := sO13.fr hf28 (by first | exact (fun h => h) | exact zT1 (by omega) | (show ¬ (_ ∨ _); omega) | (show ¬ (_ ∧ _); omega))
  have sQ35 := sQ14.fr hf28 (by first | exact (fun h => h) | exact zT1 (by omega) | (show ¬ (_ ∨ _); omega) | (show ¬ (_ ∧ _); omega))
  have hr36 := hr8.fr hf28 (by first | exact (fun h => h) | exact zT1 (by omega) | (show ¬ (_ ∨ _); omega) | (show ¬ (_ ∧ _); omega)) (by first | exact (fun h => h) | exact zT1 (by omega) | (show ¬ (_ ∨ _); omega) | (show ¬ (_ ∧ _); omega))
  have sWs37 := sWs16.fr hf28 (fun s h1 h2 => by first | exact (fun h => h) | exact zT1 (by omega) | (show ¬ (_ ∨ _); omega) | (show ¬ (_ ∧ _); omega))
  have yO38 := yO17.fr hf28 (by first | exact (fun h => h) | exact zT1 (by omega) | (show ¬ (_ ∨ _); omega) | (show ¬ (_ ∧ _); omega))
  have yQ39 := yQ18.fr hf28 (by first | exact (fun h => h) | exact zT1 (by omega) | (show ¬ (_ ∨ _); omega) | (show ¬ (_ ∧ _); omega))
  have yV40 := yV19.fr hf28 (by first | exact (fun h => h) | exact zT1 (by omega) | (show ¬ (_ ∨ _); omega) | (show ¬ (_ ∧ _); omega)) (by first | exact (fun h => h) | exact zT1 (by omega) | (show ¬ (_ ∨ _); omega) | (show ¬ (_ ∧ _); omega))
  have yL41 := yL20.fr hf28 (by first | exact (fun h => h) | exact zT1 (by omega) | (show ¬ (_ ∨ _); omega) | (show ¬ (_ ∧ _); omega)) (by first | exact (fun h => h) | exact zT1 (by omega) | (show ¬ (_ ∨ _); omega) | (show ¬ (_ ∧ _); omega))
  have yWs42 := yWs21.fr hf28 (fun s h1 h2 => by first | exact (fun h => h) | exact zT1 (by omega) | (show ¬ (_ ∨ _); omega) | (show ¬ (_ ∧ _); omega))
  refine z_iconst 0 O dX2_copyFrom_22 (by decide +kernel) ?_
  refine z_istore_n [(2, .int (iI 0)), (0, .ref (a t)), (1, .ref (a t2))] O dX2_copyFrom_23 (by decide) rfl ?_
  have loop24 : ∀ (d : Nat) (j : Int) (H' : Heap) (r' : zH), (0 ≤ j) → (j + (d : Int) = 3) → (zFr H r H' r' (fun s => t ≤ s ∧ s < t + 64)) → (∀ s : Nat, r.2 s ≤ r'.2 s) → (zO (zEn x) H' r' t (a t) 2 [.ref (a (t + 2)), .ref (a (t + 4)), .ref (a (t + 1)), .int (iI (G 32)), .int (iI (G 33)), .int (iI (G 34)), .int (iI (G 35))]) → (zQr (zEn x) H' r' (t + 1) (a (t + 1)) 3 3 (fun i => some (a (t + 6 + 16 * i.toNat)))) → (zRow (zEn x) H' r' (t + 2) (a (t + 2)) 16 16 G2) → (zRow (zEn x) H' r' (t + 4) (a (t + 4)) 16 16 (fun c => G2 (16 + c) - 1)) → (zAw (zEn x) H' r' a t (fun v => if (v : Int) < j then G2 else G)) → (zO (zEn x) H' r' t2 (a t2) 2 [.ref (a (t2 + 2)), .ref (a (t2 + 4)), .ref (a (t2 + 1)), .int (iI (G2 32)), .int (iI (G2 33)), .int (iI (G2 34)), .int (iI (G2 35))]) → (zQr (zEn x) H' r' (t2 + 1) (a (t2 + 1)) 3 3 (fun i => some (a (t2 + 6 + 16 * i.toNat)))) → (zRow (zEn x) H' r' (t2 + 2) (a (t2 + 2)) 16 16 G2) → (zRow (zEn x) H' r' (t2 + 4) (a (t2 + 4)) 16 16 (fun c => G2 (16 + c) - 1)) → (zAw (zEn x) H' r' a t2 (fun _ => G2)) → zG x H' (2 + 4 * j.toNat) (32 + 2088 * j.toNat) 24 [(2, .int (iI j)), (0, .ref (a t)), (1, .ref (a t2))] [] := by
    intro d
    induction d with
    | zero =>
      intro j H' r' hj0 hjd hf' hmn z0' z1' z2' z3' z4' z5' z6' z7' z8' z9'
      refine z_iload_n 0 O dX2_copyFrom_24 rfl ?_
      refine z_iconst 3 O dX2_copyFrom_25 (by decide +kernel) ?_
      refine z_icmp_ge 63 O dX2_copyFrom_26 (by decide) ⟨by omega, by omega⟩ ⟨by omega, by omega⟩ (fun c_26 => ?_) (fun c_26 => ?_)
      · skip
        refine z_aload_n 1 O dX2_copyFrom_63 rfl ?_
        refine z_aload_n 2 O dX2_copyFrom_64 rfl ?_
        refine z_getf kF_X2_29 O dX2_copyFrom_65 z5'.1 rfl ?_
        refine z_putf kP_X2_29 O (fun h => nomatch h) dX2_copyFrom_68 z0'.1 rfl rfl (Nat.le_of_ble_eq_true rfl) (fun H43 hO44 hC45 => ?_)
        have hf46 := z0'.ch hC45
        have ho47 : zO (zEn x) H43 r' t (a t) 2 [.ref (a (t + 2)), .ref (a (t + 4)), .ref (a (t + 1)), .int (iI (G2 32)), .int (iI (G 33)), .int (iI (G 34)), .int (iI (G 35))] := ⟨hO44, z0'.2⟩
        have z1'48 := z1'.fr hf46 (by first | exact (fun h => h) | exact zT1 (by omega) | (show ¬ (_ ∨ _); omega) | (show ¬ (_ ∧ _); omega))
        have z2'49 := z2'.fr hf46 (by first | exact (fun h => h) | exact zT1 (by omega) | (show ¬ (_ ∨ _); omega) | (show ¬ (_ ∧ _); omega)) (by first | exact (fun h => h) | exact zT1 (by omega) | (show ¬ (_ ∨ _); omega) | (show ¬ (_ ∧ _); omega))
        have z3'50 := z3'.fr hf46 (by first | exact (fun h => h) | exact zT1 (by omega) | (show ¬ (_ ∨ _); omega) | (show ¬ (_ ∧ _); omega)) (by first | exact (fun h => h) | exact zT1 (by omega) | (show ¬ (_ ∨ _); omega) | (show ¬ (_ ∧ _); omega))
        have z4'51 := z4'.fr hf46 (fun s h1 h2 => by first | exact (fun h => h) | exact zT1 (by omega) | (show ¬ (_ ∨ _); omega) | (show ¬ (_ ∧ _); omega))
        have z5'52 := z5'.fr hf46 (by first | exact (fun h => h) | exact zT1 (by omega) | (show ¬ (_ ∨ _); omega) | (show ¬ (_ ∧ _); omega))
        have z6'53 := z6'.fr hf46 (by first | exact (fun h => h) | exact zT1 (by omega) | (show ¬ (_ ∨ _); omega) | (show ¬ (_ ∧ _); omega))
        have z7'54 := z7'.fr hf46 (by first | exact (fun h => h) | exact zT1 (by omega) | (show ¬ (_ ∨ _); omega) | (show ¬ (_ ∧ _); omega)) (by first | exact (fun h => h) | exact zT1 (by omega) | (show ¬ (_ ∨ _); omega) | (show ¬ (_ ∧ _); omega))
        have z8'55 := z8'.fr hf46 (by first | exact (fun h => h) | exact zT1 (by omega) | (show ¬ (_ ∨ _); omega) | (show ¬ (_ ∧ _); omega)) (by first | exact (fun h => h) | exact zT1 (by omega) | (show ¬ (_ ∨ _); omega) | (show ¬ (_ ∧ _); omega))
        have z9'56 := z9'.fr hf46 (fun s h1 h2 => by first | exact (fun h => h) | exact zT1 (by omega) | (show ¬ (_ ∨ _); omega) | (show ¬ (_ ∧ _); omega))
        refine z_aload_n 1 O dX2_copyFrom_71 rfl ?_
        refine z_aload_n 2 O dX2_copyFrom_72 rfl ?_
        refine z_getf kF_X2_49 O dX2_copyFrom_73 z5'52.1 rfl ?_
        refine z_putf kP_X2_49 O (fun h => nomatch h) dX2_copyFrom_76 ho47.1 rfl rfl (Nat.le_of_ble_eq_true rfl) (fun H57 hO58 hC59 => ?_)
        have hf60 := ho47.ch hC59
        have ho61 : zO (zEn x) H57 r' t (a t) 2 [.ref (a (t + 2)), .ref (a (t + 4)), .ref (a (t + 1)), .int (iI (G2 32)), .int (iI (G2 33)), .int (iI (G 34)), .int (iI (G 35))] := ⟨hO58, ho47.2⟩
        have z1'62 := z1'48.fr hf60 (by first | exact (fun h => h) | exact zT1 (by omega) | (show ¬ (_ ∨ _); omega) | (show ¬ (_ ∧ _); omega))
        have z2'63 := z2'49.fr hf60 (by first | exact (fun h => h) | exact zT1 (by omega) | (show ¬ (_ ∨ _); omega) | (show ¬ (_ ∧ _); omega)) (by first | exact (fun h => h) | exact zT1 (by omega) | (show ¬ (_ ∨ _); omega) | (show ¬ (_ ∧ _); omega))
        have z3'64 := z3'50.fr hf60 (by first | exact (fun h => h) | exact zT1 (by omega) | (show ¬ (_ ∨ _); omega) | (show ¬ (_ ∧ _); omega)) (by first | exact (fun h => h) | exact zT1 (by omega) | (show ¬ (_ ∨ _); omega) | (show ¬ (_ ∧ _); omega))
        have z4'65 := z4'51.fr hf60 (fun s h1 h2 => by first | exact (fun h => h) | exact zT1 (by omega) | (show ¬ (_ ∨ _); omega) | (show ¬ (_ ∧ _); omega))
        have z5'66 := z5'52.fr hf60 (by first | exact (fun h => h) | exact zT1 (by omega) | (show ¬ (_ ∨ _); omega) | (show ¬ (_ ∧ _); omega))
        have z6'67 := z6'53.fr hf60 (by first | exact (fun h => h) | exact zT1 (by omega) | (show ¬ (_ ∨ _); omega) | (show ¬ (_ ∧ _); omega))
        have z7'68 := z7'54.fr hf60 (by first | exact (fun h => h) | exact zT1 (by omega) | (show ¬ (_ ∨ _); omega) | (show ¬ (_ ∧ _); omega)) (by first | exact (fun h => h) | exact zT1 (by omega) | (show ¬ (_ ∨ _); omega) | (show ¬ (_ ∧ _); omega))
        have z8'69 := z8'55.fr hf60 (by first | exact (fun h => h) | exact zT1 (by omega) | (show ¬ (_ ∨ _); omega) | (show ¬ (_ ∧ _); omega)) (by first | exact (fun h => h) | exact zT1 (by omega) | (show ¬ (_ ∨ _); omega) | (show ¬ (_ ∧ _); omega))
        have z9'70 := z9'56.fr hf60 (fun s h1 h2 => by first | exact (fun h => h) | exact zT1 (by omega) | (show ¬ (_ ∨ _); omega) | (show ¬ (_ ∧ _); omega))
        refine z_aload_n 1 O dX2_copyFrom_79 rfl ?_
        refine z_aload_n 2 O dX2_copyFrom_80 rfl ?_
        refine z_getf kF_X2_52 O dX2_copyFrom_81 z5'66.1 rfl ?_
        refine z_putf kP_X2_52 O (fun h => nomatch h) dX2_copyFrom_84 ho61.1 rfl rfl (Nat.le_of_ble_eq_true rfl) (fun H71 hO72 hC73 => ?_)
        have hf74 := ho61.ch hC73
        have ho75 : zO (zEn x) H71 r' t (a t) 2 [.ref (a (t + 2)), .ref (a (t + 4)), .ref (a (t + 1)), .int (iI (G2 32)), .int (iI (G2 33)), .int (iI (G2 34)), .int (iI (G 35))] := ⟨hO72, ho61.2⟩
        have z1'76 := z1'62.fr hf74 (by first | exact (fun h => h) | exact zT1 (by omega) | (show ¬ (_ ∨ _); omega) | (show ¬ (_ ∧ _); omega))
        have z2'77 := z2'63.fr hf74 (by first | exact (fun h => h) | exact zT1 (by omega) | (show ¬ (_ ∨ _); omega) | (show ¬ (_ ∧ _); omega)) (by first | exact (fun h => h) | exact zT1 (by omega) | (show ¬ (_ ∨ _); omega) | (show ¬ (_ ∧ _); omega))
        have z3'78 := z3'64.fr hf74 (by first | exact (fun h => h) | exact zT1 (by omega) | (show ¬ (_ ∨ _); omega) | (show ¬ (_ ∧ _); omega)) (by first | exact (fun h => h) | exact zT1 (by omega) | (show ¬ (_ ∨ _); omega) | (show ¬ (_ ∧ _); omega))
        have z4'79 := z4'65.fr hf74 (fun s h1 h2 => by first | exact (fun h => h) | exact zT1 (by omega) | (show ¬ (_ ∨ _); omega) | (show ¬ (_ ∧ _); omega))
        have z5'80 := z5'66.fr hf74 (by first | exact (fun h => h) | exact zT1 (by omega) | (show ¬ (_ ∨ _); omega) | (show ¬ (_ ∧ _); omega))
        have z6'81 := z6'67.fr hf74 (by first | exact (fun h => h) | exact zT1 (by omega) | (show ¬ (_ ∨ _); omega) | (show ¬ (_ ∧ _); omega))
        have z7'82 := z7'68.fr hf74 (by first | exact (fun h => h) | exact zT1 (by omega) | (show ¬ (_ ∨ _); omega) | (show ¬ (_ ∧ _); omega)) (by first | exact (fun h => h) | exact zT1 (by omega) | (show ¬ (_ ∨ _); omega) | (show ¬ (_ ∧ _); omega))
        have z8'83 := z8'69.fr hf74 (by first | exact (fun h => h) | exact zT1 (by omega) | (show ¬ (_ ∨ _); omega) | (show ¬ (_ ∧ _); omega)) (by first | exact (fun h => h) | exact zT1 (by omega) | (show ¬ (_ ∨ _); omega) | (show ¬ (_ ∧ _); omega))
        have z9'84 := z9'70.fr hf74 (fun s h1 h2 => by first | exact (fun h => h) | exact zT1 (by omega) | (show ¬ (_ ∨ _); omega) | (show ¬ (_ ∧ _); omega))
        refine z_aload_n 1 O dX2_copyFrom_87 rfl ?_
        refine z_aload_n 2 O dX2_copyFrom_88 rfl ?_
        refine z_getf kF_X2_55 O dX2_copyFrom_89 z5'80.1 rfl ?_
        refine z_putf kP_X2_55 O (fun h => nomatch h) dX2_copyFrom_92 ho75.1 rfl rfl (Nat.le_of_ble_eq_true rfl) (fun H85 hO86 hC87 => ?_)
        have hf88 := ho75.ch hC87
        have ho89 : zO (zEn x) H85 r' t (a t) 2 [.ref (a (t + 2)), .ref (a (t + 4)), .ref (a (t + 1)), .int (iI (G2 32)), .int (iI (G2 33)), .int (iI (G2 34)), .int (iI (G2 35))] := ⟨hO86, ho75.2⟩
        have z1'90 := z1'76.fr hf88 (by first | exact (fun h => h) | exact zT1 (by omega) | (show ¬ (_ ∨ _); omega) | (show ¬ (_ ∧ _); omega))
        have z2'91 := z2'77.fr hf88 (by first | exact (fun h => h) | exact zT1 (by omega) | (show ¬ (_ ∨ _); omega) | (show ¬ (_ ∧ _); omega)) (by first | exact (fun h => h) | exact zT1 (by omega) | (show ¬ (_ ∨ _); omega) | (show ¬ (_ ∧ _); omega))
        have z3'92 := z3'78.fr hf88 (by first | exact (fun h => h) | exact zT1 (by omega) | (show ¬ (_ ∨ _); omega) | (show ¬ (_ ∧ _); omega)) (by first | exact (fun h => h) | exact zT1 (by omega) | (show ¬ (_ ∨ _); omega) | (show ¬ (_ ∧ _); omega))
        have z4'93 := z4'79.fr hf88 (fun s h1 h2 => by first | exact (fun h => h) | exact zT1 (by omega) | (show ¬ (_ ∨ _); omega) | (show ¬ (_ ∧ _); omega))
        have z5'94 := z5'80.fr hf88 (by first | exact (fun h => h) | exact zT1 (by omega) | (show ¬ (_ ∨ _); omega) | (show ¬ (_ ∧ _); omega))
        have z6'95 := z6'81.fr hf88 (by first | exact (fun h => h) | exact zT1 (by omega) | (show ¬ (_ ∨ _); omega) | (show ¬ (_ ∧ _); omega))
        have z7'96 := z7'82.fr hf88 (by first | exact (fun h => h) | exact zT1 (by omega) | (show ¬ (_ ∨ _); omega) | (show ¬ (_ ∧ _); omega)) (by first | exact (fun h => h) | exact zT1 (by omega) | (show ¬ (_ ∨ _); omega) | (show ¬ (_ ∧ _); omega))
        have z8'97 := z8'83.fr hf88 (by first | exact (fun h => h) | exact zT1 (by omega) | (show ¬ (_ ∨ _); omega) | (show ¬ (_ ∧ _); omega)) (by first | exact (fun h => h) | exact zT1 (by omega) | (show ¬ (_ ∨ _); omega) | (show ¬ (_ ∧ _); omega))
        have z9'98 := z9'84.fr hf88 (fun s h1 h2 => by first | exact (fun h => h) | exact zT1 (by omega) | (show ¬ (_ ∨ _); omega) | (show ¬ (_ ∧ _); omega))
        exact z_iretv O dX2_copyFrom_95 rfl (by omega) (by omega) hpo (⟨r', (((((((((hf'.up (fun s h => by first | exact h.elim | omega | (simp at h ⊢; omega)))).tr (hf46.up (fun s h => by first | exact h.elim | omega | (simp at h ⊢; omega))))).tr (hf60.up (fun s h => by first | exact h.elim | omega | (simp at h ⊢; omega))))).tr (hf74.up (fun s h => by first | exact h.elim | omega | (simp at h ⊢; omega))))).tr (hf88.up (fun s h => by first | exact h.elim | omega | (simp at h ⊢; omega)))), ⟨ho89, z1'90, z2'91, z3'92, fun v hv => by have k := z4'93 v hv; dsimp only at k; rw [if_pos (by omega)] at k; exact k⟩, hmn⟩)
      · exfalso; omega
    | succ d ih =>
      intro j H' r' hj0 hjd hf' hmn z0' z1' z2' z3' z4' z5' z6' z7' z8' z9'
      refine z_iload_n 0 O dX2_copyFrom_24 rfl ?_
      refine z_iconst 3 O dX2_copyFrom_25 (by decide +kernel) ?_
      refine z_icmp_ge 63 O dX2_copyFrom_26 (by decide) ⟨by omega, by omega⟩ ⟨by omega, by omega⟩ (fun c_26 => ?_) (fun c_26 => ?_)
      · exfalso; omega
      · skip
        refine z_aload_n 1 O dX2_copyFrom_29 rfl ?_
        refine z_iload_n 0 O dX2_copyFrom_30 rfl ?_
        refine z_Vr [.int (iI j)] [] kM_X2_42 O dX2_copyFrom_31 (c_X2_workerAtQ hst z0' z1' (i := j) ⟨by omega, by omega⟩) rfl rfl z0'.1 (by decide) (Nat.le_of_ble_eq_true rfl) (by omega) (by omega) (Nat.le_of_ble_eq_true rfl) zNx ?_
        refine z_astore_n [(3, .ref (a (t + 6 + 16 * j.toNat))), (2, .int (iI j)), (0, .ref (a t)), (1, .ref (a t2))] O dX2_copyFrom_34 (by decide) rfl ?_
        refine z_aload_n 3 O dX2_copyFrom_35 rfl ?_
        refine z_iload_n 1 O dX2_copyFrom_36 rfl ?_
        refine z_Vr [.int (iI j)] [] kM_X2_42 O dX2_copyFrom_37 (c_X2_workerAtQ hst z5' z6' (i := j) ⟨by omega, by omega⟩) rfl rfl z5'.1 (by decide) (Nat.le_of_ble_eq_true rfl) (by omega) (by omega) (Nat.le_of_ble_eq_true rfl) zNx ?_
        refine z_astore [(4, .ref (a (t2 + 6 + 16 * j.toNat))), (3, .ref (a (t + 6 + 16 * j.toNat))), (2, .int (iI j)), (0, .ref (a t)), (1, .ref (a t2))] O dX2_copyFrom_40 (by decide) rfl ?_
        refine z_aload_n 1 O dX2_copyFrom_42 rfl ?_
        refine z_ifnull O dX2_copyFrom_43 ?_
        refine z_aload 0 O dX2_copyFrom_46 rfl ?_
        refine z_ifnull O dX2_copyFrom_48 ?_
        refine z_aload_n 1 O dX2_copyFrom_51 rfl ?_
        refine z_aload 0 O dX2_copyFrom_52 rfl ?_
        have hk101 := z4'.at (e := j) (by omega) (by omega)
        simp only [show ¬ ((j.toNat : Int) < j) by omega, if_false] at hk101
        have hk102 := z9'.at (e := j) (by omega) (by omega)
        obtain ⟨_, _, _, _, hkO, _⟩ := id hk101
        refine z_Vvm [.ref (a (t2 + 6 + 16 * j.toNat))] [] kM_X2_62 O dX2_copyFrom_54 (c_X4_copyFrom hst hk101 hk102 hG2 ⟨by omega, by omega⟩ (by omega)) rfl rfl hkO.1 (by decide) (Nat.le_of_ble_eq_true rfl) (by omega) (by omega) (Nat.le_of_ble_eq_true rfl) zNx (fun H103 hp104 hz105 => ?_)
        obtain ⟨r106, hf107, hz108, hmo109⟩ := hp104
        have hA110 : zAw (zEn x) H103 r106 a t (fun v => if (v : Int) < j + 1 then G2 else G) := z4'.set (A1 := fun v => if (v : Int) < j + 1 then G2 else G) hf107 (by omega) (by omega) (fun s h1 h2 h3 => by (show ¬ (_ ∧ _); omega)) (by rw [if_pos (show (j.toNat : Int) < j + 1 by omega)]; exact hz108) (fun v hv hn => by by_cases y : (v : Int) < j; (· rw [if_pos y, if_pos (by omega)]); (· rw [if_neg y, if_neg (by omega)]))
        have z0'111 := z0'.fr hf107 (by first | exact (fun h => h) | exact zT1 (by omega) | (show ¬ (_ ∨ _); omega) | (show ¬ (_ ∧ _); omega))
        have z1'112 := z1'.fr hf107 (by first | exact (fun h => h) | exact zT1 (by omega) | (show ¬ (_ ∨ _); omega) | (show ¬ (_ ∧ _); omega))
        have z2'113 := z2'.fr hf107 (by first | exact (fun h => h) | exact zT1 (by omega) | (show ¬ (_ ∨ _); omega) | (show ¬ (_ ∧ _); omega)) (by first | exact (fun h => h) | exact zT1 (by omega) | (show ¬ (_ ∨ _); omega) | (show ¬ (_ ∧ _); omega))
        have z3'114 := z3'.fr hf107 (by first | exact (fun h => h) | exact zT1 (by omega) | (show ¬ (_ ∨ _); omega) | (show ¬ (_ ∧ _); omega)) (by first | exact (fun h => h) | exact zT1 (by omega) | (show ¬ (_ ∨ _); omega) | (show ¬ (_ ∧ _); omega))
        have z5'115 := z5'.fr hf107 (by first | exact (fun h => h) | exact zT1 (by omega) | (show ¬ (_ ∨ _); omega) | (show ¬ (_ ∧ _); omega))
        have z6'116 := z6'.fr hf107 (by first | exact (fun h => h) | exact zT1 (by omega) | (show ¬ (_ ∨ _); omega) | (show ¬ (_ ∧ _); omega))
        have z7'117 := z7'.fr hf107 (by first | exact (fun h => h) | exact zT1 (by omega) | (show ¬ (_ ∨ _); omega) | (show ¬ (_ ∧ _); omega)) (by first | exact (fun h => h) | exact zT1 (by omega) | (show ¬ (_ ∨ _); omega) | (show ¬ (_ ∧ _); omega))
        have z8'118 := z8'.fr hf107 (by first | exact (fun h => h) | exact zT1 (by omega) | (show ¬ (_ ∨ _); omega) | (show ¬ (_ ∧ _); omega)) (by first | exact (fun h => h) | exact zT1 (by omega) | (show ¬ (_ ∨ _); omega) | (show ¬ (_ ∧ _); omega))
        have z9'119 := z9'.fr hf107 (fun s h1 h2 => by first | exact (fun h => h) | exact zT1 (by omega) | (show ¬ (_ ∨ _); omega) | (show ¬ (_ ∧ _); omega))
        refine z_iinc 2 [(2, .int (iI (j + 1))), (4, .ref (a (t2 + 6 + 16 * j.toNat))), (3, .ref (a (t + 6 + 16 * j.toNat))), (0, .ref (a t)), (1, .ref (a t2))] O dX2_copyFrom_57 (by decide) rfl rfl ?_
        refine z_goto 24 O dX2_copyFrom_60 (by decide) ?_
        refine z_locs [0, 3, 4] rfl ?_
        refine z_widen (k := 2 + 4 * (j + 1).toNat) (n := 32 + 2088 * (j + 1).toNat) (by omega) (by omega) ?_
        exact ih (j + 1) H103 r106 (by omega) (by omega) (((hf'.up (fun s h => by first | exact h.elim | omega | (simp at h ⊢; omega)))).tr (hf107.up (fun s h => by first | exact h.elim | omega | (simp at h ⊢; omega)))) (fun s => Nat.le_trans (hmn s) (hmo109 s)) z0'111 z1'112 z2'113 z3'114 hA110 z5'115 z6'116 z7'117 z8'118 z9'119
  refine z_widen (k := 2 + 4 * (0 : Int).toNat) (n := 32 + 2088 * (0 : Int).toNat) (by omega) (by omega) ?_
  exact loop24 3 0 H24 r27 (by omega) (by omega) (((hf7.up (fun s h => by first | exact h.elim | omega | (simp at h ⊢; omega)))).tr (hf28.up (fun s h => by first | exact h.elim | omega | (simp at h ⊢; omega)))) (fun s => Nat.le_trans (hle12 s) (hle33 s)) sO34 sQ35 hr36 hr29 (fun v hv => by dsimp only; rw [if_neg (by omega)]; exact sWs37 v hv) yO38 yQ39 yV40 yL41 yWs42

theorem c_X2_oldestValue {E : zE} (hst : E.1.stackTraces = false) {H : Heap} {r : zH} {a : Nat → Nat} {t : Nat} {G : Int → Int} {N : Int} {c : Int} (h : zSt E H r a t G) (hG : sW G N) (hc : 0 ≤ c ∧ c ≤ 15) : zC E yX2_oldestValue cX2_oldestValue 5 (some .int) 1 21 [.ref (a t), .int (iI c)] H 0 0 (zRi (sOl G c) (zSm H)) zN := by
  refine zC.of (by decide) (Nat.le_of_ble_eq_true rfl) hst ?_
  intro x O hE hpo hpx
  subst hE
  change zG x H 0 0 0 [(0, .ref (a t)), (1, .int (iI c))] []
  obtain ⟨sO, sQ, sV, sL, sWs⟩ := id h
  have hlk := hG.2.2.1 c (by omega) (by omega)
  refine z_aload_n 0 O dX2_oldestValue_0 rfl ?_
  refine z_aload_n 0 O dX2_oldestValue_1 rfl ?_
  refine z_getf kF_X2_20 O dX2_oldestValue_2 sO.1 rfl ?_
  refine z_iload_n 1 O dX2_oldestValue_5 rfl ?_
  obtain ⟨it1, hRo2⟩ := sL.o
  refine z_Vi [.int (iI c)] [.ref (a t)] kM_X2_65 O dX2_oldestValue_6 (c_X1_get hst sL ⟨by omega, by omega⟩) rfl rfl hRo2.1 (by decide) (Nat.le_of_ble_eq_true rfl) (by omega) (by omega) (Nat.le_of_ble_eq_true rfl) zNx ?_
  rw [show zRg 16 (fun c => G (16 + c) - 1) c = G (16 + c) - 1 from (by unfold zRg; exact if_pos ⟨by omega, by omega⟩)]
  by_cases hd3 : 0 ≤ G (16 + c) - 1 ∧ G (16 + c) - 1 < 3
  · skip
    refine z_Vr [.int (iI (G (16 + c) - 1))] [] kM_X2_42 O dX2_oldestValue_9 (by have c := c_X2_workerAt hst h hG ⟨by omega, by omega⟩ (i := G (16 + c) - 1); rw [if_pos hd3] at c; exact c) rfl rfl sO.1 (by decide) (Nat.le_of_ble_eq_true rfl) (by omega) (by omega) (Nat.le_of_ble_eq_true rfl) zNx ?_
    refine z_astore_n [(2, .ref (a (t + 6 + 16 * (G (16 + c) - 1).toNat))), (0, .ref (a t)), (1, .int (iI c))] O dX2_oldestValue_12 (by decide) rfl ?_
    refine z_aload_n 0 O dX2_oldestValue_13 rfl ?_
    refine z_ifnonnull 26 O dX2_oldestValue_14 (by decide) ?_
    have hw : 0 ≤ G (16 + c) - 1 ∧ G (16 + c) - 1 ≤ 2 := by omega
    obtain ⟨hWk, hOt⟩ := zSt_w sWs hw
    obtain ⟨np, f1, f2, V, hO, hQ, hLg, hRg, hPL, hPR, hWs, hRl⟩ := id hWk
    have hl := hG.l hw
    refine z_iconst 0 O dX2_oldestValue_26 (by decide +kernel) ?_
    refine z_istore_n [(3, .int (iI 0)), (2, .ref (a (t + 6 + 16 * (G (16 + c) - 1).toNat))), (0, .ref (a t)), (1, .int (iI c))] O dX2_oldestValue_27 (by decide) rfl ?_
    have loop : ∀ (d : Nat) (k : Int), 0 ≤ k → k + (d : Int) = G (at_ (G (16 + c) - 1) 1) → (∀ j : Int, 0 ≤ j → j < k → G (at_ (G (16 + c) - 1) (70 + j)) / 100 ≠ c) → zG x H 0 0 28 [(3, .int (iI k)), (0, .ref (a t)), (1, .int (iI c)), (2, .ref (a (t + 6 + 16 * (G (16 + c) - 1).toNat)))] [] := by
      intro d
      induction d with
      | zero =>
        intro k hk0 hkd hnf
        refine z_iload_n 0 O dX2_oldestValue_28 rfl ?_
        refine z_aload_n 3 O dX2_oldestValue_29 rfl ?_
        refine z_getf kF_X2_72 O dX2_oldestValue_30 hO.1 rfl ?_
        obtain ⟨it4, hRo5⟩ := hLg.o
        refine z_getf kF_X2_75 O dX2_oldestValue_33 hRo5.1 rfl ?_
        refine z_icmp_ge 70 O dX2_oldestValue_36 (by decide) ⟨by omega, by omega⟩ ⟨by omega, by omega⟩ (fun c_36 => ?_) (fun c_36 => ?_)
        · skip
          refine z_aload_n 1 O dX2_oldestValue_70 rfl ?_
          refine z_getf kF_X2_14 O dX2_oldestValue_71 sO.1 rfl ?_
          refine z_iload_n 2 O dX2_oldestValue_74 rfl ?_
          obtain ⟨it6, hRo7⟩ := sV.o
          refine z_Vi [.int (iI c)] [] kM_X2_65 O dX2_oldestValue_75 (c_X1_get hst sV ⟨by omega, by omega⟩) rfl rfl hRo7.1 (by decide) (Nat.le_of_ble_eq_true rfl) (by omega) (by omega) (Nat.le_of_ble_eq_true rfl) zNx ?_
          rw [show zRg 16 G c = G c from (by unfold zRg; exact if_pos ⟨by omega, by omega⟩)]
          exact z_ireti O dX2_oldestValue_78 rfl (by omega) (by omega) hpo (by unfold sOl; rw [if_pos (show 0 ≤ G (16 + c) - 1 by omega)]; exact (sOd_none (G (at_ (G (16 + c) - 1) 1)).toNat (fun j j0 j1 => hnf j j0 (by omega))).symm) (rfl)
        · exfalso; omega
      | succ d ih =>
        intro k hk0 hkd hnf
        refine z_iload_n 0 O dX2_oldestValue_28 rfl ?_
        refine z_aload_n 3 O dX2_oldestValue_29 rfl ?_
        refine z_getf kF_X2_72 O dX2_oldestValue_30 hO.1 rfl ?_
        obtain ⟨it8, hRo9⟩ := hLg.o
        refine z_getf kF_X2_75 O dX2_oldestValue_33 hRo9.1 rfl ?_
        refine z_icmp_ge 70 O dX2_oldestValue_36 (by decide) ⟨by omega, by omega⟩ ⟨by omega, by omega⟩ (fun c_36 => ?_) (fun c_36 => ?_)
        · exfalso; omega
        · skip
          refine z_aload_n 3 O dX2_oldestValue_39 rfl ?_
          refine z_getf kF_X2_72 O dX2_oldestValue_40 hO.1 rfl ?_
          refine z_iload_n 0 O dX2_oldestValue_43 rfl ?_
          obtain ⟨it10, hRo11⟩ := hLg.o
          refine z_Vi [.int (iI k)] [] kM_X2_65 O dX2_oldestValue_44 (c_X1_get hst hLg ⟨by omega, by omega⟩) rfl rfl hRo11.1 (by decide) (Nat.le_of_ble_eq_true rfl) (by omega) (by omega) (Nat.le_of_ble_eq_true rfl) zNx ?_
          rw [show zRg (G (at_ (G (16 + c) - 1) 1)) (fun k => G (at_ (G (16 + c) - 1) (70 + k))) k = G (at_ (G (16 + c) - 1) (70 + k)) from (by unfold zRg; exact if_pos ⟨by omega, by omega⟩)]
          have he := hG.e hw (k := k) (by omega) (by omega)
          refine z_istore [(4, .int (iI (G (at_ (G (16 + c) - 1) (70 + k))))), (3, .int (iI k)), (0, .ref (a t)), (1, .int (iI c)), (2, .ref (a (t + 6 + 16 * (G (16 + c) - 1).toNat)))] O dX2_oldestValue_47 (by decide) rfl ?_
          refine z_iload 0 O dX2_oldestValue_49 rfl ?_
          refine z_bipush 100 O dX2_oldestValue_51 (by decide +kernel) ?_
          refine z_idiv O dX2_oldestValue_53 ⟨by omega, by omega⟩ ⟨by omega, by omega⟩ (by omega) (by omega) ?_
          refine z_iload_n 3 O dX2_oldestValue_54 rfl ?_
          refine z_icmp_ne 64 O dX2_oldestValue_55 (by decide) ⟨by omega, by omega⟩ ⟨by omega, by omega⟩ (fun c_55 => ?_) (fun c_55 => ?_)
          · skip
            refine z_iinc 1 [(3, .int (iI (k + 1))), (4, .int (iI (G (at_ (G (16 + c) - 1) (70 + k))))), (0, .ref (a t)), (1, .int (iI c)), (2, .ref (a (t + 6 + 16 * (G (16 + c) - 1).toNat)))] O dX2_oldestValue_64 (by decide) rfl rfl ?_
            refine z_goto 28 O dX2_oldestValue_67 (by decide) ?_
            refine z_locs [0, 2, 3, 4] rfl ?_
            exact ih (k + 1) (by omega) (by omega) (fun j j0 j1 => by by_cases z : j = k; (· rw [z]; omega); (· exact hnf j j0 (by omega)))
          · skip
            refine z_iload 0 O dX2_oldestValue_58 rfl ?_
            refine z_bipush 100 O dX2_oldestValue_60 (by decide +kernel) ?_
            refine z_irem O dX2_oldestValue_62 ⟨by omega, by omega⟩ ⟨by omega, by omega⟩ (by omega) (by omega) ?_
            exact z_ireti O dX2_oldestValue_63 rfl (by omega) (by omega) hpo (by unfold sOl; rw [if_pos (show 0 ≤ G (16 + c) - 1 by omega)]; exact (sOd_some (G (at_ (G (16 + c) - 1) 1)).toNat (by omega) (by omega) (by omega) hnf).symm) (rfl)
    refine z_locs [0, 2, 3, 1] rfl ?_
    exact loop (G (at_ (G (16 + c) - 1) 1)).toNat 0 (by omega) (by omega) (fun j j0 j1 => by omega)
  · skip
    refine z_Vr [.int (iI (G (16 + c) - 1))] [] kM_X2_42 O dX2_oldestValue_9 (by have c := c_X2_workerAt hst h hG ⟨by omega, by omega⟩ (i := G (16 + c) - 1); rw [if_neg hd3] at c; exact c) rfl rfl sO.1 (by decide) (Nat.le_of_ble_eq_true rfl) (by omega) (by omega) (Nat.le_of_ble_eq_true rfl) zNx ?_
    refine z_astore_nN [(2, .null), (0, .ref (a t)), (1, .int (iI c))] O dX2_oldestValue_12 (by decide) rfl ?_
    refine z_aload_nN 0 O dX2_oldestValue_13 rfl ?_
    refine z_ifnonnullN O dX2_oldestValue_14 ?_
    refine z_aload_n 1 O dX2_oldestValue_17 rfl ?_
    refine z_getf kF_X2_14 O dX2_oldestValue_18 sO.1 rfl ?_
    refine z_iload_n 2 O dX2_oldestValue_21 rfl ?_
    obtain ⟨it12, hRo13⟩ := sV.o
    refine z_Vi [.int (iI c)] [] kM_X2_65 O dX2_oldestValue_22 (c_X1_get hst sV ⟨by omega, by omega⟩) rfl rfl hRo13.1 (by decide) (Nat.le_of_ble_eq_true rfl) (by omega) (by omega) (Nat.le_of_ble_eq_true rfl) zNx ?_
    rw [show zRg 16 G c = G c from (by unfold zRg; exact if_pos ⟨by omega, by omega⟩)]
    exact z_ireti O dX2_oldestValue_25 rfl (by omega) (by omega) hpo (by unfold sOl; exact (if_neg (by omega)).symm) (rfl)

