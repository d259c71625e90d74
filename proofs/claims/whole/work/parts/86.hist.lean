/-! the class: what is remembered (written by program: wip/whole/gen/class14.py) -/
theorem c_X1_pushN {E : zE} (hst : E.1.stackTraces = false) {H : Heap} {r : zH} {t q most : Nat} {n : Int} {g : Int → Int} {v : Int} (h : zRow E H r t q most n g) (hlt : n < r.2 (t + 1)) : zC E yX1_push cX1_push 2 none 2 62 [.ref q, .int (iI v)] H 0 0 (zRv (fun H1 => zFr H r H1 r (fun s => s = t ∨ s = t + 1) ∧ zRow E H1 r t q most (n + 1) (zU g n v))) zN := by
  refine zC.of (by decide) (Nat.le_of_ble_eq_true rfl) hst ?_
  intro x O hE hpo hpx
  subst hE
  change zG x H 0 0 0 [(0, .ref q), (1, .int (iI v))] []
  obtain ⟨it, f, hO, hA, hfg, hn0, hn1, hc1, hcm, hmo⟩ := h
  refine z_aload_n 0 O dX1_push_0 rfl ?_
  refine z_getf kF_X1_23 O dX1_push_1 hO.1 rfl ?_
  refine z_if_lt 18 O dX1_push_4 (by decide) ⟨by omega, by omega⟩ (fun c_4 => ?_) (fun c_4 => ?_)
  · exfalso; omega
  · skip
    refine z_aload_n 0 O dX1_push_7 rfl ?_
    refine z_getf kF_X1_23 O dX1_push_8 hO.1 rfl ?_
    refine z_aload_n 0 O dX1_push_11 rfl ?_
    refine z_getf kF_X1_19 O dX1_push_12 hO.1 rfl ?_
    refine z_icmp_lt 19 O dX1_push_15 (by decide) ⟨by omega, by omega⟩ ⟨by omega, by omega⟩ (fun c_15 => ?_) (fun c_15 => ?_)
    · skip
      refine z_aload_n 0 O dX1_push_19 rfl ?_
      refine z_getf kF_X1_23 O dX1_push_20 hO.1 rfl ?_
      refine z_aload_n 0 O dX1_push_23 rfl ?_
      refine z_getf kF_X1_13 O dX1_push_24 hO.1 rfl ?_
      refine z_alen (by decide) O dX1_push_27 hA.1 ?_
      refine z_icmp_lt 57 O dX1_push_28 (by decide) ⟨by omega, by omega⟩ ⟨by omega, by omega⟩ (fun c_28 => ?_) (fun c_28 => ?_)
      · skip
        refine z_aload_n 0 O dX1_push_57 rfl ?_
        refine z_getf kF_X1_23 O dX1_push_58 hO.1 rfl ?_
        refine z_aload_n 0 O dX1_push_61 rfl ?_
        refine z_getf kF_X1_13 O dX1_push_62 hO.1 rfl ?_
        refine z_alen (by decide) O dX1_push_65 hA.1 ?_
        refine z_icmp_ge 89 O dX1_push_66 (by decide) ⟨by omega, by omega⟩ ⟨by omega, by omega⟩ (fun c_66 => ?_) (fun c_66 => ?_)
        · exfalso; omega
        · skip
          refine z_aload_n 0 O dX1_push_69 rfl ?_
          refine z_getf kF_X1_13 O dX1_push_70 hO.1 rfl ?_
          refine z_aload_n 0 O dX1_push_73 rfl ?_
          refine z_getf kF_X1_23 O dX1_push_74 hO.1 rfl ?_
          refine z_iload_n 1 O dX1_push_77 rfl ?_
          refine z_iast O dX1_push_78 hA.1 ⟨by omega, by omega⟩ (by omega) (by omega) (fun H1 hA2 hC3 => ?_)
          have hf4 := hA.ch hC3
          have ha5 : zA (zEn x) H1 r (t + 1) it (r.2 (t + 1)) (zU f n v) := ⟨hA2, hA.2⟩
          have hO6 := hO.fr hf4 (zT1 (by omega))
          refine z_aload_n 0 O dX1_push_79 rfl ?_
          refine z_dup O dX1_push_80 rfl ?_
          refine z_getf kF_X1_23 O dX1_push_81 hO6.1 rfl ?_
          refine z_iconst 1 O dX1_push_84 (by decide +kernel) ?_
          refine z_iadd O dX1_push_85 ?_
          refine z_putf kP_X1_23 O (fun h => nomatch h) dX1_push_86 hO6.1 rfl rfl (Nat.le_of_ble_eq_true rfl) (fun H7 hO8 hC9 => ?_)
          have hf10 := hO6.ch hC9
          have ho11 : zO (zEn x) H7 r t q 1 [.int (iI (most : Int)), .ref it, .int (iI (n + 1))] := ⟨hO8, hO6.2⟩
          have ha12 := ha5.fr hf10 (zT1 (by omega))
          exact z_iretv O dX1_push_89 rfl (by omega) (by omega) hpo (⟨(((hf4.up (fun s h => by first | exact h.elim | omega | (simp at h ⊢; omega)))).tr (hf10.up (fun s h => by first | exact h.elim | omega | (simp at h ⊢; omega)))), ⟨it, _, ho11, ha12, fun j h1 h2 => by unfold zU; split; rfl; exact hfg j h1 (by omega), by omega, by omega, hc1, hcm, hmo⟩⟩)
      · exfalso; omega
    · exfalso; omega

/-- a row of references, some places empty -/
def zOp (fl : Int → Bool) (q : Int → Nat) : Int → Option Nat := fun i => cond (fl i) (some (q i)) none
theorem zOp_t {fl : Int → Bool} {q : Int → Nat} {i : Int} (h : fl i = true) : zOp fl q i = some (q i) := by unfold zOp; rw [h]; rfl
theorem zOp_f {fl : Int → Bool} {q : Int → Nat} {i : Int} (h : ¬ fl i = true) : zOp fl q i = none := by
  have h' : fl i = false := by cases hh : fl i with | true => exact absurd hh h | false => rfl
  unfold zOp; rw [h']; rfl
theorem zOp_n {fl fl1 : Int → Bool} {q q1 : Int → Nat} {i : Int} (h : fl1 i = fl i) (e : q1 i = q i) : zOp fl1 q1 i = zOp fl q i := by unfold zOp; rw [h, e]
/-- the states that are remembered: places 0 to 13, the next one, how many -/
def zHy (E : zE) (H : Heap) (r : zH) (a : Nat → Nat) (nx cn : Int) (fl : Int → Bool) (F : Int → Int → Int) : Prop :=
  zO E H r 1204 (a 1204) 0 [.ref (a 1205), .int (iI nx), .int (iI cn)] ∧ zQr E H r 1205 (a 1205) 2 14 (zOp fl (fun i => a (128 + 64 * i.toNat))) ∧ (0 ≤ nx ∧ nx < 14) ∧ (0 ≤ cn ∧ cn ≤ 14) ∧
  ∀ i : Nat, i < 14 → fl i = true → zSt E H r a (128 + 64 * i) (F i)
theorem zHy.fr {E : zE} {H H1 : Heap} {r r1 : zH} {a : Nat → Nat} {nx cn : Int} {fl : Int → Bool} {F : Int → Int → Int} {T : Nat → Prop} (h : zHy E H r a nx cn fl F) (f : zFr H r H1 r1 T) (n : ∀ s, (128 ≤ s ∧ s < 1024) ∨ s = 1204 ∨ s = 1205 → ¬ T s) : zHy E H1 r1 a nx cn fl F := by
  obtain ⟨h1, h2, h3, h4, h5⟩ := h
  exact ⟨h1.fr f (n _ (by omega)), h2.fr f (n _ (by omega)), h3, h4, fun i hi hf => (h5 i hi hf).fr f (fun s p q => n s (by omega))⟩
/-- the places' states -/
def zPl (E : zE) (H : Heap) (r : zH) (a : Nat → Nat) (fl : Int → Bool) (F : Int → Int → Int) : Prop := ∀ i : Nat, i < 14 → fl i = true → zSt E H r a (128 + 64 * i) (F i)
theorem zPl.fr {E : zE} {H H1 : Heap} {r r1 : zH} {a : Nat → Nat} {fl : Int → Bool} {F : Int → Int → Int} {T : Nat → Prop} (h : zPl E H r a fl F) (f : zFr H r H1 r1 T) (n : ∀ s, 128 ≤ s → s < 1024 → ¬ T s) : zPl E H1 r1 a fl F :=
  fun i hi hf => (h i hi hf).fr f (fun s p q => n s (by omega) (by omega))
theorem zPl.at {E : zE} {H : Heap} {r : zH} {a : Nat → Nat} {fl : Int → Bool} {F : Int → Int → Int} (h : zPl E H r a fl F) {i : Int} (h0 : 0 ≤ i) (h1 : i < 14) (hf : fl i = true) : zSt E H r a (128 + 64 * i.toNat) (F i) := by
  have k := h i.toNat (by omega)
  rw [zto h0] at k
  exact k hf
theorem zPl.set {E : zE} {H H1 : Heap} {r r1 : zH} {a a1 : Nat → Nat} {fl : Int → Bool} {F : Int → Int → Int} {T : Nat → Prop} {i : Int} {S : Int → Int} (h : zPl E H r a fl F) (f : zFr H r H1 r1 T) (h0 : 0 ≤ i) (h1 : i < 14) (n : ∀ s, 128 ≤ s → s < 1024 → (s < 128 + 64 * i.toNat ∨ 192 + 64 * i.toNat ≤ s) → ¬ T s)
    (ha : ∀ s, (s < 128 + 64 * i.toNat ∨ 192 + 64 * i.toNat ≤ s) → a1 s = a s) (k : zSt E H1 r1 a1 (128 + 64 * i.toNat) S) : zPl E H1 r1 a1 (fun j => if j = i then true else fl j) (fun j => if j = i then S else F j) := fun v hv hf => by
  by_cases z : (v : Int) = i
  · have z' : i.toNat = v := by omega
    dsimp only
    rw [if_pos z]
    rw [z'] at k
    exact k
  · dsimp only at hf ⊢
    rw [if_neg z] at hf ⊢
    exact ((h v hv hf).fr f (fun s p q => n s (by omega) (by omega) (by omega))).a (fun s p q => ha s (by omega))
theorem c_X0_rememberT {E : zE} (hst : E.1.stackTraces = false) {H : Heap} {r : zH} {a : Nat → Nat} {nx cn : Int} {fl : Int → Bool} {F : Int → Int → Int} {t : Nat} {G : Int → Int} {N : Int} (h : zHy E H r a nx cn fl F) (h2 : zSt E H r a t G) (hG : sW G N) (ht : t + 64 ≤ 128) (hfl : fl nx = true) : zC E yX0_remember cX0_remember 3 none 4 117 [.ref (a 1204), .ref (a t)] H 65 6677 (zRv (fun H1 => ∃ (r1 : zH) (a1 : Nat → Nat), (∀ s : Nat, ¬ (128 ≤ s ∧ s < 1024) → a1 s = a s) ∧ zFr H r H1 r1 (fun s => (128 ≤ s ∧ s < 1024) ∨ s = 1204 ∨ s = 1205) ∧ zHy E H1 r1 a1 ((nx + 1) % 14) (min 14 (cn + 1)) (fun j => if j = nx then true else fl j) (fun j => if j = nx then G else F j))) zN := by
  refine zC.of (by decide) (Nat.le_of_ble_eq_true rfl) hst ?_
  intro x O hE hpo hpx
  subst hE
  change zG x H 0 0 0 [(0, .ref (a 1204)), (1, .ref (a t))] []
  obtain ⟨hO, hQ, hnx, hcn, hP⟩ := id h
  have hP : zPl (zEn x) H r a fl F := hP
  refine z_aload_n 0 O dX0_remember_0 rfl ?_
  refine z_getf kF_X0_17 O dX0_remember_1 hO.1 rfl ?_
  refine z_if_lt 19 O dX0_remember_4 (by decide) ⟨by omega, by omega⟩ (fun c_4 => ?_) (fun c_4 => ?_)
  · exfalso; omega
  · skip
    refine z_aload_n 0 O dX0_remember_7 rfl ?_
    refine z_getf kF_X0_17 O dX0_remember_8 hO.1 rfl ?_
    refine z_aload_n 0 O dX0_remember_11 rfl ?_
    refine z_getf kF_X0_11 O dX0_remember_12 hO.1 rfl ?_
    refine z_alenR (by decide) O dX0_remember_15 hQ.1 ?_
    refine z_icmp_lt 20 O dX0_remember_16 (by decide) ⟨by omega, by omega⟩ ⟨by omega, by omega⟩ (fun c_16 => ?_) (fun c_16 => ?_)
    · skip
      have hk := hP.at hnx.1 hnx.2 hfl
      refine z_aload_n 0 O dX0_remember_20 rfl ?_
      refine z_getf kF_X0_11 O dX0_remember_21 hO.1 rfl ?_
      refine z_aload_n 0 O dX0_remember_24 rfl ?_
      refine z_getf kF_X0_17 O dX0_remember_25 hO.1 rfl ?_
      refine z_aald (T := 0) (by decide) O dX0_remember_28 hQ.1 ⟨by omega, by omega⟩ (by omega) (by omega) ?_
      change zG x _ _ _ _ _ (va_rf (zOp fl (fun i => a (128 + 64 * i.toNat)) nx) :: _)
      rw [zOp_t hfl]
      change zG x _ _ _ _ _ (.ref (a (128 + 64 * nx.toNat)) :: _)
      refine z_astore_n [(2, .ref (a (128 + 64 * nx.toNat))), (0, .ref (a 1204)), (1, .ref (a t))] O dX0_remember_29 (by decide) rfl ?_
      refine z_aload_n 0 O dX0_remember_30 rfl ?_
      refine z_ifnonnull 52 O dX0_remember_31 (by decide) ?_
      refine z_aload_n 0 O dX0_remember_52 rfl ?_
      refine z_aload_n 2 O dX0_remember_53 rfl ?_
      obtain ⟨hsO1, _⟩ := id hk
      refine z_Vvm [.ref (a t)] [] kM_X0_22 O dX0_remember_54 (c_X2_copyFrom hst hk h2 hG (by omega)) rfl rfl hsO1.1 (by decide) (Nat.le_of_ble_eq_true rfl) (by omega) (by omega) (Nat.le_of_ble_eq_true rfl) zNx (fun H2 hp3 hz4 => ?_)
      obtain ⟨r5, hf6, hz7, hmo8⟩ := hp3
      have hO9 := hO.fr hf6 (by first | exact (fun h => h) | exact zT1 (by omega) | (show ¬ (_ ∨ _); omega) | (show ¬ (_ ∧ _); omega))
      have hQ10 := hQ.fr hf6 (by first | exact (fun h => h) | exact zT1 (by omega) | (show ¬ (_ ∨ _); omega) | (show ¬ (_ ∧ _); omega))
      have h11 := h2.fr hf6 (fun s h1 h2 => by first | exact (fun h => h) | exact zT1 (by omega) | (show ¬ (_ ∨ _); omega) | (show ¬ (_ ∧ _); omega))
      refine z_aload_n 1 O dX0_remember_57 rfl ?_
      refine z_aload_n 1 O dX0_remember_58 rfl ?_
      refine z_getf kF_X0_17 O dX0_remember_59 hO9.1 rfl ?_
      refine z_iconst 1 O dX0_remember_62 (by decide +kernel) ?_
      refine z_iadd O dX0_remember_63 ?_
      refine z_bipush 14 O dX0_remember_64 (by decide +kernel) ?_
      refine z_irem O dX0_remember_66 ⟨by omega, by omega⟩ ⟨by omega, by omega⟩ (by omega) (by omega) ?_
      refine z_putf kP_X0_17 O (fun h => nomatch h) dX0_remember_67 hO9.1 rfl rfl (Nat.le_of_ble_eq_true rfl) (fun H12 hO13 hC14 => ?_)
      have hf15 := hO9.ch hC14
      have ho16 : zO (zEn x) H12 r5 1204 (a 1204) 0 [.ref (a 1205), .int (iI ((nx + 1) % 14)), .int (iI cn)] := ⟨hO13, hO9.2⟩
      have hQ17 := hQ10.fr hf15 (by first | exact (fun h => h) | exact zT1 (by omega) | (show ¬ (_ ∨ _); omega) | (show ¬ (_ ∧ _); omega))
      have h18 := h11.fr hf15 (fun s h1 h2 => by first | exact (fun h => h) | exact zT1 (by omega) | (show ¬ (_ ∨ _); omega) | (show ¬ (_ ∧ _); omega))
      have hz19 := hz7.fr hf15 (fun s h1 h2 => by first | exact (fun h => h) | exact zT1 (by omega) | (show ¬ (_ ∨ _); omega) | (show ¬ (_ ∧ _); omega))
      refine z_aload_n 1 O dX0_remember_70 rfl ?_
      refine z_bipush 14 O dX0_remember_71 (by decide +kernel) ?_
      refine z_aload_n 1 O dX0_remember_73 rfl ?_
      refine z_getf kF_X0_26 O dX0_remember_74 ho16.1 rfl ?_
      refine z_iconst 1 O dX0_remember_77 (by decide +kernel) ?_
      refine z_iadd O dX0_remember_78 ?_
      refine z_mmin (List.mem_of_getElem? (i := 740) (by decide +kernel)) O dX0_remember_79 (by decide) (Nat.le_of_ble_eq_true rfl) (by omega) (by omega) ⟨by omega, by omega⟩ ⟨by omega, by omega⟩ ?_
      refine z_putf kP_X0_26 O (fun h => nomatch h) dX0_remember_82 ho16.1 rfl rfl (Nat.le_of_ble_eq_true rfl) (fun H20 hO21 hC22 => ?_)
      have hf23 := ho16.ch hC22
      have ho24 : zO (zEn x) H20 r5 1204 (a 1204) 0 [.ref (a 1205), .int (iI ((nx + 1) % 14)), .int (iI (min 14 (cn + 1)))] := ⟨hO21, ho16.2⟩
      have hQ25 := hQ17.fr hf23 (by first | exact (fun h => h) | exact zT1 (by omega) | (show ¬ (_ ∨ _); omega) | (show ¬ (_ ∧ _); omega))
      have h26 := h18.fr hf23 (fun s h1 h2 => by first | exact (fun h => h) | exact zT1 (by omega) | (show ¬ (_ ∨ _); omega) | (show ¬ (_ ∧ _); omega))
      have hz27 := hz19.fr hf23 (fun s h1 h2 => by first | exact (fun h => h) | exact zT1 (by omega) | (show ¬ (_ ∨ _); omega) | (show ¬ (_ ∧ _); omega))
      exact z_iretv O dX0_remember_85 rfl (by omega) (by omega) hpo (⟨r5, a, (fun s _ => rfl), (((((hf6.up (fun s h => by first | exact h.elim | omega | (simp at h ⊢; omega)))).tr (hf15.up (fun s h => by first | exact h.elim | omega | (simp at h ⊢; omega))))).tr (hf23.up (fun s h => by first | exact h.elim | omega | (simp at h ⊢; omega)))), ho24, ⟨hQ25.1.to (fun i i0 i1 => by by_cases y : i = nx; (· rw [y, zOp_t hfl, zOp_t (if_pos rfl)]); (· exact (zOp_n (if_neg y) rfl).symm)), hQ25.2⟩, ⟨by omega, by omega⟩, ⟨by omega, by omega⟩, (hP.set (T := (fun s => (128 + 64 * nx.toNat ≤ s ∧ s < 128 + 64 * nx.toNat + 64) ∨ s = 1204 ∨ s = 1205)) (((hf6.up (fun s h => by first | exact h.elim | omega | (simp at h ⊢; omega))).tr (hf15.up (fun s h => by first | exact h.elim | omega | (simp at h ⊢; omega)))).tr (hf23.up (fun s h => by first | exact h.elim | omega | (simp at h ⊢; omega)))) hnx.1 hnx.2 (fun s p1 p2 p3 => by (show ¬ (_ ∨ _); omega)) (fun s _ => rfl) hz27)⟩)
    · exfalso; omega

theorem c_X0_rememberF {E : zE} (hst : E.1.stackTraces = false) {H : Heap} {r : zH} {a : Nat → Nat} {nx cn : Int} {fl : Int → Bool} {F : Int → Int → Int} {t : Nat} {G : Int → Int} {N : Int} (h : zHy E H r a nx cn fl F) (h2 : zSt E H r a t G) (hG : sW G N) (ht : t + 64 ≤ 128) (hfl : ¬ fl nx = true) : zC E yX0_remember cX0_remember 3 none 4 117 [.ref (a 1204), .ref (a t)] H 65 6677 (zRv (fun H1 => ∃ (r1 : zH) (a1 : Nat → Nat), (∀ s : Nat, ¬ (128 ≤ s ∧ s < 1024) → a1 s = a s) ∧ zFr H r H1 r1 (fun s => (128 ≤ s ∧ s < 1024) ∨ s = 1204 ∨ s = 1205) ∧ zHy E H1 r1 a1 ((nx + 1) % 14) (min 14 (cn + 1)) (fun j => if j = nx then true else fl j) (fun j => if j = nx then G else F j))) zN := by
  refine zC.of (by decide) (Nat.le_of_ble_eq_true rfl) hst ?_
  intro x O hE hpo hpx
  subst hE
  change zG x H 0 0 0 [(0, .ref (a 1204)), (1, .ref (a t))] []
  obtain ⟨hO, hQ, hnx, hcn, hP⟩ := id h
  have hP : zPl (zEn x) H r a fl F := hP
  refine z_aload_n 0 O dX0_remember_0 rfl ?_
  refine z_getf kF_X0_17 O dX0_remember_1 hO.1 rfl ?_
  refine z_if_lt 19 O dX0_remember_4 (by decide) ⟨by omega, by omega⟩ (fun c_4 => ?_) (fun c_4 => ?_)
  · exfalso; omega
  · skip
    refine z_aload_n 0 O dX0_remember_7 rfl ?_
    refine z_getf kF_X0_17 O dX0_remember_8 hO.1 rfl ?_
    refine z_aload_n 0 O dX0_remember_11 rfl ?_
    refine z_getf kF_X0_11 O dX0_remember_12 hO.1 rfl ?_
    refine z_alenR (by decide) O dX0_remember_15 hQ.1 ?_
    refine z_icmp_lt 20 O dX0_remember_16 (by decide) ⟨by omega, by omega⟩ ⟨by omega, by omega⟩ (fun c_16 => ?_) (fun c_16 => ?_)
    · skip
      refine z_aload_n 0 O dX0_remember_20 rfl ?_
      refine z_getf kF_X0_11 O dX0_remember_21 hO.1 rfl ?_
      refine z_aload_n 0 O dX0_remember_24 rfl ?_
      refine z_getf kF_X0_17 O dX0_remember_25 hO.1 rfl ?_
      refine z_aald (T := 0) (by decide) O dX0_remember_28 hQ.1 ⟨by omega, by omega⟩ (by omega) (by omega) ?_
      change zG x _ _ _ _ _ (va_rf (zOp fl (fun i => a (128 + 64 * i.toNat)) nx) :: _)
      rw [zOp_f hfl]
      change zG x _ _ _ _ _ (.null :: _)
      refine z_astore_nN [(2, .null), (0, .ref (a 1204)), (1, .ref (a t))] O dX0_remember_29 (by decide) rfl ?_
      refine z_aload_nN 0 O dX0_remember_30 rfl ?_
      refine z_ifnonnullN O dX0_remember_31 ?_
      refine z_new kN_X0_9 O dX0_remember_34 (by omega) (by omega) (fun H1 hO2 hN3 => ?_)
      obtain ⟨r5, er5⟩ : ∃ z, z = zTag r H.size (128 + 64 * nx.toNat) := ⟨_, rfl⟩
      have hf6 : zFr H r H1 r5 (fun _ => False) := by rw [er5]; exact hN3.fr r (128 + 64 * nx.toNat) _
      obtain ⟨q4, eq4⟩ : ∃ z, z = H.size := ⟨_, rfl⟩
      have q4t : r5.1 q4 = 128 + 64 * nx.toNat := by rw [er5, eq4]; exact zTag_1
      rw [← eq4]
      have hO7 := hO.fr hf6 (by first | exact (fun h => h) | exact zT1 (by omega) | (show ¬ (_ ∨ _); omega) | (show ¬ (_ ∧ _); omega))
      have hQ8 := hQ.fr hf6 (by first | exact (fun h => h) | exact zT1 (by omega) | (show ¬ (_ ∨ _); omega) | (show ¬ (_ ∧ _); omega))
      have hP9 := hP.fr hf6 (fun s h1 h2 => by first | exact (fun h => h) | exact zT1 (by omega) | (show ¬ (_ ∨ _); omega) | (show ¬ (_ ∧ _); omega))
      have h10 := h2.fr hf6 (fun s h1 h2 => by first | exact (fun h => h) | exact zT1 (by omega) | (show ¬ (_ ∨ _); omega) | (show ¬ (_ ∧ _); omega))
      have ho11 : zO (zEn x) H1 r5 (128 + 64 * nx.toNat) q4 2 [.null, .null, .null, .int (iI 0), .int (iI 0), .int (iI 0), .int (iI 0)] := ⟨by rw [eq4]; exact hO2, q4t⟩
      refine z_dup O dX0_remember_37 rfl ?_
      obtain ⟨a9, ha9⟩ : ∃ z, z = (fun s => if s = 128 + 64 * nx.toNat then q4 else a s) := ⟨_, rfl⟩
      have hq9 : a9 (128 + 64 * nx.toNat) = q4 := by rw [ha9]; exact if_pos rfl
      have hn9 : ∀ s, s ≠ 128 + 64 * nx.toNat → a9 s = a s := fun s hs => by rw [ha9]; exact if_neg hs
      refine z_Ivm [] [.ref q4] kM_X0_21 O dX0_remember_38 (c_X2_init hst (a := a9) ho11 hq9) rfl rfl (by decide) (Nat.le_of_ble_eq_true rfl) (by omega) (by omega) (Nat.le_of_ble_eq_true rfl) zNx (fun H12 hp13 hz14 => ?_)
      obtain ⟨r15, a1, hat1, hf16, hz9⟩ := hp13
      have ha1 : ∀ s, ¬ (128 + 64 * nx.toNat ≤ s ∧ s < 128 + 64 * nx.toNat + 64) → a1 s = a s := fun s hs => (hat1 s (by omega)).trans (hn9 s (by omega))
      have hb9 : a1 (128 + 64 * nx.toNat) = q4 := (hat1 _ (by omega)).trans hq9
      have hO17 := hO7.fr hf16 (by first | exact (fun h => h) | exact zT1 (by omega) | (show ¬ (_ ∨ _); omega) | (show ¬ (_ ∧ _); omega))
      have hQ18 := hQ8.fr hf16 (by first | exact (fun h => h) | exact zT1 (by omega) | (show ¬ (_ ∨ _); omega) | (show ¬ (_ ∧ _); omega))
      have h19 := h10.fr hf16 (fun s h1 h2 => by first | exact (fun h => h) | exact zT1 (by omega) | (show ¬ (_ ∨ _); omega) | (show ¬ (_ ∧ _); omega))
      obtain ⟨hO9, _⟩ := id hz9
      rw [hb9] at hO9
      refine z_astore_n [(2, .ref q4), (0, .ref (a 1204)), (1, .ref (a t))] O dX0_remember_41 (by decide) rfl ?_
      refine z_aload_n 1 O dX0_remember_42 rfl ?_
      refine z_getf kF_X0_11 O dX0_remember_43 hO17.1 rfl ?_
      refine z_aload_n 1 O dX0_remember_46 rfl ?_
      refine z_getf kF_X0_17 O dX0_remember_47 hO17.1 rfl ?_
      refine z_aload_n 0 O dX0_remember_50 rfl ?_
      refine z_aast (by unfold zTC; decide) O dX0_remember_51 hQ18.1 hO9.1 ⟨by omega, by omega⟩ (by omega) (by omega) (fun H20 hQ21 hC22 => ?_)
      have hf23 := hQ18.ch hC22
      have hq24 : zQr (zEn x) H20 r15 1205 (a 1205) 2 14 (zUr (zOp fl (fun i => a (128 + 64 * i.toNat))) nx (some q4)) := ⟨hQ21, hQ18.2⟩
      have hO25 := hO17.fr hf23 (by first | exact (fun h => h) | exact zT1 (by omega) | (show ¬ (_ ∨ _); omega) | (show ¬ (_ ∧ _); omega))
      have h26 := h19.fr hf23 (fun s h1 h2 => by first | exact (fun h => h) | exact zT1 (by omega) | (show ¬ (_ ∨ _); omega) | (show ¬ (_ ∧ _); omega))
      have hO27 := hO9.fr hf23 (by first | exact (fun h => h) | exact zT1 (by omega) | (show ¬ (_ ∨ _); omega) | (show ¬ (_ ∧ _); omega))
      have hz28 := hz9.fr hf23 (fun s h1 h2 => by first | exact (fun h => h) | exact zT1 (by omega) | (show ¬ (_ ∨ _); omega) | (show ¬ (_ ∧ _); omega))
      refine z_aload_n 0 O dX0_remember_52 rfl ?_
      refine z_aload_n 2 O dX0_remember_53 rfl ?_
      have h29 := h26.a (a1 := a1) (fun s p1 p2 => ha1 s (by omega))
      have hrq : .ref q4 = Value.ref (a1 (128 + 64 * nx.toNat)) := by rw [hb9]
      have hrt : Value.ref (a t) = Value.ref (a1 t) := by rw [ha1 t (by omega)]
      obtain ⟨hsO29, _⟩ := id hz28
      rw [← hb9, hrt]
      refine z_Vvm [.ref (a1 t)] [] kM_X0_22 O dX0_remember_54 (c_X2_copyFrom hst hz28 h29 hG (by omega)) rfl rfl hsO29.1 (by decide) (Nat.le_of_ble_eq_true rfl) (by omega) (by omega) (Nat.le_of_ble_eq_true rfl) zNx (fun H30 hp31 hz32 => ?_)
      obtain ⟨r33, hf34, hz35, hmo36⟩ := hp31
      have hO37 := hO25.fr hf34 (by first | exact (fun h => h) | exact zT1 (by omega) | (show ¬ (_ ∨ _); omega) | (show ¬ (_ ∧ _); omega))
      have hq38 := hq24.fr hf34 (by first | exact (fun h => h) | exact zT1 (by omega) | (show ¬ (_ ∨ _); omega) | (show ¬ (_ ∧ _); omega))
      refine z_aload_n 1 O dX0_remember_57 rfl ?_
      refine z_aload_n 1 O dX0_remember_58 rfl ?_
      refine z_getf kF_X0_17 O dX0_remember_59 hO37.1 rfl ?_
      refine z_iconst 1 O dX0_remember_62 (by decide +kernel) ?_
      refine z_iadd O dX0_remember_63 ?_
      refine z_bipush 14 O dX0_remember_64 (by decide +kernel) ?_
      refine z_irem O dX0_remember_66 ⟨by omega, by omega⟩ ⟨by omega, by omega⟩ (by omega) (by omega) ?_
      refine z_putf kP_X0_17 O (fun h => nomatch h) dX0_remember_67 hO37.1 rfl rfl (Nat.le_of_ble_eq_true rfl) (fun H39 hO40 hC41 => ?_)
      have hf42 := hO37.ch hC41
      have ho43 : zO (zEn x) H39 r33 1204 (a 1204) 0 [.ref (a 1205), .int (iI ((nx + 1) % 14)), .int (iI cn)] := ⟨hO40, hO37.2⟩
      have hq44 := hq38.fr hf42 (by first | exact (fun h => h) | exact zT1 (by omega) | (show ¬ (_ ∨ _); omega) | (show ¬ (_ ∧ _); omega))
      have hz45 := hz35.fr hf42 (fun s h1 h2 => by first | exact (fun h => h) | exact zT1 (by omega) | (show ¬ (_ ∨ _); omega) | (show ¬ (_ ∧ _); omega))
      refine z_aload_n 1 O dX0_remember_70 rfl ?_
      refine z_bipush 14 O dX0_remember_71 (by decide +kernel) ?_
      refine z_aload_n 1 O dX0_remember_73 rfl ?_
      refine z_getf kF_X0_26 O dX0_remember_74 ho43.1 rfl ?_
      refine z_iconst 1 O dX0_remember_77 (by decide +kernel) ?_
      refine z_iadd O dX0_remember_78 ?_
      refine z_mmin (List.mem_of_getElem? (i := 740) (by decide +kernel)) O dX0_remember_79 (by decide) (Nat.le_of_ble_eq_true rfl) (by omega) (by omega) ⟨by omega, by omega⟩ ⟨by omega, by omega⟩ ?_
      refine z_putf kP_X0_26 O (fun h => nomatch h) dX0_remember_82 ho43.1 rfl rfl (Nat.le_of_ble_eq_true rfl) (fun H46 hO47 hC48 => ?_)
      have hf49 := ho43.ch hC48
      have ho50 : zO (zEn x) H46 r33 1204 (a 1204) 0 [.ref (a 1205), .int (iI ((nx + 1) % 14)), .int (iI (min 14 (cn + 1)))] := ⟨hO47, ho43.2⟩
      have hq51 := hq44.fr hf49 (by first | exact (fun h => h) | exact zT1 (by omega) | (show ¬ (_ ∨ _); omega) | (show ¬ (_ ∧ _); omega))
      have hz52 := hz45.fr hf49 (fun s h1 h2 => by first | exact (fun h => h) | exact zT1 (by omega) | (show ¬ (_ ∨ _); omega) | (show ¬ (_ ∧ _); omega))
      exact z_iretv O dX0_remember_85 rfl (by omega) (by omega) hpo (⟨r33, a1, (fun s hs => ha1 s (by omega)), (((((((((((hf6.up (fun s h => by first | exact h.elim | omega | (simp at h ⊢; omega)))).tr (hf16.up (fun s h => by first | exact h.elim | omega | (simp at h ⊢; omega))))).tr (hf23.up (fun s h => by first | exact h.elim | omega | (simp at h ⊢; omega))))).tr (hf34.up (fun s h => by first | exact h.elim | omega | (simp at h ⊢; omega))))).tr (hf42.up (fun s h => by first | exact h.elim | omega | (simp at h ⊢; omega))))).tr (hf49.up (fun s h => by first | exact h.elim | omega | (simp at h ⊢; omega)))), (by rw [ha1 1204 (by omega), ha1 1205 (by omega)]; exact ho50), (by rw [ha1 1205 (by omega)]; exact ⟨hq51.1.to (fun i i0 i1 => by unfold zUr; by_cases y : i = nx; (· rw [if_pos y, zOp_t (if_pos y), y, hb9]); (· rw [if_neg y]; exact (zOp_n (if_neg y) (ha1 _ (by omega))).symm)), hq51.2⟩), ⟨by omega, by omega⟩, ⟨by omega, by omega⟩, (hP9.set (T := (fun s => (128 + 64 * nx.toNat ≤ s ∧ s < 128 + 64 * nx.toNat + 64) ∨ s = 1204 ∨ s = 1205)) (((((hf16.up (fun s h => by first | exact h.elim | omega | (simp at h ⊢; omega))).tr (hf23.up (fun s h => by first | exact h.elim | omega | (simp at h ⊢; omega)))).tr (hf34.up (fun s h => by first | exact h.elim | omega | (simp at h ⊢; omega)))).tr (hf42.up (fun s h => by first | exact h.elim | omega | (simp at h ⊢; omega)))).tr (hf49.up (fun s h => by first | exact h.elim | omega | (simp at h ⊢; omega)))) hnx.1 hnx.2 (fun s p1 p2 p3 => by (show ¬ (_ ∨ _); omega)) (fun s hs => ha1 s (by omega)) hz52)⟩)
    · exfalso; omega

theorem c_X0_remember {E : zE} (hst : E.1.stackTraces = false) {H : Heap} {r : zH} {a : Nat → Nat} {nx cn : Int} {fl : Int → Bool} {F : Int → Int → Int} {t : Nat} {G : Int → Int} {N : Int} (h : zHy E H r a nx cn fl F) (h2 : zSt E H r a t G) (hG : sW G N) (ht : t + 64 ≤ 128) : zC E yX0_remember cX0_remember 3 none 4 117 [.ref (a 1204), .ref (a t)] H 65 6677 (zRv (fun H1 => ∃ (r1 : zH) (a1 : Nat → Nat), (∀ s : Nat, ¬ (128 ≤ s ∧ s < 1024) → a1 s = a s) ∧ zFr H r H1 r1 (fun s => (128 ≤ s ∧ s < 1024) ∨ s = 1204 ∨ s = 1205) ∧ zHy E H1 r1 a1 ((nx + 1) % 14) (min 14 (cn + 1)) (fun j => if j = nx then true else fl j) (fun j => if j = nx then G else F j))) zN := by
  by_cases q : fl nx = true
  · exact c_X0_rememberT hst h h2 hG ht q
  · exact c_X0_rememberF hst h h2 hG ht q
theorem c_X0_takeBack {E : zE} (hst : E.1.stackTraces = false) {H : Heap} {r : zH} {a : Nat → Nat} {nx cn : Int} {fl : Int → Bool} {F : Int → Int → Int} {t : Nat} {G : Int → Int} {N : Int} (h : zHy E H r a nx cn fl F) (h2 : zSt E H r a t G) (hG2 : sW (F ((nx + 14 - 1) % 14)) N) (ht : t + 64 ≤ 128) (hfl : fl ((nx + 14 - 1) % 14) = true) (hc0 : 0 < cn) : zC E yX0_takeBack cX0_takeBack 4 none 4 117 [.ref (a 1204), .ref (a t)] H 14 6296 (zRv (fun H1 => ∃ r1 : zH, zFr H r H1 r1 (fun s => (t ≤ s ∧ s < t + 64) ∨ s = 1204) ∧ zSt E H1 r1 a t (F ((nx + 14 - 1) % 14)) ∧ zHy E H1 r1 a ((nx + 14 - 1) % 14) (cn - 1) fl F ∧ ∀ s, r.2 s ≤ r1.2 s)) zN := by
  refine zC.of (by decide) (Nat.le_of_ble_eq_true rfl) hst ?_
  intro x O hE hpo hpx
  subst hE
  change zG x H 0 0 0 [(0, .ref (a 1204)), (1, .ref (a t))] []
  obtain ⟨hO, hQ, hnx, hcn, hP⟩ := id h
  have hP : zPl (zEn x) H r a fl F := hP
  refine z_aload_n 0 O dX0_takeBack_0 rfl ?_
  refine z_getf kF_X0_17 O dX0_takeBack_1 hO.1 rfl ?_
  refine z_bipush 14 O dX0_takeBack_4 (by decide +kernel) ?_
  refine z_iadd O dX0_takeBack_6 ?_
  refine z_iconst 1 O dX0_takeBack_7 (by decide +kernel) ?_
  refine z_isub O dX0_takeBack_8 ?_
  refine z_bipush 14 O dX0_takeBack_9 (by decide +kernel) ?_
  refine z_irem O dX0_takeBack_11 ⟨by omega, by omega⟩ ⟨by omega, by omega⟩ (by omega) (by omega) ?_
  refine z_istore_n [(2, .int (iI (((nx + 14) - 1) % 14))), (0, .ref (a 1204)), (1, .ref (a t))] O dX0_takeBack_12 (by decide) rfl ?_
  refine z_iload_n 0 O dX0_takeBack_13 rfl ?_
  refine z_if_lt 35 O dX0_takeBack_14 (by decide) ⟨by omega, by omega⟩ (fun c_14 => ?_) (fun c_14 => ?_)
  · exfalso; omega
  · skip
    refine z_iload_n 0 O dX0_takeBack_17 rfl ?_
    refine z_aload_n 1 O dX0_takeBack_18 rfl ?_
    refine z_getf kF_X0_11 O dX0_takeBack_19 hO.1 rfl ?_
    refine z_alenR (by decide) O dX0_takeBack_22 hQ.1 ?_
    refine z_icmp_ge 35 O dX0_takeBack_23 (by decide) ⟨by omega, by omega⟩ ⟨by omega, by omega⟩ (fun c_23 => ?_) (fun c_23 => ?_)
    · exfalso; omega
    · skip
      have hk := hP.at (i := ((nx + 14 - 1) % 14)) (by omega) (by omega) hfl
      refine z_aload_n 1 O dX0_takeBack_26 rfl ?_
      refine z_getf kF_X0_11 O dX0_takeBack_27 hO.1 rfl ?_
      refine z_iload_n 0 O dX0_takeBack_30 rfl ?_
      refine z_aald (T := 0) (by decide) O dX0_takeBack_31 hQ.1 ⟨by omega, by omega⟩ (by omega) (by omega) ?_
      change zG x _ _ _ _ _ (va_rf (zOp fl (fun i => a (128 + 64 * i.toNat)) (((nx + 14) - 1) % 14)) :: _)
      rw [zOp_t hfl]
      change zG x _ _ _ _ _ (.ref (a (128 + 64 * (((nx + 14) - 1) % 14).toNat)) :: _)
      refine z_goto 36 O dX0_takeBack_32 (by decide) ?_
      refine z_astore_n [(3, .ref (a (128 + 64 * (((nx + 14) - 1) % 14).toNat))), (2, .int (iI (((nx + 14) - 1) % 14))), (0, .ref (a 1204)), (1, .ref (a t))] O dX0_takeBack_36 (by decide) rfl ?_
      refine z_aload_n 0 O dX0_takeBack_37 rfl ?_
      refine z_ifnull O dX0_takeBack_38 ?_
      refine z_aload_n 2 O dX0_takeBack_41 rfl ?_
      refine z_getf kF_X0_26 O dX0_takeBack_42 hO.1 rfl ?_
      refine z_if_ne 49 O dX0_takeBack_45 (by decide) ⟨by omega, by omega⟩ (fun c_45 => ?_) (fun c_45 => ?_)
      · skip
        refine z_aload_n 3 O dX0_takeBack_49 rfl ?_
        refine z_aload_n 0 O dX0_takeBack_50 rfl ?_
        obtain ⟨hsO1, _⟩ := id h2
        refine z_Vvm [.ref (a (128 + 64 * (((nx + 14) - 1) % 14).toNat))] [] kM_X0_22 O dX0_takeBack_51 (c_X2_copyFrom hst h2 hk hG2 (by omega)) rfl rfl hsO1.1 (by decide) (Nat.le_of_ble_eq_true rfl) (by omega) (by omega) (Nat.le_of_ble_eq_true rfl) zNx (fun H2 hp3 hz4 => ?_)
        obtain ⟨r5, hf6, hz7, hmo8⟩ := hp3
        have hO9 := hO.fr hf6 (by first | exact (fun h => h) | exact zT1 (by omega) | (show ¬ (_ ∨ _); omega) | (show ¬ (_ ∧ _); omega))
        have hQ10 := hQ.fr hf6 (by first | exact (fun h => h) | exact zT1 (by omega) | (show ¬ (_ ∨ _); omega) | (show ¬ (_ ∧ _); omega))
        have hP11 := hP.fr hf6 (fun s h1 h2 => by first | exact (fun h => h) | exact zT1 (by omega) | (show ¬ (_ ∨ _); omega) | (show ¬ (_ ∧ _); omega))
        have hk12 := hk.fr hf6 (fun s h1 h2 => by first | exact (fun h => h) | exact zT1 (by omega) | (show ¬ (_ ∨ _); omega) | (show ¬ (_ ∧ _); omega))
        refine z_aload_n 2 O dX0_takeBack_54 rfl ?_
        refine z_iload_n 1 O dX0_takeBack_55 rfl ?_
        refine z_putf kP_X0_17 O (fun h => nomatch h) dX0_takeBack_56 hO9.1 rfl rfl (Nat.le_of_ble_eq_true rfl) (fun H13 hO14 hC15 => ?_)
        have hf16 := hO9.ch hC15
        have ho17 : zO (zEn x) H13 r5 1204 (a 1204) 0 [.ref (a 1205), .int (iI (((nx + 14) - 1) % 14)), .int (iI cn)] := ⟨hO14, hO9.2⟩
        have hQ18 := hQ10.fr hf16 (by first | exact (fun h => h) | exact zT1 (by omega) | (show ¬ (_ ∨ _); omega) | (show ¬ (_ ∧ _); omega))
        have hP19 := hP11.fr hf16 (fun s h1 h2 => by first | exact (fun h => h) | exact zT1 (by omega) | (show ¬ (_ ∨ _); omega) | (show ¬ (_ ∧ _); omega))
        have hz20 := hz7.fr hf16 (fun s h1 h2 => by first | exact (fun h => h) | exact zT1 (by omega) | (show ¬ (_ ∨ _); omega) | (show ¬ (_ ∧ _); omega))
        have hk21 := hk12.fr hf16 (fun s h1 h2 => by first | exact (fun h => h) | exact zT1 (by omega) | (show ¬ (_ ∨ _); omega) | (show ¬ (_ ∧ _); omega))
        refine z_aload_n 2 O dX0_takeBack_59 rfl ?_
        refine z_dup O dX0_takeBack_60 rfl ?_
        refine z_getf kF_X0_26 O dX0_takeBack_61 ho17.1 rfl ?_
        refine z_iconst 1 O dX0_takeBack_64 (by decide +kernel) ?_
        refine z_isub O dX0_takeBack_65 ?_
        refine z_putf kP_X0_26 O (fun h => nomatch h) dX0_takeBack_66 ho17.1 rfl rfl (Nat.le_of_ble_eq_true rfl) (fun H22 hO23 hC24 => ?_)
        have hf25 := ho17.ch hC24
        have ho26 : zO (zEn x) H22 r5 1204 (a 1204) 0 [.ref (a 1205), .int (iI (((nx + 14) - 1) % 14)), .int (iI (cn - 1))] := ⟨hO23, ho17.2⟩
        have hQ27 := hQ18.fr hf25 (by first | exact (fun h => h) | exact zT1 (by omega) | (show ¬ (_ ∨ _); omega) | (show ¬ (_ ∧ _); omega))
        have hP28 := hP19.fr hf25 (fun s h1 h2 => by first | exact (fun h => h) | exact zT1 (by omega) | (show ¬ (_ ∨ _); omega) | (show ¬ (_ ∧ _); omega))
        have hz29 := hz20.fr hf25 (fun s h1 h2 => by first | exact (fun h => h) | exact zT1 (by omega) | (show ¬ (_ ∨ _); omega) | (show ¬ (_ ∧ _); omega))
        have hk30 := hk21.fr hf25 (fun s h1 h2 => by first | exact (fun h => h) | exact zT1 (by omega) | (show ¬ (_ ∨ _); omega) | (show ¬ (_ ∧ _); omega))
        exact z_iretv O dX0_takeBack_69 rfl (by omega) (by omega) hpo (⟨r5, (((((hf6.up (fun s h => by first | exact h.elim | omega | (simp at h ⊢; omega)))).tr (hf16.up (fun s h => by first | exact h.elim | omega | (simp at h ⊢; omega))))).tr (hf25.up (fun s h => by first | exact h.elim | omega | (simp at h ⊢; omega)))), hz29, ⟨ho26, hQ27, ⟨by omega, by omega⟩, ⟨by omega, by omega⟩, hP28⟩, (fun s => hmo8 s)⟩)
      · exfalso; omega

theorem c_X0_forgetAll {E : zE} (hst : E.1.stackTraces = false) {H : Heap} {r : zH} {a : Nat → Nat} {nx cn : Int} {fl : Int → Bool} {F : Int → Int → Int} (h : zHy E H r a nx cn fl F) : zC E yX0_forgetAll cX0_forgetAll 1 none 0 0 [.ref (a 1204)] H 0 0 (zRv (fun H1 => zFr H r H1 r (fun s => s = 1204) ∧ zHy E H1 r a nx 0 fl F)) zN := by
  refine zC.of (by decide) (Nat.le_of_ble_eq_true rfl) hst ?_
  intro x O hE hpo hpx
  subst hE
  change zG x H 0 0 0 [(0, .ref (a 1204))] []
  obtain ⟨hO, hQ, hnx, hcn, hP⟩ := id h
  have hP : zPl (zEn x) H r a fl F := hP
  refine z_aload_n 0 O dX0_forgetAll_0 rfl ?_
  refine z_iconst 0 O dX0_forgetAll_1 (by decide +kernel) ?_
  refine z_putf kP_X0_26 O (fun h => nomatch h) dX0_forgetAll_2 hO.1 rfl rfl (Nat.le_of_ble_eq_true rfl) (fun H1 hO2 hC3 => ?_)
  have hf4 := hO.ch hC3
  have ho5 : zO (zEn x) H1 r 1204 (a 1204) 0 [.ref (a 1205), .int (iI nx), .int (iI 0)] := ⟨hO2, hO.2⟩
  have hQ6 := hQ.fr hf4 (by first | exact (fun h => h) | exact zT1 (by omega) | (show ¬ (_ ∨ _); omega) | (show ¬ (_ ∧ _); omega))
  have hP7 := hP.fr hf4 (fun s h1 h2 => by first | exact (fun h => h) | exact zT1 (by omega) | (show ¬ (_ ∨ _); omega) | (show ¬ (_ ∧ _); omega))
  exact z_iretv O dX0_forgetAll_5 rfl (by omega) (by omega) hpo (⟨(hf4.up (fun s h => by first | exact h.elim | omega | (simp at h ⊢; omega))), ho5, hQ6, hnx, ⟨by omega, by omega⟩, hP7⟩)

