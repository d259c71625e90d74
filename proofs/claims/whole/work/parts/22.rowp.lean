/-- Arrays.copyOf, to a longer one -/
theorem c_J7_copyOf {E : zE} (hst : E.1.stackTraces = false) {H : Heap} {q n m : Nat} {f : Int → Int} (h : zIA E H q 0 n f) (hnm : n < m) (hm : m ≤ 100000) : zC E yJ7_copyOf_59c91 cJ7_copyOf_59c91 3 (some (.array .int)) 1 40 [.ref q, .int (iI m)] H 1 m (zRr (some H.size) (fun H1 => zIA E H1 H.size 0 m (zCpy f (fun _ => 0) 0 0 n) ∧ zNew H H1)) zN := by
  refine zC.of (by decide) (Nat.le_of_ble_eq_true rfl) hst ?_
  intro x O hE hpo hpx
  subst hE
  change zG x H 0 0 0 [(0, .ref q), (1, .int (iI m))] []
  refine z_iload_n 1 O dJ7_copyOf_59c91_0 rfl ?_
  refine z_aload_n 0 O dJ7_copyOf_59c91_1 rfl ?_
  refine z_alen (by decide) O dJ7_copyOf_59c91_2 h ?_
  refine z_icmp_ne 14 O dJ7_copyOf_59c91_3 (by decide) ⟨by omega, by omega⟩ ⟨by omega, by omega⟩ (fun c_3 => ?_) (fun c_3 => ?_)
  · refine z_iload_n 1 O dJ7_copyOf_59c91_14 rfl ?_
    refine z_newi (n := m) O dJ7_copyOf_59c91_15 ⟨by omega, by omega⟩ (by omega) rfl (by omega) (by omega) (by omega) (fun H1 hA hN => ?_)
    refine z_astore_n [(2, .ref H.size), (0, .ref q), (1, .int (iI m))] O dJ7_copyOf_59c91_17 (by decide) rfl ?_
    refine z_aload_n 1 O dJ7_copyOf_59c91_18 rfl ?_
    refine z_iconst 0 O dJ7_copyOf_59c91_19 (by decide +kernel) ?_
    refine z_aload_n 0 O dJ7_copyOf_59c91_20 rfl ?_
    refine z_iconst 0 O dJ7_copyOf_59c91_21 (by decide +kernel) ?_
    refine z_aload_n 1 O dJ7_copyOf_59c91_22 rfl ?_
    have h1 := h.kept (hN.2 q h.lt)
    refine z_alen (by decide) O dJ7_copyOf_59c91_23 h1 ?_
    refine z_iload_n 2 O dJ7_copyOf_59c91_24 rfl ?_
    refine z_mmin (List.mem_of_getElem? (i := 116) (by decide +kernel)) O dJ7_copyOf_59c91_25 (by decide) (Nat.le_of_ble_eq_true rfl) (by omega) (by omega) ⟨by omega, by omega⟩ ⟨by omega, by omega⟩ ?_
    refine z_acopy (List.mem_of_getElem? (i := 117) (by decide +kernel)) O dJ7_copyOf_59c91_28 (by decide) (Nat.le_of_ble_eq_true rfl) h1 hA ⟨by omega, by omega⟩ ⟨by omega, by omega⟩ ⟨by omega, by omega⟩ (by omega) (by omega) (by omega) (by omega) (by omega) (fun H2 hA2 hC2 => ?_)
    refine z_aload_n 0 O dJ7_copyOf_59c91_31 rfl ?_
    refine z_iretr O dJ7_copyOf_59c91_32 rfl (Or.inr ⟨_, rfl⟩) (by omega) (by omega) hpo rfl ⟨?_, hC2.1.trans hN.1, fun p hp => (hC2.2 p (by omega)).trans (hN.2 p hp)⟩
    rw [show min (n : Int) (m : Int) = n by omega] at hA2
    exact hA2
  · exfalso; omega
/-- the length of a row's array behind a push -/
def zPc (c most : Nat) (n : Int) : Nat := if n < c then c else min most (2 * n.toNat + 1)
theorem zCap_s {r : zH} {t : Nat} : (zCap r t (r.2 t)).2 = r.2 := by
  funext p
  show (if p = t then r.2 t else r.2 p) = r.2 p
  split
  · next e => rw [e]
  · rfl
theorem c_X1_push {E : zE} (hst : E.1.stackTraces = false) {H : Heap} {r : zH} {t q most : Nat} {n : Int} {g : Int → Int} {v : Int} (h : zRow E H r t q most n g) (hlt : n < most) (hcs : (n ≤ 900 ∧ most = 1024) ∨ most ≤ 20) : zC E yX1_push cX1_push 2 none 2 62 [.ref q, .int (iI v)] H (zPc (r.2 (t + 1)) most n - r.2 (t + 1)) (20 * (zPc (r.2 (t + 1)) most n - r.2 (t + 1))) (zRv (fun H1 => ∃ r1, zFr H r H1 r1 (fun s => s = t ∨ s = t + 1) ∧ zRow E H1 r1 t q most (n + 1) (zU g n v) ∧ r1.2 = (zCap r (t + 1) (zPc (r.2 (t + 1)) most n)).2)) zN := by
  refine zC.of (by decide) (Nat.le_of_ble_eq_true rfl) hst ?_
  intro x O hE hpo hpx
  subst hE
  change zG x H 0 0 0 [(0, .ref q), (1, .int (iI v))] []
  obtain ⟨it, f, hO, hA, hfg, hn0, hn1, hc1, hcm, hmo⟩ := h
  have e1 : n < (r.2 (t + 1) : Nat) → zPc (r.2 (t + 1)) most n = r.2 (t + 1) := fun h => if_pos h
  have e2 : ¬ n < (r.2 (t + 1) : Nat) → (zPc (r.2 (t + 1)) most n = most ∧ most ≤ 2 * n.toNat + 1) ∨ (zPc (r.2 (t + 1)) most n = 2 * n.toNat + 1 ∧ 2 * n.toNat + 1 ≤ most) := fun h => by unfold zPc; rw [if_neg h]; omega
  refine z_aload_n 0 O dX1_push_0 rfl ?_
  refine z_getf kF_X1_23 O dX1_push_1 hO.1 rfl ?_
  refine z_if_lt 18 O dX1_push_4 (by decide) ⟨by omega, by omega⟩ (fun c_4 => ?_) (fun c_4 => ?_)
  · exfalso; omega
  · skip
    refine z_aload_n 0 O dX1_push_7 rfl ?_
    refine z_getf kF_X1_23 O dX1_push_8 hO.1 rfl ?_
    refine z_aload_n 0 O dX1_push_11 rfl ?_
    refine z_getf kF_X1_19 O dX1_push_12 hO.1 rfl ?_
    refine z_icmp_lt 19 O dX1_push_15 (by decide) ⟨by omega, by omega⟩ ⟨by omega, by omega⟩ (fun c_15 => ?_) (fun c_15 => ?_)
    · skip
      refine z_aload_n 0 O dX1_push_19 rfl ?_
      refine z_getf kF_X1_23 O dX1_push_20 hO.1 rfl ?_
      refine z_aload_n 0 O dX1_push_23 rfl ?_
      refine z_getf kF_X1_13 O dX1_push_24 hO.1 rfl ?_
      refine z_alen (by decide) O dX1_push_27 hA.1 ?_
      refine z_icmp_lt 57 O dX1_push_28 (by decide) ⟨by omega, by omega⟩ ⟨by omega, by omega⟩ (fun c_28 => ?_) (fun c_28 => ?_)
      · skip
        have e9 := e1 c_28
        refine z_aload_n 0 O dX1_push_57 rfl ?_
        refine z_getf kF_X1_23 O dX1_push_58 hO.1 rfl ?_
        refine z_aload_n 0 O dX1_push_61 rfl ?_
        refine z_getf kF_X1_13 O dX1_push_62 hO.1 rfl ?_
        refine z_alen (by decide) O dX1_push_65 hA.1 ?_
        refine z_icmp_ge 89 O dX1_push_66 (by decide) ⟨by omega, by omega⟩ ⟨by omega, by omega⟩ (fun c_66 => ?_) (fun c_66 => ?_)
        · exfalso; omega
        · skip
          refine z_aload_n 0 O dX1_push_69 rfl ?_
          refine z_getf kF_X1_13 O dX1_push_70 hO.1 rfl ?_
          refine z_aload_n 0 O dX1_push_73 rfl ?_
          refine z_getf kF_X1_23 O dX1_push_74 hO.1 rfl ?_
          refine z_iload_n 1 O dX1_push_77 rfl ?_
          refine z_iast O dX1_push_78 hA.1 ⟨by omega, by omega⟩ (by omega) (by omega) (fun H1 hA2 hC3 => ?_)
          have hf4 := hA.ch hC3
          have ha5 : zA (zEn x) H1 r (t + 1) it (r.2 (t + 1)) (zU f n v) := ⟨hA2, hA.2⟩
          have hO6 := hO.fr hf4 (zT1 (by omega))
          refine z_aload_n 0 O dX1_push_79 rfl ?_
          refine z_dup O dX1_push_80 rfl ?_
          refine z_getf kF_X1_23 O dX1_push_81 hO6.1 rfl ?_
          refine z_iconst 1 O dX1_push_84 (by decide +kernel) ?_
          refine z_iadd O dX1_push_85 ?_
          refine z_putf kP_X1_23 O (fun h => nomatch h) dX1_push_86 hO6.1 rfl rfl (Nat.le_of_ble_eq_true rfl) (fun H7 hO8 hC9 => ?_)
          have hf10 := hO6.ch hC9
          have ho11 : zO (zEn x) H7 r t q 1 [.int (iI (most : Int)), .ref it, .int (iI (n + 1))] := ⟨hO8, hO6.2⟩
          have ha12 := ha5.fr hf10 (zT1 (by omega))
          exact z_iretv O dX1_push_89 rfl (by omega) (by omega) hpo (⟨r, (((hf4.up (fun s h => by first | exact h.elim | omega | (simp at h ⊢; omega)))).tr (hf10.up (fun s h => by first | exact h.elim | omega | (simp at h ⊢; omega)))), ⟨it, _, ho11, ha12, fun j h1 h2 => by unfold zU; split; rfl; exact hfg j h1 (by omega), by omega, by omega, hc1, hcm, hmo⟩, (by rw [e9]; exact zCap_s.symm)⟩)
      · skip
        have e9 := e2 (by omega)
        refine z_aload_n 0 O dX1_push_31 rfl ?_
        refine z_aload_n 0 O dX1_push_32 rfl ?_
        refine z_getf kF_X1_13 O dX1_push_33 hO.1 rfl ?_
        refine z_aload_n 0 O dX1_push_36 rfl ?_
        refine z_getf kF_X1_19 O dX1_push_37 hO.1 rfl ?_
        refine z_iconst 2 O dX1_push_40 (by decide +kernel) ?_
        refine z_aload_n 0 O dX1_push_41 rfl ?_
        refine z_getf kF_X1_23 O dX1_push_42 hO.1 rfl ?_
        refine z_imul O dX1_push_45 ?_
        refine z_iconst 1 O dX1_push_46 (by decide +kernel) ?_
        refine z_iadd O dX1_push_47 ?_
        refine z_mmin (List.mem_of_getElem? (i := 103) (by decide +kernel)) O dX1_push_48 (by decide) (Nat.le_of_ble_eq_true rfl) (by omega) (by omega) ⟨by omega, by omega⟩ ⟨by omega, by omega⟩ ?_
        obtain ⟨m, hm⟩ : ∃ z : Nat, (z : Int) = min (most : Int) ((2 * n) + 1) := ⟨zPc (r.2 (t + 1)) most n, by omega⟩
        rw [← hm]
        refine z_Srm [.ref it, .int (iI (m : Int))] [.ref q] kM_X1_29 O dX1_push_51 (c_J7_copyOf hst hA.1 (m := m) (by omega) (by omega)) rfl rfl (by decide) (Nat.le_of_ble_eq_true rfl) (by omega) (by omega) (Nat.le_of_ble_eq_true rfl) zNx (fun H1 hp hz => ?_)
        obtain ⟨hI, hN⟩ := hp
        obtain ⟨r1, er1⟩ : ∃ z, z = zCap (zTag r H.size (t + 1)) (t + 1) m := ⟨_, rfl⟩
        have hf1 : zFr H r H1 r1 (fun s => s = t + 1) := by rw [er1]; exact ((hN.fr r (t + 1) _).up (fun _ h => h)).tr zCap.fr
        obtain ⟨q1, eq1⟩ : ∃ z, z = H.size := ⟨_, rfl⟩
        have q1t : r1.1 q1 = t + 1 := by rw [er1, eq1]; exact zTag_1
        have hcap : r1.2 (t + 1) = m := by rw [er1]; exact if_pos rfl
        have hgz : ∀ i : Int, 0 ≤ i → i < n → zCpy f (fun _ => 0) 0 0 (r.2 (t + 1)) i = g i := fun i h1 h2 => by unfold zCpy; rw [if_pos ⟨by omega, by omega⟩, show (0 : Int) + (i - 0) = i by omega]; exact hfg i h1 h2
        change zG x H1 _ _ _ _ (.ref H.size :: .ref q :: [])
        rw [← eq1]
        have ha1 : zA (zEn x) H1 r1 (t + 1) q1 m (zCpy f (fun _ => 0) 0 0 (r.2 (t + 1))) := ⟨by rw [eq1]; exact hI, q1t⟩
        have ho1 := hO.fr hf1 (zT1 (by omega))
        refine z_putf kP_X1_13 O (fun h => nomatch h) dX1_push_54 ho1.1 rfl rfl (Nat.le_of_ble_eq_true rfl) (fun H13 hO14 hC15 => ?_)
        have hf16 := ho1.ch hC15
        have ho17 : zO (zEn x) H13 r1 t q 1 [.int (iI (most : Int)), .ref q1, .int (iI n)] := ⟨hO14, ho1.2⟩
        have ha18 := ha1.fr hf16 (zT1 (by omega))
        refine z_aload_n 0 O dX1_push_57 rfl ?_
        refine z_getf kF_X1_23 O dX1_push_58 ho17.1 rfl ?_
        refine z_aload_n 0 O dX1_push_61 rfl ?_
        refine z_getf kF_X1_13 O dX1_push_62 ho17.1 rfl ?_
        refine z_alen (by decide) O dX1_push_65 ha18.1 ?_
        refine z_icmp_ge 89 O dX1_push_66 (by decide) ⟨by omega, by omega⟩ ⟨by omega, by omega⟩ (fun c_66 => ?_) (fun c_66 => ?_)
        · exfalso; omega
        · skip
          refine z_aload_n 0 O dX1_push_69 rfl ?_
          refine z_getf kF_X1_13 O dX1_push_70 ho17.1 rfl ?_
          refine z_aload_n 0 O dX1_push_73 rfl ?_
          refine z_getf kF_X1_23 O dX1_push_74 ho17.1 rfl ?_
          refine z_iload_n 1 O dX1_push_77 rfl ?_
          refine z_iast O dX1_push_78 ha18.1 ⟨by omega, by omega⟩ (by omega) (by omega) (fun H19 hA20 hC21 => ?_)
          have hf22 := ha18.ch hC21
          have ha23 : zA (zEn x) H19 r1 (t + 1) q1 m (zU (zCpy f (fun _ => 0) 0 0 (r.2 (t + 1))) n v) := ⟨hA20, ha18.2⟩
          have ho24 := ho17.fr hf22 (zT1 (by omega))
          refine z_aload_n 0 O dX1_push_79 rfl ?_
          refine z_dup O dX1_push_80 rfl ?_
          refine z_getf kF_X1_23 O dX1_push_81 ho24.1 rfl ?_
          refine z_iconst 1 O dX1_push_84 (by decide +kernel) ?_
          refine z_iadd O dX1_push_85 ?_
          refine z_putf kP_X1_23 O (fun h => nomatch h) dX1_push_86 ho24.1 rfl rfl (Nat.le_of_ble_eq_true rfl) (fun H25 hO26 hC27 => ?_)
          have hf28 := ho24.ch hC27
          have ho29 : zO (zEn x) H25 r1 t q 1 [.int (iI (most : Int)), .ref q1, .int (iI (n + 1))] := ⟨hO26, ho24.2⟩
          have ha30 := ha23.fr hf28 (zT1 (by omega))
          exact z_iretv O dX1_push_89 rfl (by omega) (by omega) hpo (⟨r1, (((((((hf1.up (fun s h => by first | exact h.elim | omega | (simp at h ⊢; omega)))).tr (hf16.up (fun s h => by first | exact h.elim | omega | (simp at h ⊢; omega))))).tr (hf22.up (fun s h => by first | exact h.elim | omega | (simp at h ⊢; omega))))).tr (hf28.up (fun s h => by first | exact h.elim | omega | (simp at h ⊢; omega)))), ⟨q1, _, ho29, (by rw [hcap]; exact ha30), fun j h1 h2 => by unfold zU; split; rfl; exact hgz j h1 (by omega), by omega, by omega, by omega, by omega, hmo⟩, (by rw [er1, show zPc (r.2 (t + 1)) most n = m by omega]; rfl)⟩)
    · exfalso; omega

theorem c_X1_copyFrom {E : zE} (hst : E.1.stackTraces = false) {H : Heap} {r : zH} {t q most t2 q2 : Nat} {n n2 : Int} {g g2 : Int → Int} (h : zRow E H r t q most n g) (h2 : zRow E H r t2 q2 most n2 g2) (ht : t2 ≠ t ∧ t2 ≠ t + 1 ∧ t ≠ t2 + 1) : zC E yX1_copyFrom cX1_copyFrom 2 none 1 40 [.ref q, .ref q2] H 1 most (zRv (fun H1 => ∃ r1, zFr H r H1 r1 (fun s => s = t ∨ s = t + 1) ∧ zRow E H1 r1 t q most n2 g2 ∧ ∃ m : Nat, r.2 (t + 1) ≤ m ∧ r1.2 = (zCap r (t + 1) m).2)) zN := by
  refine zC.of (by decide) (Nat.le_of_ble_eq_true rfl) hst ?_
  intro x O hE hpo hpx
  subst hE
  change zG x H 0 0 0 [(0, .ref q), (1, .ref q2)] []
  obtain ⟨it, f, hO, hA, hfg, hn0, hn1, hc1, hcm, hmo⟩ := h
  obtain ⟨it2, f2, gO, gA, hfg2, hm0, hm1, hd1, hdm, -⟩ := h2
  refine z_aload_n 1 O dX1_copyFrom_0 rfl ?_
  refine z_getf kF_X1_23 O dX1_copyFrom_1 gO.1 rfl ?_
  refine z_aload_n 0 O dX1_copyFrom_4 rfl ?_
  refine z_getf kF_X1_13 O dX1_copyFrom_5 hO.1 rfl ?_
  refine z_alen (by decide) O dX1_copyFrom_8 hA.1 ?_
  refine z_icmp_le 29 O dX1_copyFrom_9 (by decide) ⟨by omega, by omega⟩ ⟨by omega, by omega⟩ (fun c_9 => ?_) (fun c_9 => ?_)
  · skip
    refine z_aload_n 1 O dX1_copyFrom_29 rfl ?_
    refine z_getf kF_X1_23 O dX1_copyFrom_30 gO.1 rfl ?_
    refine z_if_lt 65 O dX1_copyFrom_33 (by decide) ⟨by omega, by omega⟩ (fun c_33 => ?_) (fun c_33 => ?_)
    · exfalso; omega
    · skip
      refine z_aload_n 1 O dX1_copyFrom_36 rfl ?_
      refine z_getf kF_X1_23 O dX1_copyFrom_37 gO.1 rfl ?_
      refine z_aload_n 1 O dX1_copyFrom_40 rfl ?_
      refine z_getf kF_X1_13 O dX1_copyFrom_41 gO.1 rfl ?_
      refine z_alen (by decide) O dX1_copyFrom_44 gA.1 ?_
      refine z_icmp_gt 65 O dX1_copyFrom_45 (by decide) ⟨by omega, by omega⟩ ⟨by omega, by omega⟩ (fun c_45 => ?_) (fun c_45 => ?_)
      · exfalso; omega
      · skip
        refine z_aload_n 1 O dX1_copyFrom_48 rfl ?_
        refine z_getf kF_X1_13 O dX1_copyFrom_49 gO.1 rfl ?_
        refine z_iconst 0 O dX1_copyFrom_52 (by decide +kernel) ?_
        refine z_aload_n 0 O dX1_copyFrom_53 rfl ?_
        refine z_getf kF_X1_13 O dX1_copyFrom_54 hO.1 rfl ?_
        refine z_iconst 0 O dX1_copyFrom_57 (by decide +kernel) ?_
        refine z_aload_n 1 O dX1_copyFrom_58 rfl ?_
        refine z_getf kF_X1_23 O dX1_copyFrom_59 gO.1 rfl ?_
        refine z_acopy (List.mem_of_getElem? (i := 730) (by decide +kernel)) O dX1_copyFrom_62 (by decide) (Nat.le_of_ble_eq_true rfl) gA.1 hA.1 ⟨by omega, by omega⟩ ⟨by omega, by omega⟩ ⟨by omega, by omega⟩ (by omega) (by omega) (by omega) (by omega) (by omega) (fun H1 hA2 hC3 => ?_)
        have hf4 := hA.ch hC3
        have ha5 : zA (zEn x) H1 r (t + 1) it (r.2 (t + 1)) (zCpy f2 f 0 0 n2) := ⟨hA2, hA.2⟩
        have hO6 := hO.fr hf4 (zT1 (by omega))
        have gO7 := gO.fr hf4 (zT1 (by omega))
        have gA8 := gA.fr hf4 (zT1 (by omega))
        refine z_aload_n 0 O dX1_copyFrom_65 rfl ?_
        refine z_aload_n 1 O dX1_copyFrom_66 rfl ?_
        refine z_getf kF_X1_23 O dX1_copyFrom_67 gO7.1 rfl ?_
        refine z_putf kP_X1_23 O (fun h => nomatch h) dX1_copyFrom_70 hO6.1 rfl rfl (Nat.le_of_ble_eq_true rfl) (fun H9 hO10 hC11 => ?_)
        have hf12 := hO6.ch hC11
        have ho13 : zO (zEn x) H9 r t q 1 [.int (iI (most : Int)), .ref it, .int (iI n2)] := ⟨hO10, hO6.2⟩
        have ha14 := ha5.fr hf12 (zT1 (by omega))
        have gO15 := gO7.fr hf12 (zT1 (by omega))
        have gA16 := gA8.fr hf12 (zT1 (by omega))
        exact z_iretv O dX1_copyFrom_73 rfl (by omega) (by omega) hpo (⟨r, (((hf4.up (fun s h => by first | exact h.elim | omega | (simp at h ⊢; omega)))).tr (hf12.up (fun s h => by first | exact h.elim | omega | (simp at h ⊢; omega)))), ⟨it, _, ho13, ha14, fun j h1 h2 => by unfold zCpy; rw [if_pos ⟨by omega, by omega⟩, show (0 : Int) + (j - 0) = j by omega]; exact hfg2 j h1 h2, hm0, by omega, hc1, hcm, hmo⟩, r.2 (t + 1), Nat.le_refl _, zCap_s.symm⟩)
  · skip
    refine z_aload_n 0 O dX1_copyFrom_12 rfl ?_
    refine z_aload_n 1 O dX1_copyFrom_13 rfl ?_
    refine z_getf kF_X1_13 O dX1_copyFrom_14 gO.1 rfl ?_
    refine z_clone (List.mem_of_getElem? (i := 728) (by decide +kernel)) O dX1_copyFrom_17 (by decide) (Nat.le_of_ble_eq_true rfl) (by omega) (by omega) gA.1 (fun H17 hA18 hN19 => ?_)
    obtain ⟨r21, er21⟩ : ∃ z, z = zCap (zTag r H.size (t + 1)) (t + 1) (r.2 (t2 + 1)) := ⟨_, rfl⟩
    have hf22 : zFr H r H17 r21 (fun s => s = (t + 1)) := by rw [er21]; exact (hN19.fr r (t + 1) _).tr zCap.fr
    obtain ⟨q20, eq20⟩ : ∃ z, z = H.size := ⟨_, rfl⟩
    have q20t : r21.1 q20 = (t + 1) := by rw [er21, eq20]; exact zTag_1
    have q20c : r21.2 (t + 1) = r.2 (t2 + 1) := by rw [er21]; exact if_pos rfl
    rw [← eq20]
    have hO23 := hO.fr hf22 (zT1 (by omega))
    have gO24 := gO.fr hf22 (zT1 (by omega))
    have gA25 := gA.fr hf22 (zT1 (by omega))
    have ha26 : zA (zEn x) H17 r21 (t + 1) q20 (r.2 (t2 + 1)) f2 := ⟨by rw [eq20]; exact hA18, q20t⟩
    refine z_castI (List.mem_of_getElem? (i := 729) (by decide +kernel)) O dX1_copyFrom_20 ha26.1 ?_
    refine z_putf kP_X1_13 O (fun h => nomatch h) dX1_copyFrom_23 hO23.1 rfl rfl (Nat.le_of_ble_eq_true rfl) (fun H27 hO28 hC29 => ?_)
    have hf30 := hO23.ch hC29
    have ho31 : zO (zEn x) H27 r21 t q 1 [.int (iI (most : Int)), .ref q20, .int (iI n)] := ⟨hO28, hO23.2⟩
    have gO32 := gO24.fr hf30 (zT1 (by omega))
    have gA33 := gA25.fr hf30 (zT1 (by omega))
    have ha34 := ha26.fr hf30 (zT1 (by omega))
    refine z_goto 65 O dX1_copyFrom_26 (by decide) ?_
    refine z_aload_n 0 O dX1_copyFrom_65 rfl ?_
    refine z_aload_n 1 O dX1_copyFrom_66 rfl ?_
    refine z_getf kF_X1_23 O dX1_copyFrom_67 gO32.1 rfl ?_
    refine z_putf kP_X1_23 O (fun h => nomatch h) dX1_copyFrom_70 ho31.1 rfl rfl (Nat.le_of_ble_eq_true rfl) (fun H35 hO36 hC37 => ?_)
    have hf38 := ho31.ch hC37
    have ho39 : zO (zEn x) H35 r21 t q 1 [.int (iI (most : Int)), .ref q20, .int (iI n2)] := ⟨hO36, ho31.2⟩
    have gO40 := gO32.fr hf38 (zT1 (by omega))
    have gA41 := gA33.fr hf38 (zT1 (by omega))
    have ha42 := ha34.fr hf38 (zT1 (by omega))
    exact z_iretv O dX1_copyFrom_73 rfl (by omega) (by omega) hpo (⟨r21, (((((hf22.up (fun s h => by first | exact h.elim | omega | (simp at h ⊢; omega)))).tr (hf30.up (fun s h => by first | exact h.elim | omega | (simp at h ⊢; omega))))).tr (hf38.up (fun s h => by first | exact h.elim | omega | (simp at h ⊢; omega)))), ⟨q20, _, ho39, (by rw [q20c]; exact ha42), fun j h1 h2 => hfg2 j h1 h2, hm0, by omega, by omega, by omega, hmo⟩, r.2 (t2 + 1), by omega, (by rw [er21]; rfl)⟩)

theorem c_X1_init {E : zE} (hst : E.1.stackTraces = false) {H : Heap} {r : zH} {t q most c : Nat} (hO : zO E H r t q 1 [.int (iI 0), .null, .int (iI 0)]) (hc : 1 ≤ c ∧ c ≤ most) (hmo : most ≤ 1024) : zC E yX1_init cX1_init 3 none 1 20 [.ref q, .int (iI (c : Int)), .int (iI (most : Int))] H 1 c (zRv (fun H1 => ∃ r1, zFr H r H1 r1 (fun s => s = t ∨ s = t + 1) ∧ zRow E H1 r1 t q most 0 (fun _ => 0) ∧ r1.2 (t + 1) = c)) zN := by
  refine zC.of (by decide) (Nat.le_of_ble_eq_true rfl) hst ?_
  intro x O hE hpo hpx
  subst hE
  change zG x H 0 0 0 [(0, .ref q), (1, .int (iI (c : Int))), (2, .int (iI (most : Int)))] []
  refine z_aload_n 0 O dX1_init_0 rfl ?_
  refine z_objInit (List.mem_of_getElem? (i := 71) (by decide +kernel)) O dX1_init_1 (by decide) (Nat.le_of_ble_eq_true rfl) ?_
  refine z_aload_n 0 O dX1_init_4 rfl ?_
  refine z_iconst 1 O dX1_init_5 (by decide +kernel) ?_
  refine z_iload_n 1 O dX1_init_6 rfl ?_
  refine z_mmax (List.mem_of_getElem? (i := 72) (by decide +kernel)) O dX1_init_7 (by decide) (Nat.le_of_ble_eq_true rfl) (by omega) (by omega) ⟨by omega, by omega⟩ ⟨by omega, by omega⟩ ?_
  refine z_newi (n := c) O dX1_init_10 ⟨by omega, by omega⟩ (by omega) (by omega) (by omega) (by omega) (by omega) (fun H1 hA2 hN3 => ?_)
  obtain ⟨r5, er5⟩ : ∃ z, z = zCap (zTag r H.size (t + 1)) (t + 1) c := ⟨_, rfl⟩
  have hf6 : zFr H r H1 r5 (fun s => s = (t + 1)) := by rw [er5]; exact (hN3.fr r (t + 1) _).tr zCap.fr
  obtain ⟨q4, eq4⟩ : ∃ z, z = H.size := ⟨_, rfl⟩
  have q4t : r5.1 q4 = (t + 1) := by rw [er5, eq4]; exact zTag_1
  have q4c : r5.2 (t + 1) = c := by rw [er5]; exact if_pos rfl
  rw [← eq4]
  have hO7 := hO.fr hf6 (zT1 (by omega))
  have ha8 : zA (zEn x) H1 r5 (t + 1) q4 c (fun _ => 0) := ⟨by rw [eq4]; exact hA2, q4t⟩
  refine z_putf kP_X1_13 O (fun _ => rfl) dX1_init_12 hO7.1 rfl rfl (Nat.le_of_ble_eq_true rfl) (fun H9 hO10 hC11 => ?_)
  have hf12 := hO7.ch hC11
  have ho13 : zO (zEn x) H9 r5 t q 1 [.int (iI 0), .ref q4, .int (iI 0)] := ⟨hO10, hO7.2⟩
  have ha14 := ha8.fr hf12 (zT1 (by omega))
  refine z_aload_n 0 O dX1_init_15 rfl ?_
  refine z_iload_n 2 O dX1_init_16 rfl ?_
  refine z_putf kP_X1_19 O (fun _ => rfl) dX1_init_17 ho13.1 rfl rfl (Nat.le_of_ble_eq_true rfl) (fun H15 hO16 hC17 => ?_)
  have hf18 := ho13.ch hC17
  have ho19 : zO (zEn x) H15 r5 t q 1 [.int (iI (most : Int)), .ref q4, .int (iI 0)] := ⟨hO16, ho13.2⟩
  have ha20 := ha14.fr hf18 (zT1 (by omega))
  exact z_iretv O dX1_init_20 rfl (by omega) (by omega) hpo (⟨r5, (((((hf6.up (fun s h => by first | exact h.elim | omega | (simp at h ⊢; omega)))).tr (hf12.up (fun s h => by first | exact h.elim | omega | (simp at h ⊢; omega))))).tr (hf18.up (fun s h => by first | exact h.elim | omega | (simp at h ⊢; omega)))), ⟨q4, _, ho19, (by rw [q4c]; exact ha20), fun j h1 h2 => by omega, by omega, by omega, by omega, by omega, hmo⟩, q4c⟩)
