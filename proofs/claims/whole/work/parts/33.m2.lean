/-! the reference: its methods that write (written by program: wip/whole/gen/model2.py) -/
theorem c_X6_copy {E : zE} (hst : E.1.stackTraces = false) {H : Heap} {r : zH} {t0 q0 n0 t q n1 : Nat} {f g : Int → Int} {fa ta m : Int} (h0 : zA E H r t0 q0 n0 f) (h1 : zA E H r t q n1 g) (ht : t0 ≠ t) (hfa : 0 ≤ fa) (hta : 0 ≤ ta) (hm : 0 ≤ m) (hn0 : fa + m ≤ n0) (hn1 : ta + m ≤ n1) (hsz : n0 ≤ 100000 ∧ n1 ≤ 100000) : zC E yX6_copy cX6_copy 6 none 0 0 [.ref q0, .int (iI fa), .ref q, .int (iI ta), .int (iI m)] H 0 0 (zRv (fun H1 => zFr H r H1 r (fun s => s = t) ∧ zA E H1 r t q n1 (zCpy f g fa ta m))) zN := by
  refine zC.of (by decide) (Nat.le_of_ble_eq_true rfl) hst ?_
  intro x O hE hpo hpx
  subst hE
  change zG x H 0 0 0 [(0, .ref q0), (1, .int (iI fa)), (2, .ref q), (3, .int (iI ta)), (4, .int (iI m))] []
  refine z_iconst 0 O dX6_copy_0 (by decide +kernel) ?_
  refine z_istore [(5, .int (iI 0)), (0, .ref q0), (1, .int (iI fa)), (2, .ref q), (3, .int (iI ta)), (4, .int (iI m))] O dX6_copy_1 (by decide) rfl ?_
  have loop : ∀ (d : Nat) (k : Int) (H' : Heap), (k + (d : Int) = m) → (0 ≤ k) → (zFr H r H' r (fun s => s = t)) → (zA (zEn x) H' r t0 q0 n0 f) → (zA (zEn x) H' r t q n1 (zCpy f g fa ta k)) → zG x H' 0 0 3 [(5, .int (iI k)), (0, .ref q0), (1, .int (iI fa)), (2, .ref q), (3, .int (iI ta)), (4, .int (iI m))] [] := by
    intro d
    induction d with
    | zero =>
      intro k H' hd hk hf' h0' h1'
      refine z_iload 0 O dX6_copy_3 rfl ?_
      refine z_iload 5 O dX6_copy_5 rfl ?_
      refine z_icmp_ge 28 O dX6_copy_7 (by decide) ⟨by omega, by omega⟩ ⟨by omega, by omega⟩ (fun c_7 => ?_) (fun c_7 => ?_)
      · skip
        exact z_iretv O dX6_copy_28 rfl (by omega) (by omega) hpo (⟨(hf'.up (fun s h => by first | exact h.elim | omega | (simp at h ⊢; omega))), by rw [show m = k by omega]; exact h1'⟩)
      · exfalso; omega
    | succ d ih =>
      intro k H' hd hk hf' h0' h1'
      refine z_iload 0 O dX6_copy_3 rfl ?_
      refine z_iload 5 O dX6_copy_5 rfl ?_
      refine z_icmp_ge 28 O dX6_copy_7 (by decide) ⟨by omega, by omega⟩ ⟨by omega, by omega⟩ (fun c_7 => ?_) (fun c_7 => ?_)
      · exfalso; omega
      · skip
        refine z_aload_n 3 O dX6_copy_10 rfl ?_
        refine z_iload_n 4 O dX6_copy_11 rfl ?_
        refine z_iload 0 O dX6_copy_12 rfl ?_
        refine z_iadd O dX6_copy_14 ?_
        refine z_aload_n 1 O dX6_copy_15 rfl ?_
        refine z_iload_n 2 O dX6_copy_16 rfl ?_
        refine z_iload 0 O dX6_copy_17 rfl ?_
        refine z_iadd O dX6_copy_19 ?_
        refine z_iald O dX6_copy_20 h0'.1 ⟨by omega, by omega⟩ (by omega) (by omega) ?_
        refine z_iast O dX6_copy_21 h1'.1 ⟨by omega, by omega⟩ (by omega) (by omega) (fun H1 hA2 hC3 => ?_)
        have hf4 := h1'.ch hC3
        have ha5 : zA (zEn x) H1 r t q n1 (zU (zCpy f g fa ta k) (ta + k) (f (fa + k))) := ⟨hA2, h1'.2⟩
        have h0'6 := h0'.fr hf4 (zT1 (by omega))
        refine z_iinc 0 [(5, .int (iI (k + 1))), (0, .ref q0), (1, .int (iI fa)), (2, .ref q), (3, .int (iI ta)), (4, .int (iI m))] O dX6_copy_22 (by decide) rfl rfl ?_
        refine z_goto 3 O dX6_copy_25 (by decide) ?_
        exact ih (k + 1) H1 (by omega) (by omega) (((hf'.up (fun s h => by first | exact h.elim | omega | (simp at h ⊢; omega)))).tr (hf4.up (fun s h => by first | exact h.elim | omega | (simp at h ⊢; omega)))) h0'6 (by rw [← zCpy_s (by omega)]; exact ha5)
  exact loop m.toNat 0 H (by omega) (by omega) zFr.rf h0 (by rw [zCpy_0]; exact h1)

theorem c_X6_clean {E : zE} (hst : E.1.stackTraces = false) {H : Heap} {r : zH} {t q : Nat} {g : Int → Int} (hA : zA E H r t q 4086 g) : zC E yX6_clean cX6_clean 2 none 0 0 [.ref q] H 0 0 (zRv (fun H1 => zFr H r H1 r (fun s => s = t) ∧ zA E H1 r t q 4086 sClean)) zN := by
  refine zC.of (by decide) (Nat.le_of_ble_eq_true rfl) hst ?_
  intro x O hE hpo hpx
  subst hE
  change zG x H 0 0 0 [(0, .ref q)] []
  refine z_iconst 0 O dX6_clean_0 (by decide +kernel) ?_
  refine z_istore_n [(1, .int (iI 0)), (0, .ref q)] O dX6_clean_1 (by decide) rfl ?_
  have loop : ∀ (d : Nat) (k : Int) (H' : Heap), (k + (d : Int) = 4086) → (0 ≤ k) → (zFr H r H' r (fun s => s = t)) → (zA (zEn x) H' r t q 4086 (zFl g 0 k)) → zG x H' 0 0 2 [(1, .int (iI k)), (0, .ref q)] [] := by
    intro d
    induction d with
    | zero =>
      intro k H' hd hk hf' hA'
      refine z_iload_n 0 O dX6_clean_2 rfl ?_
      refine z_sipush 4086 O dX6_clean_3 (by decide +kernel) ?_
      refine z_icmp_ge 19 O dX6_clean_6 (by decide) ⟨by omega, by omega⟩ ⟨by omega, by omega⟩ (fun c_6 => ?_) (fun c_6 => ?_)
      · skip
        refine z_aload_n 1 O dX6_clean_19 rfl ?_
        refine z_bipush 32 O dX6_clean_20 (by decide +kernel) ?_
        refine z_iconst 1 O dX6_clean_22 (by decide +kernel) ?_
        refine z_iast O dX6_clean_23 hA'.1 ⟨by omega, by omega⟩ (by omega) (by omega) (fun H1 hA2 hC3 => ?_)
        have hf4 := hA'.ch hC3
        have ha5 : zA (zEn x) H1 r t q 4086 (zU (zFl g 0 k) 32 1) := ⟨hA2, hA'.2⟩
        exact z_iretv O dX6_clean_24 rfl (by omega) (by omega) hpo (⟨(((hf'.up (fun s h => by first | exact h.elim | omega | (simp at h ⊢; omega)))).tr (hf4.up (fun s h => by first | exact h.elim | omega | (simp at h ⊢; omega)))), ha5.1.to (fun j h1 h2 => by unfold zU zFl sClean; (repeat' split) <;> first | rfl | omega), ha5.2⟩)
      · exfalso; omega
    | succ d ih =>
      intro k H' hd hk hf' hA'
      refine z_iload_n 0 O dX6_clean_2 rfl ?_
      refine z_sipush 4086 O dX6_clean_3 (by decide +kernel) ?_
      refine z_icmp_ge 19 O dX6_clean_6 (by decide) ⟨by omega, by omega⟩ ⟨by omega, by omega⟩ (fun c_6 => ?_) (fun c_6 => ?_)
      · exfalso; omega
      · skip
        refine z_aload_n 1 O dX6_clean_9 rfl ?_
        refine z_iload_n 0 O dX6_clean_10 rfl ?_
        refine z_iconst 0 O dX6_clean_11 (by decide +kernel) ?_
        refine z_iast O dX6_clean_12 hA'.1 ⟨by omega, by omega⟩ (by omega) (by omega) (fun H6 hA7 hC8 => ?_)
        have hf9 := hA'.ch hC8
        have ha10 : zA (zEn x) H6 r t q 4086 (zU (zFl g 0 k) k 0) := ⟨hA7, hA'.2⟩
        refine z_iinc 0 [(1, .int (iI (k + 1))), (0, .ref q)] O dX6_clean_13 (by decide) rfl rfl ?_
        refine z_goto 2 O dX6_clean_16 (by decide) ?_
        exact ih (k + 1) H6 (by omega) (by omega) (((hf'.up (fun s h => by first | exact h.elim | omega | (simp at h ⊢; omega)))).tr (hf9.up (fun s h => by first | exact h.elim | omega | (simp at h ⊢; omega)))) (by rw [← zFl_s (by omega) (show k = 0 + k by omega)]; exact ha10)
  exact loop 4086 0 H (by omega) (by omega) zFr.rf (by rw [zFl_0]; exact hA)
