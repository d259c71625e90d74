/-! Row: its methods (written by program: wip/whole/gen/rows.py) -/
/-- what get answers -/
def zRg (n : Int) (g : Int → Int) (i : Int) : Int := if 0 ≤ i ∧ i < n then g i else 0
/-- what set leaves -/
def zRs (n : Int) (g : Int → Int) (i v : Int) : Int → Int := if 0 ≤ i ∧ i < n then zU g i v else g
/-- what cutTo leaves -/
def zRc (n l : Int) : Int := if 0 ≤ l ∧ l < n then l else n
theorem c_X1_get {E : zE} (hst : E.1.stackTraces = false) {H : Heap} {r : zH} {t q most : Nat} {n : Int} {g : Int → Int} {i : Int} (h : zRow E H r t q most n g) (hi : zR i) : zC E yX1_get cX1_get 2 (some .int) 0 0 [.ref q, .int (iI i)] H 0 0 (zRi (zRg n g i) (zSm H)) zN := by
  refine zC.of (by decide) (Nat.le_of_ble_eq_true rfl) hst ?_
  intro x O hE hpo hpx
  subst hE
  change zG x H 0 0 0 [(0, .ref q), (1, .int (iI i))] []
  obtain ⟨it, f, hO, hA, hfg, hn0, hn1, hc1, hcm, hmo⟩ := h
  refine z_iload_n 1 O dX1_get_0 rfl ?_
  refine z_if_lt 30 O dX1_get_1 (by decide) ⟨by omega, by omega⟩ (fun c_1 => ?_) (fun c_1 => ?_)
  · skip
    refine z_iconst 0 O dX1_get_30 (by decide +kernel) ?_
    exact z_ireti O dX1_get_31 rfl (by omega) (by omega) hpo (by unfold zRg; first | (rw [if_pos ⟨by omega, by omega⟩]; exact hfg i (by omega) (by omega)) | rw [if_neg (by omega)]) (rfl)
  · skip
    refine z_iload_n 1 O dX1_get_4 rfl ?_
    refine z_aload_n 0 O dX1_get_5 rfl ?_
    refine z_getf kF_X1_23 O dX1_get_6 hO.1 rfl ?_
    refine z_icmp_ge 30 O dX1_get_9 (by decide) ⟨by omega, by omega⟩ ⟨by omega, by omega⟩ (fun c_9 => ?_) (fun c_9 => ?_)
    · skip
      refine z_iconst 0 O dX1_get_30 (by decide +kernel) ?_
      exact z_ireti O dX1_get_31 rfl (by omega) (by omega) hpo (by unfold zRg; first | (rw [if_pos ⟨by omega, by omega⟩]; exact hfg i (by omega) (by omega)) | rw [if_neg (by omega)]) (rfl)
    · skip
      refine z_iload_n 1 O dX1_get_12 rfl ?_
      refine z_aload_n 0 O dX1_get_13 rfl ?_
      refine z_getf kF_X1_13 O dX1_get_14 hO.1 rfl ?_
      refine z_alen (by decide) O dX1_get_17 hA.1 ?_
      refine z_icmp_ge 30 O dX1_get_18 (by decide) ⟨by omega, by omega⟩ ⟨by omega, by omega⟩ (fun c_18 => ?_) (fun c_18 => ?_)
      · skip
        refine z_iconst 0 O dX1_get_30 (by decide +kernel) ?_
        exact z_ireti O dX1_get_31 rfl (by omega) (by omega) hpo (by unfold zRg; first | (rw [if_pos ⟨by omega, by omega⟩]; exact hfg i (by omega) (by omega)) | rw [if_neg (by omega)]) (rfl)
      · skip
        refine z_aload_n 0 O dX1_get_21 rfl ?_
        refine z_getf kF_X1_13 O dX1_get_22 hO.1 rfl ?_
        refine z_iload_n 1 O dX1_get_25 rfl ?_
        refine z_iald O dX1_get_26 hA.1 ⟨by omega, by omega⟩ (by omega) (by omega) ?_
        refine z_goto 31 O dX1_get_27 (by decide) ?_
        exact z_ireti O dX1_get_31 rfl (by omega) (by omega) hpo (by unfold zRg; first | (rw [if_pos ⟨by omega, by omega⟩]; exact hfg i (by omega) (by omega)) | rw [if_neg (by omega)]) (rfl)

theorem c_X1_set {E : zE} (hst : E.1.stackTraces = false) {H : Heap} {r : zH} {t q most : Nat} {n : Int} {g : Int → Int} {i v : Int} (h : zRow E H r t q most n g) (hi : zR i) : zC E yX1_set cX1_set 3 none 0 0 [.ref q, .int (iI i), .int (iI v)] H 0 0 (zRv (fun H1 => zFr H r H1 r (fun s => s = t + 1) ∧ zRow E H1 r t q most n (zRs n g i v))) zN := by
  refine zC.of (by decide) (Nat.le_of_ble_eq_true rfl) hst ?_
  intro x O hE hpo hpx
  subst hE
  change zG x H 0 0 0 [(0, .ref q), (1, .int (iI i)), (2, .int (iI v))] []
  obtain ⟨it, f, hO, hA, hfg, hn0, hn1, hc1, hcm, hmo⟩ := h
  refine z_iload_n 1 O dX1_set_0 rfl ?_
  refine z_if_lt 28 O dX1_set_1 (by decide) ⟨by omega, by omega⟩ (fun c_1 => ?_) (fun c_1 => ?_)
  · skip
    exact z_iretv O dX1_set_28 rfl (by omega) (by omega) hpo (⟨zFr.rf, (by unfold zRs; rw [if_neg (by omega)]; exact ⟨it, f, hO, hA, hfg, hn0, hn1, hc1, hcm, hmo⟩)⟩)
  · skip
    refine z_iload_n 1 O dX1_set_4 rfl ?_
    refine z_aload_n 0 O dX1_set_5 rfl ?_
    refine z_getf kF_X1_23 O dX1_set_6 hO.1 rfl ?_
    refine z_icmp_ge 28 O dX1_set_9 (by decide) ⟨by omega, by omega⟩ ⟨by omega, by omega⟩ (fun c_9 => ?_) (fun c_9 => ?_)
    · skip
      exact z_iretv O dX1_set_28 rfl (by omega) (by omega) hpo (⟨zFr.rf, (by unfold zRs; rw [if_neg (by omega)]; exact ⟨it, f, hO, hA, hfg, hn0, hn1, hc1, hcm, hmo⟩)⟩)
    · skip
      refine z_iload_n 1 O dX1_set_12 rfl ?_
      refine z_aload_n 0 O dX1_set_13 rfl ?_
      refine z_getf kF_X1_13 O dX1_set_14 hO.1 rfl ?_
      refine z_alen (by decide) O dX1_set_17 hA.1 ?_
      refine z_icmp_ge 28 O dX1_set_18 (by decide) ⟨by omega, by omega⟩ ⟨by omega, by omega⟩ (fun c_18 => ?_) (fun c_18 => ?_)
      · skip
        exact z_iretv O dX1_set_28 rfl (by omega) (by omega) hpo (⟨zFr.rf, (by unfold zRs; rw [if_neg (by omega)]; exact ⟨it, f, hO, hA, hfg, hn0, hn1, hc1, hcm, hmo⟩)⟩)
      · skip
        refine z_aload_n 0 O dX1_set_21 rfl ?_
        refine z_getf kF_X1_13 O dX1_set_22 hO.1 rfl ?_
        refine z_iload_n 1 O dX1_set_25 rfl ?_
        refine z_iload_n 2 O dX1_set_26 rfl ?_
        refine z_iast O dX1_set_27 hA.1 ⟨by omega, by omega⟩ (by omega) (by omega) (fun H1 hA2 hC3 => ?_)
        have hf4 := hA.ch hC3
        have ha5 : zA (zEn x) H1 r (t + 1) it (r.2 (t + 1)) (zU f i v) := ⟨hA2, hA.2⟩
        have hO6 := hO.fr hf4 (zT1 (by omega))
        exact z_iretv O dX1_set_28 rfl (by omega) (by omega) hpo (⟨hf4.up (fun _ h => h), (by unfold zRs; rw [if_pos ⟨by omega, by omega⟩]; exact ⟨it, zU f i v, hO6, ha5, fun j h1 h2 => by unfold zU; split; rfl; exact hfg j h1 h2, hn0, hn1, hc1, hcm, hmo⟩)⟩)

theorem c_X1_cutTo {E : zE} (hst : E.1.stackTraces = false) {H : Heap} {r : zH} {t q most : Nat} {n : Int} {g : Int → Int} {l : Int} (h : zRow E H r t q most n g) (hi : zR l) : zC E yX1_cutTo cX1_cutTo 2 none 0 0 [.ref q, .int (iI l)] H 0 0 (zRv (fun H1 => zFr H r H1 r (fun s => s = t) ∧ zRow E H1 r t q most (zRc n l) g)) zN := by
  refine zC.of (by decide) (Nat.le_of_ble_eq_true rfl) hst ?_
  intro x O hE hpo hpx
  subst hE
  change zG x H 0 0 0 [(0, .ref q), (1, .int (iI l))] []
  obtain ⟨it, f, hO, hA, hfg, hn0, hn1, hc1, hcm, hmo⟩ := h
  refine z_iload_n 1 O dX1_cutTo_0 rfl ?_
  refine z_if_lt 17 O dX1_cutTo_1 (by decide) ⟨by omega, by omega⟩ (fun c_1 => ?_) (fun c_1 => ?_)
  · skip
    exact z_iretv O dX1_cutTo_17 rfl (by omega) (by omega) hpo (⟨zFr.rf, (by unfold zRc; rw [if_neg (by omega)]; exact ⟨it, f, hO, hA, hfg, hn0, hn1, hc1, hcm, hmo⟩)⟩)
  · skip
    refine z_iload_n 1 O dX1_cutTo_4 rfl ?_
    refine z_aload_n 0 O dX1_cutTo_5 rfl ?_
    refine z_getf kF_X1_23 O dX1_cutTo_6 hO.1 rfl ?_
    refine z_icmp_ge 17 O dX1_cutTo_9 (by decide) ⟨by omega, by omega⟩ ⟨by omega, by omega⟩ (fun c_9 => ?_) (fun c_9 => ?_)
    · skip
      exact z_iretv O dX1_cutTo_17 rfl (by omega) (by omega) hpo (⟨zFr.rf, (by unfold zRc; rw [if_neg (by omega)]; exact ⟨it, f, hO, hA, hfg, hn0, hn1, hc1, hcm, hmo⟩)⟩)
    · skip
      refine z_aload_n 0 O dX1_cutTo_12 rfl ?_
      refine z_iload_n 1 O dX1_cutTo_13 rfl ?_
      refine z_putf kP_X1_23 O (fun h => nomatch h) dX1_cutTo_14 hO.1 rfl rfl (Nat.le_of_ble_eq_true rfl) (fun H1 hO2 hC3 => ?_)
      have hf4 := hO.ch hC3
      have ho5 : zO (zEn x) H1 r t q 1 [.int (iI (most : Int)), .ref it, .int (iI l)] := ⟨hO2, hO.2⟩
      have hA6 := hA.fr hf4 (zT1 (by omega))
      exact z_iretv O dX1_cutTo_17 rfl (by omega) (by omega) hpo (⟨hf4, (by unfold zRc; rw [if_pos ⟨by omega, by omega⟩]; exact ⟨it, f, ho5, hA6, fun j h1 h2 => hfg j h1 (by omega), by omega, by omega, hc1, hcm, hmo⟩)⟩)
