/-! the reference: its own small methods, its diary (written by program: wip/whole/gen/model4.py) -/
theorem c_X6_tenTo {E : zE} (hst : E.1.stackTraces = false) {H : Heap} {n : Nat} (hn : n ≤ 20) : zC E yX6_tenTo cX6_tenTo 4 (some .long) 0 0 [.int (iI (n : Int))] H 0 0 (zRl (zTen n) (zSm H)) zN := by
  refine zC.of (by decide) (Nat.le_of_ble_eq_true rfl) hst ?_
  intro x O hE hpo hpx
  subst hE
  change zG x H 0 0 0 [(0, .int (iI (n : Int)))] []
  refine z_lconst 1 O dX6_tenTo_0 (by decide +kernel) ?_
  refine z_lstore_n [(1, .long (iL 1)), (0, .int (iI (n : Int)))] O dX6_tenTo_1 (by decide) rfl ?_
  refine z_iconst 0 O dX6_tenTo_2 (by decide +kernel) ?_
  refine z_istore_n [(3, .int (iI 0)), (1, .long (iL 1)), (0, .int (iI (n : Int)))] O dX6_tenTo_3 (by decide) rfl ?_
  have loop : ∀ (d : Nat) (k : Nat), (k + d = n) → zG x H 0 0 4 [(3, .int (iI (k : Int))), (1, .long (iL (zTen k))), (0, .int (iI (n : Int)))] [] := by
    intro d
    induction d with
    | zero =>
      intro k hd
      obtain rfl : k = n := by omega
      refine z_iload_n 0 O dX6_tenTo_4 rfl ?_
      refine z_iload_n 2 O dX6_tenTo_5 rfl ?_
      refine z_icmp_ge 21 O dX6_tenTo_6 (by decide) ⟨by omega, by omega⟩ ⟨by omega, by omega⟩ (fun c_6 => ?_) (fun c_6 => ?_)
      · skip
        refine z_lload_n 1 O dX6_tenTo_21 rfl ?_
        exact z_iretl O dX6_tenTo_22 rfl (by omega) (by omega) hpo (by first | rfl | omega) (rfl)
      · exfalso; omega
    | succ d ih =>
      intro k hd
      refine z_iload_n 0 O dX6_tenTo_4 rfl ?_
      refine z_iload_n 2 O dX6_tenTo_5 rfl ?_
      refine z_icmp_ge 21 O dX6_tenTo_6 (by decide) ⟨by omega, by omega⟩ ⟨by omega, by omega⟩ (fun c_6 => ?_) (fun c_6 => ?_)
      · exfalso; omega
      · skip
        refine z_lload_n 1 O dX6_tenTo_9 rfl ?_
        refine z_ldc2 (iL 10) O dX6_tenTo_10 (List.mem_of_getElem? (i := 1253) (by decide +kernel)) ?_
        refine z_lmulI O dX6_tenTo_13 ?_
        refine z_lstore_n [(1, .long (iL ((zTen k) * 10))), (3, .int (iI (k : Int))), (0, .int (iI (n : Int)))] O dX6_tenTo_14 (by decide) rfl ?_
        refine z_iinc 1 [(3, .int (iI ((k : Int) + 1))), (1, .long (iL ((zTen k) * 10))), (0, .int (iI (n : Int)))] O dX6_tenTo_15 (by decide) rfl rfl ?_
        refine z_goto 4 O dX6_tenTo_18 (by decide) ?_
        exact ih (k + 1) (by omega)
  exact loop n 0 (by omega)

theorem c_X6_thrown {E : zE} (hst : E.1.stackTraces = false) {H : Heap} {r : zH} {q : Nat} {Q : Nat → Nat} {rf n sp : Int} {gd : Bool} {lo fi ac : Int} (hO : zMo E H r q Q rf n sp gd lo fi ac) : zC E yX6_thrown cX6_thrown 1 (some .int) 0 0 [.ref q] H 0 0 (zRi rf (zSm H)) zN := by
  refine zC.of (by decide) (Nat.le_of_ble_eq_true rfl) hst ?_
  intro x O hE hpo hpx
  subst hE
  change zG x H 0 0 0 [(0, .ref q)] []
  refine z_aload_n 0 O dX6_thrown_0 rfl ?_
  refine z_getf kF_X6_45 O dX6_thrown_1 hO.1 rfl ?_
  exact z_ireti O dX6_thrown_4 rfl (by omega) (by omega) hpo (by first | rfl | omega) (rfl)

theorem c_X6_refused {E : zE} (hst : E.1.stackTraces = false) {H : Heap} {r : zH} {q : Nat} {Q : Nat → Nat} {rf n sp : Int} {gd : Bool} {lo fi ac : Int} {v : Int} (hO : zMo E H r q Q rf n sp gd lo fi ac) (hv : zR v) : zC E yX6_refused cX6_refused 2 (some .boolean) 0 0 [.ref q, .int (iI v)] H 0 0 (zRi (zb (decide (0 < v))) (fun H1 => zFr H r H1 r (fun s => s = 100000) ∧ zMo E H1 r q Q v n sp gd lo fi ac)) zN := by
  refine zC.of (by decide) (Nat.le_of_ble_eq_true rfl) hst ?_
  intro x O hE hpo hpx
  subst hE
  change zG x H 0 0 0 [(0, .ref q), (1, .int (iI v))] []
  refine z_aload_n 0 O dX6_refused_0 rfl ?_
  refine z_iload_n 1 O dX6_refused_1 rfl ?_
  refine z_putf kP_X6_45 O (fun h => nomatch h) dX6_refused_2 hO.1 rfl rfl (Nat.le_of_ble_eq_true rfl) (fun H1 hO2 hC3 => ?_)
  have hf4 := hO.ch hC3
  have ho5 : zO (zEn x) H1 r 100000 q 6 [.int (iI v), .ref (Q 1), .int (iI n), .int (iI sp), .int (iI (zb gd)), .int (iI lo), .ref (Q 2), .ref (Q 3), .ref (Q 4), .ref (Q 5), .ref (Q 6), .ref (Q 7), .ref (Q 8), .int (iI fi), .int (iI ac), .ref (Q 9), .ref (Q 10)] := ⟨hO2, hO.2⟩
  refine z_iload_n 1 O dX6_refused_5 rfl ?_
  refine z_if_le 13 O dX6_refused_6 (by decide) ⟨by omega, by omega⟩ (fun c_6 => ?_) (fun c_6 => ?_)
  · skip
    refine z_iconst 0 O dX6_refused_13 (by decide +kernel) ?_
    exact z_iretb O dX6_refused_14 rfl (by omega) (by omega) hpo (by first | exact zb_t (decide_eq_true (by omega)) | exact zb_f (decide_eq_false (by omega))) (⟨(hf4.up (fun s h => by first | exact h.elim | omega | (simp at h ⊢; omega))), ho5⟩)
  · skip
    refine z_iconst 1 O dX6_refused_9 (by decide +kernel) ?_
    refine z_goto 14 O dX6_refused_10 (by decide) ?_
    exact z_iretb O dX6_refused_14 rfl (by omega) (by omega) hpo (by first | exact zb_t (decide_eq_true (by omega)) | exact zb_f (decide_eq_false (by omega))) (⟨(hf4.up (fun s h => by first | exact h.elim | omega | (simp at h ⊢; omega))), ho5⟩)

theorem c_X6_layDown {E : zE} (hst : E.1.stackTraces = false) {H : Heap} {r : zH} {q : Nat} {Q : Nat → Nat} {rf n sp : Int} {gd : Bool} {lo fi ac : Int} {v : Int} {G : Int → Int} {dd : Nat → Int → Int} (hO : zMo E H r q Q rf n sp gd lo fi ac) (hA : zA E H r 100003 (Q 3) 4086 G) (hD : zDy E H r Q dd) (hv : 0 ≤ fi ∧ fi < 16 ∧ 0 ≤ v ∧ v < 16) : zC E yX6_layDown cX6_layDown 4 none 1 25 [.ref q, .int (iI v)] H 0 0 (zRv (fun H1 => zFr H r H1 r (fun s => 100005 ≤ s ∧ s ≤ 100008) ∧ zDy E H1 r Q (zDw dd ((fi + v) % 16) G))) zN := by
  refine zC.of (by decide) (Nat.le_of_ble_eq_true rfl) hst ?_
  intro x O hE hpo hpx
  subst hE
  change zG x H 0 0 0 [(0, .ref q), (1, .int (iI v))] []
  obtain ⟨hD0, hD1, hD2, hD3⟩ := hD
  refine z_aload_n 0 O dX6_layDown_0 rfl ?_
  refine z_getf kF_X6_51 O dX6_layDown_1 hO.1 rfl ?_
  refine z_iload_n 1 O dX6_layDown_4 rfl ?_
  refine z_iadd O dX6_layDown_5 ?_
  refine z_bipush 16 O dX6_layDown_6 (by decide +kernel) ?_
  refine z_irem O dX6_layDown_8 ⟨by omega, by omega⟩ ⟨by omega, by omega⟩ (by omega) (by omega) ?_
  refine z_iconst 4 O dX6_layDown_9 (by decide +kernel) ?_
  refine z_idiv O dX6_layDown_10 ⟨by omega, by omega⟩ ⟨by omega, by omega⟩ (by omega) (by omega) ?_
  refine z_istore_n [(2, .int (iI (((fi + v) % 16) / 4))), (0, .ref q), (1, .int (iI v))] O dX6_layDown_11 (by decide) rfl ?_
  refine z_sipush 4086 O dX6_layDown_12 (by decide +kernel) ?_
  refine z_aload_n 1 O dX6_layDown_15 rfl ?_
  refine z_getf kF_X6_51 O dX6_layDown_16 hO.1 rfl ?_
  refine z_iload_n 2 O dX6_layDown_19 rfl ?_
  refine z_iadd O dX6_layDown_20 ?_
  refine z_bipush 16 O dX6_layDown_21 (by decide +kernel) ?_
  refine z_irem O dX6_layDown_23 ⟨by omega, by omega⟩ ⟨by omega, by omega⟩ (by omega) (by omega) ?_
  refine z_iconst 4 O dX6_layDown_24 (by decide +kernel) ?_
  refine z_irem O dX6_layDown_25 ⟨by omega, by omega⟩ ⟨by omega, by omega⟩ (by omega) (by omega) ?_
  refine z_imul O dX6_layDown_26 ?_
  refine z_istore_n [(3, .int (iI (4086 * (((fi + v) % 16) % 4)))), (2, .int (iI (((fi + v) % 16) / 4))), (0, .ref q), (1, .int (iI v))] O dX6_layDown_27 (by decide) rfl ?_
  refine z_iload_n 1 O dX6_layDown_28 rfl ?_
  refine z_if_ne 51 O dX6_layDown_29 (by decide) ⟨by omega, by omega⟩ (fun c_29 => ?_) (fun c_29 => ?_)
  · skip
    refine z_iload_n 1 O dX6_layDown_51 rfl ?_
    refine z_iconst 1 O dX6_layDown_52 (by decide +kernel) ?_
    refine z_icmp_ne 75 O dX6_layDown_53 (by decide) ⟨by omega, by omega⟩ ⟨by omega, by omega⟩ (fun c_53 => ?_) (fun c_53 => ?_)
    · skip
      refine z_iload_n 1 O dX6_layDown_75 rfl ?_
      refine z_iconst 2 O dX6_layDown_76 (by decide +kernel) ?_
      refine z_icmp_ne 99 O dX6_layDown_77 (by decide) ⟨by omega, by omega⟩ ⟨by omega, by omega⟩ (fun c_77 => ?_) (fun c_77 => ?_)
      · skip
        refine z_aload_n 2 O dX6_layDown_99 rfl ?_
        refine z_getf kF_X6_16 O dX6_layDown_100 hO.1 rfl ?_
        refine z_iconst 0 O dX6_layDown_103 (by decide +kernel) ?_
        refine z_aload_n 2 O dX6_layDown_104 rfl ?_
        refine z_getf kF_X6_31 O dX6_layDown_105 hO.1 rfl ?_
        refine z_iload_n 0 O dX6_layDown_108 rfl ?_
        refine z_sipush 4086 O dX6_layDown_109 (by decide +kernel) ?_
        refine z_Svm [.ref (Q 3), .int (iI 0), .ref (Q 8), .int (iI (4086 * (((fi + v) % 16) % 4))), .int (iI 4086)] [] kM_X6_54 O dX6_layDown_112 (c_X6_copy hst hA hD3 (by decide) (by omega) (by omega) (by omega) (by omega) (by omega) (by omega)) rfl rfl (by decide) (Nat.le_of_ble_eq_true rfl) (by omega) (by omega) (Nat.le_of_ble_eq_true rfl) zNx (fun H1 hp2 hz3 => ?_)
        obtain ⟨hf4, ha5⟩ := hp2
        have hO6 := hO.fr hf4 (zT1 (by omega))
        have hA7 := hA.fr hf4 (zT1 (by omega))
        have hD8 := hD0.fr hf4 (zT1 (by omega))
        have hD9 := hD1.fr hf4 (zT1 (by omega))
        have hD10 := hD2.fr hf4 (zT1 (by omega))
        exact z_iretv O dX6_layDown_115 rfl (by omega) (by omega) hpo (⟨(hf4.up (fun s h => by first | exact h.elim | omega | (simp at h ⊢; omega))), (by unfold zDw; rw [if_neg (by omega)]; exact hD8), (by unfold zDw; rw [if_neg (by omega)]; exact hD9), (by unfold zDw; rw [if_neg (by omega)]; exact hD10), (by unfold zDw; rw [if_pos (by omega)]; exact ha5)⟩)
      · skip
        refine z_aload_n 2 O dX6_layDown_80 rfl ?_
        refine z_getf kF_X6_16 O dX6_layDown_81 hO.1 rfl ?_
        refine z_iconst 0 O dX6_layDown_84 (by decide +kernel) ?_
        refine z_aload_n 2 O dX6_layDown_85 rfl ?_
        refine z_getf kF_X6_28 O dX6_layDown_86 hO.1 rfl ?_
        refine z_iload_n 0 O dX6_layDown_89 rfl ?_
        refine z_sipush 4086 O dX6_layDown_90 (by decide +kernel) ?_
        refine z_Svm [.ref (Q 3), .int (iI 0), .ref (Q 7), .int (iI (4086 * (((fi + v) % 16) % 4))), .int (iI 4086)] [] kM_X6_54 O dX6_layDown_93 (c_X6_copy hst hA hD2 (by decide) (by omega) (by omega) (by omega) (by omega) (by omega) (by omega)) rfl rfl (by decide) (Nat.le_of_ble_eq_true rfl) (by omega) (by omega) (Nat.le_of_ble_eq_true rfl) zNx (fun H11 hp12 hz13 => ?_)
        obtain ⟨hf14, ha15⟩ := hp12
        have hO16 := hO.fr hf14 (zT1 (by omega))
        have hA17 := hA.fr hf14 (zT1 (by omega))
        have hD18 := hD0.fr hf14 (zT1 (by omega))
        have hD19 := hD1.fr hf14 (zT1 (by omega))
        have hD20 := hD3.fr hf14 (zT1 (by omega))
        refine z_goto 115 O dX6_layDown_96 (by decide) ?_
        exact z_iretv O dX6_layDown_115 rfl (by omega) (by omega) hpo (⟨(hf14.up (fun s h => by first | exact h.elim | omega | (simp at h ⊢; omega))), (by unfold zDw; rw [if_neg (by omega)]; exact hD18), (by unfold zDw; rw [if_neg (by omega)]; exact hD19), (by unfold zDw; rw [if_pos (by omega)]; exact ha15), (by unfold zDw; rw [if_neg (by omega)]; exact hD20)⟩)
    · skip
      refine z_aload_n 2 O dX6_layDown_56 rfl ?_
      refine z_getf kF_X6_16 O dX6_layDown_57 hO.1 rfl ?_
      refine z_iconst 0 O dX6_layDown_60 (by decide +kernel) ?_
      refine z_aload_n 2 O dX6_layDown_61 rfl ?_
      refine z_getf kF_X6_25 O dX6_layDown_62 hO.1 rfl ?_
      refine z_iload_n 0 O dX6_layDown_65 rfl ?_
      refine z_sipush 4086 O dX6_layDown_66 (by decide +kernel) ?_
      refine z_Svm [.ref (Q 3), .int (iI 0), .ref (Q 6), .int (iI (4086 * (((fi + v) % 16) % 4))), .int (iI 4086)] [] kM_X6_54 O dX6_layDown_69 (c_X6_copy hst hA hD1 (by decide) (by omega) (by omega) (by omega) (by omega) (by omega) (by omega)) rfl rfl (by decide) (Nat.le_of_ble_eq_true rfl) (by omega) (by omega) (Nat.le_of_ble_eq_true rfl) zNx (fun H21 hp22 hz23 => ?_)
      obtain ⟨hf24, ha25⟩ := hp22
      have hO26 := hO.fr hf24 (zT1 (by omega))
      have hA27 := hA.fr hf24 (zT1 (by omega))
      have hD28 := hD0.fr hf24 (zT1 (by omega))
      have hD29 := hD2.fr hf24 (zT1 (by omega))
      have hD30 := hD3.fr hf24 (zT1 (by omega))
      refine z_goto 115 O dX6_layDown_72 (by decide) ?_
      exact z_iretv O dX6_layDown_115 rfl (by omega) (by omega) hpo (⟨(hf24.up (fun s h => by first | exact h.elim | omega | (simp at h ⊢; omega))), (by unfold zDw; rw [if_neg (by omega)]; exact hD28), (by unfold zDw; rw [if_pos (by omega)]; exact ha25), (by unfold zDw; rw [if_neg (by omega)]; exact hD29), (by unfold zDw; rw [if_neg (by omega)]; exact hD30)⟩)
  · skip
    refine z_aload_n 2 O dX6_layDown_32 rfl ?_
    refine z_getf kF_X6_16 O dX6_layDown_33 hO.1 rfl ?_
    refine z_iconst 0 O dX6_layDown_36 (by decide +kernel) ?_
    refine z_aload_n 2 O dX6_layDown_37 rfl ?_
    refine z_getf kF_X6_22 O dX6_layDown_38 hO.1 rfl ?_
    refine z_iload_n 0 O dX6_layDown_41 rfl ?_
    refine z_sipush 4086 O dX6_layDown_42 (by decide +kernel) ?_
    refine z_Svm [.ref (Q 3), .int (iI 0), .ref (Q 5), .int (iI (4086 * (((fi + v) % 16) % 4))), .int (iI 4086)] [] kM_X6_54 O dX6_layDown_45 (c_X6_copy hst hA hD0 (by decide) (by omega) (by omega) (by omega) (by omega) (by omega) (by omega)) rfl rfl (by decide) (Nat.le_of_ble_eq_true rfl) (by omega) (by omega) (Nat.le_of_ble_eq_true rfl) zNx (fun H31 hp32 hz33 => ?_)
    obtain ⟨hf34, ha35⟩ := hp32
    have hO36 := hO.fr hf34 (zT1 (by omega))
    have hA37 := hA.fr hf34 (zT1 (by omega))
    have hD38 := hD1.fr hf34 (zT1 (by omega))
    have hD39 := hD2.fr hf34 (zT1 (by omega))
    have hD40 := hD3.fr hf34 (zT1 (by omega))
    refine z_goto 115 O dX6_layDown_48 (by decide) ?_
    exact z_iretv O dX6_layDown_115 rfl (by omega) (by omega) hpo (⟨(hf34.up (fun s h => by first | exact h.elim | omega | (simp at h ⊢; omega))), (by unfold zDw; rw [if_pos (by omega)]; exact ha35), (by unfold zDw; rw [if_neg (by omega)]; exact hD38), (by unfold zDw; rw [if_neg (by omega)]; exact hD39), (by unfold zDw; rw [if_neg (by omega)]; exact hD40)⟩)

theorem c_X6_takeUp {E : zE} (hst : E.1.stackTraces = false) {H : Heap} {r : zH} {q : Nat} {Q : Nat → Nat} {rf n sp : Int} {gd : Bool} {lo fi ac : Int} {v : Int} {G : Int → Int} {dd : Nat → Int → Int} (hO : zMo E H r q Q rf n sp gd lo fi ac) (hA : zA E H r 100003 (Q 3) 4086 G) (hD : zDy E H r Q dd) (hv : 0 ≤ fi ∧ fi < 16 ∧ 0 ≤ v ∧ v < 16) : zC E yX6_takeUp cX6_takeUp 4 none 1 25 [.ref q, .int (iI v)] H 0 0 (zRv (fun H1 => zFr H r H1 r (fun s => s = 100003) ∧ zA E H1 r 100003 (Q 3) 4086 (zDr dd ((fi + v) % 16)))) zN := by
  refine zC.of (by decide) (Nat.le_of_ble_eq_true rfl) hst ?_
  intro x O hE hpo hpx
  subst hE
  change zG x H 0 0 0 [(0, .ref q), (1, .int (iI v))] []
  obtain ⟨hD0, hD1, hD2, hD3⟩ := hD
  refine z_aload_n 0 O dX6_takeUp_0 rfl ?_
  refine z_getf kF_X6_51 O dX6_takeUp_1 hO.1 rfl ?_
  refine z_iload_n 1 O dX6_takeUp_4 rfl ?_
  refine z_iadd O dX6_takeUp_5 ?_
  refine z_bipush 16 O dX6_takeUp_6 (by decide +kernel) ?_
  refine z_irem O dX6_takeUp_8 ⟨by omega, by omega⟩ ⟨by omega, by omega⟩ (by omega) (by omega) ?_
  refine z_iconst 4 O dX6_takeUp_9 (by decide +kernel) ?_
  refine z_idiv O dX6_takeUp_10 ⟨by omega, by omega⟩ ⟨by omega, by omega⟩ (by omega) (by omega) ?_
  refine z_istore_n [(2, .int (iI (((fi + v) % 16) / 4))), (0, .ref q), (1, .int (iI v))] O dX6_takeUp_11 (by decide) rfl ?_
  refine z_sipush 4086 O dX6_takeUp_12 (by decide +kernel) ?_
  refine z_aload_n 1 O dX6_takeUp_15 rfl ?_
  refine z_getf kF_X6_51 O dX6_takeUp_16 hO.1 rfl ?_
  refine z_iload_n 2 O dX6_takeUp_19 rfl ?_
  refine z_iadd O dX6_takeUp_20 ?_
  refine z_bipush 16 O dX6_takeUp_21 (by decide +kernel) ?_
  refine z_irem O dX6_takeUp_23 ⟨by omega, by omega⟩ ⟨by omega, by omega⟩ (by omega) (by omega) ?_
  refine z_iconst 4 O dX6_takeUp_24 (by decide +kernel) ?_
  refine z_irem O dX6_takeUp_25 ⟨by omega, by omega⟩ ⟨by omega, by omega⟩ (by omega) (by omega) ?_
  refine z_imul O dX6_takeUp_26 ?_
  refine z_istore_n [(3, .int (iI (4086 * (((fi + v) % 16) % 4)))), (2, .int (iI (((fi + v) % 16) / 4))), (0, .ref q), (1, .int (iI v))] O dX6_takeUp_27 (by decide) rfl ?_
  refine z_iload_n 1 O dX6_takeUp_28 rfl ?_
  refine z_if_ne 51 O dX6_takeUp_29 (by decide) ⟨by omega, by omega⟩ (fun c_29 => ?_) (fun c_29 => ?_)
  · skip
    refine z_iload_n 1 O dX6_takeUp_51 rfl ?_
    refine z_iconst 1 O dX6_takeUp_52 (by decide +kernel) ?_
    refine z_icmp_ne 75 O dX6_takeUp_53 (by decide) ⟨by omega, by omega⟩ ⟨by omega, by omega⟩ (fun c_53 => ?_) (fun c_53 => ?_)
    · skip
      refine z_iload_n 1 O dX6_takeUp_75 rfl ?_
      refine z_iconst 2 O dX6_takeUp_76 (by decide +kernel) ?_
      refine z_icmp_ne 99 O dX6_takeUp_77 (by decide) ⟨by omega, by omega⟩ ⟨by omega, by omega⟩ (fun c_77 => ?_) (fun c_77 => ?_)
      · skip
        refine z_aload_n 2 O dX6_takeUp_99 rfl ?_
        refine z_getf kF_X6_31 O dX6_takeUp_100 hO.1 rfl ?_
        refine z_iload_n 0 O dX6_takeUp_103 rfl ?_
        refine z_aload_n 2 O dX6_takeUp_104 rfl ?_
        refine z_getf kF_X6_16 O dX6_takeUp_105 hO.1 rfl ?_
        refine z_iconst 0 O dX6_takeUp_108 (by decide +kernel) ?_
        refine z_sipush 4086 O dX6_takeUp_109 (by decide +kernel) ?_
        refine z_Svm [.ref (Q 8), .int (iI (4086 * (((fi + v) % 16) % 4))), .ref (Q 3), .int (iI 0), .int (iI 4086)] [] kM_X6_54 O dX6_takeUp_112 (c_X6_copy hst hD3 hA (by decide) (by omega) (by omega) (by omega) (by omega) (by omega) (by omega)) rfl rfl (by decide) (Nat.le_of_ble_eq_true rfl) (by omega) (by omega) (Nat.le_of_ble_eq_true rfl) zNx (fun H1 hp2 hz3 => ?_)
        obtain ⟨hf4, ha5⟩ := hp2
        have hO6 := hO.fr hf4 (zT1 (by omega))
        have hD7 := hD0.fr hf4 (zT1 (by omega))
        have hD8 := hD1.fr hf4 (zT1 (by omega))
        have hD9 := hD2.fr hf4 (zT1 (by omega))
        have hD10 := hD3.fr hf4 (zT1 (by omega))
        exact z_iretv O dX6_takeUp_115 rfl (by omega) (by omega) hpo (⟨(hf4.up (fun s h => by first | exact h.elim | omega | (simp at h ⊢; omega))), ha5.1.to (fun j h1 h2 => by unfold zCpy zDr; rw [if_pos (by omega), show (((fi + v) % 16) / 4).toNat = 3 by omega]; exact congrArg (dd 3) (by omega)), ha5.2⟩)
      · skip
        refine z_aload_n 2 O dX6_takeUp_80 rfl ?_
        refine z_getf kF_X6_28 O dX6_takeUp_81 hO.1 rfl ?_
        refine z_iload_n 0 O dX6_takeUp_84 rfl ?_
        refine z_aload_n 2 O dX6_takeUp_85 rfl ?_
        refine z_getf kF_X6_16 O dX6_takeUp_86 hO.1 rfl ?_
        refine z_iconst 0 O dX6_takeUp_89 (by decide +kernel) ?_
        refine z_sipush 4086 O dX6_takeUp_90 (by decide +kernel) ?_
        refine z_Svm [.ref (Q 7), .int (iI (4086 * (((fi + v) % 16) % 4))), .ref (Q 3), .int (iI 0), .int (iI 4086)] [] kM_X6_54 O dX6_takeUp_93 (c_X6_copy hst hD2 hA (by decide) (by omega) (by omega) (by omega) (by omega) (by omega) (by omega)) rfl rfl (by decide) (Nat.le_of_ble_eq_true rfl) (by omega) (by omega) (Nat.le_of_ble_eq_true rfl) zNx (fun H11 hp12 hz13 => ?_)
        obtain ⟨hf14, ha15⟩ := hp12
        have hO16 := hO.fr hf14 (zT1 (by omega))
        have hD17 := hD0.fr hf14 (zT1 (by omega))
        have hD18 := hD1.fr hf14 (zT1 (by omega))
        have hD19 := hD2.fr hf14 (zT1 (by omega))
        have hD20 := hD3.fr hf14 (zT1 (by omega))
        refine z_goto 115 O dX6_takeUp_96 (by decide) ?_
        exact z_iretv O dX6_takeUp_115 rfl (by omega) (by omega) hpo (⟨(hf14.up (fun s h => by first | exact h.elim | omega | (simp at h ⊢; omega))), ha15.1.to (fun j h1 h2 => by unfold zCpy zDr; rw [if_pos (by omega), show (((fi + v) % 16) / 4).toNat = 2 by omega]; exact congrArg (dd 2) (by omega)), ha15.2⟩)
    · skip
      refine z_aload_n 2 O dX6_takeUp_56 rfl ?_
      refine z_getf kF_X6_25 O dX6_takeUp_57 hO.1 rfl ?_
      refine z_iload_n 0 O dX6_takeUp_60 rfl ?_
      refine z_aload_n 2 O dX6_takeUp_61 rfl ?_
      refine z_getf kF_X6_16 O dX6_takeUp_62 hO.1 rfl ?_
      refine z_iconst 0 O dX6_takeUp_65 (by decide +kernel) ?_
      refine z_sipush 4086 O dX6_takeUp_66 (by decide +kernel) ?_
      refine z_Svm [.ref (Q 6), .int (iI (4086 * (((fi + v) % 16) % 4))), .ref (Q 3), .int (iI 0), .int (iI 4086)] [] kM_X6_54 O dX6_takeUp_69 (c_X6_copy hst hD1 hA (by decide) (by omega) (by omega) (by omega) (by omega) (by omega) (by omega)) rfl rfl (by decide) (Nat.le_of_ble_eq_true rfl) (by omega) (by omega) (Nat.le_of_ble_eq_true rfl) zNx (fun H21 hp22 hz23 => ?_)
      obtain ⟨hf24, ha25⟩ := hp22
      have hO26 := hO.fr hf24 (zT1 (by omega))
      have hD27 := hD0.fr hf24 (zT1 (by omega))
      have hD28 := hD1.fr hf24 (zT1 (by omega))
      have hD29 := hD2.fr hf24 (zT1 (by omega))
      have hD30 := hD3.fr hf24 (zT1 (by omega))
      refine z_goto 115 O dX6_takeUp_72 (by decide) ?_
      exact z_iretv O dX6_takeUp_115 rfl (by omega) (by omega) hpo (⟨(hf24.up (fun s h => by first | exact h.elim | omega | (simp at h ⊢; omega))), ha25.1.to (fun j h1 h2 => by unfold zCpy zDr; rw [if_pos (by omega), show (((fi + v) % 16) / 4).toNat = 1 by omega]; exact congrArg (dd 1) (by omega)), ha25.2⟩)
  · skip
    refine z_aload_n 2 O dX6_takeUp_32 rfl ?_
    refine z_getf kF_X6_22 O dX6_takeUp_33 hO.1 rfl ?_
    refine z_iload_n 0 O dX6_takeUp_36 rfl ?_
    refine z_aload_n 2 O dX6_takeUp_37 rfl ?_
    refine z_getf kF_X6_16 O dX6_takeUp_38 hO.1 rfl ?_
    refine z_iconst 0 O dX6_takeUp_41 (by decide +kernel) ?_
    refine z_sipush 4086 O dX6_takeUp_42 (by decide +kernel) ?_
    refine z_Svm [.ref (Q 5), .int (iI (4086 * (((fi + v) % 16) % 4))), .ref (Q 3), .int (iI 0), .int (iI 4086)] [] kM_X6_54 O dX6_takeUp_45 (c_X6_copy hst hD0 hA (by decide) (by omega) (by omega) (by omega) (by omega) (by omega) (by omega)) rfl rfl (by decide) (Nat.le_of_ble_eq_true rfl) (by omega) (by omega) (Nat.le_of_ble_eq_true rfl) zNx (fun H31 hp32 hz33 => ?_)
    obtain ⟨hf34, ha35⟩ := hp32
    have hO36 := hO.fr hf34 (zT1 (by omega))
    have hD37 := hD0.fr hf34 (zT1 (by omega))
    have hD38 := hD1.fr hf34 (zT1 (by omega))
    have hD39 := hD2.fr hf34 (zT1 (by omega))
    have hD40 := hD3.fr hf34 (zT1 (by omega))
    refine z_goto 115 O dX6_takeUp_48 (by decide) ?_
    exact z_iretv O dX6_takeUp_115 rfl (by omega) (by omega) hpo (⟨(hf34.up (fun s h => by first | exact h.elim | omega | (simp at h ⊢; omega))), ha35.1.to (fun j h1 h2 => by unfold zCpy zDr; rw [if_pos (by omega), show (((fi + v) % 16) / 4).toNat = 0 by omega]; exact congrArg (dd 0) (by omega)), ha35.2⟩)
