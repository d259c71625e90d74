/-! the reference: regrets done, failure (written by program: wip/whole/gen/model2.py) -/
theorem c_X6_rue {E : zE} (hst : E.1.stackTraces = false) {H : Heap} {r : zH} {t q : Nat} {G : Int → Int} {w : Int} {l : Int} {b : Bool} {n : Nat} (hA : zA E H r t q 4086 G) (hw : 0 ≤ w ∧ w ≤ 2) (hI : sRI G w b n) (hn : G (at_ w 2) = l + (n : Int)) (hl0 : 0 ≤ l) : zC E yX6_rue cX6_rue 6 none 2 43 [.ref q, .int (iI w), .int (iI l), .int (iI (zb b))] H 0 0 (zRv (fun H1 => zFr H r H1 r (fun s => s = t) ∧ zA E H1 r t q 4086 (sRn n G w b))) zN := by
  refine zC.of (by decide) (Nat.le_of_ble_eq_true rfl) hst ?_
  intro x O hE hpo hpx
  subst hE
  change zG x H 0 0 0 [(0, .ref q), (1, .int (iI w)), (2, .int (iI l)), (3, .int (iI (zb b)))] []
  have loop : ∀ (d : Nat) (K : Int → Int) (H' : Heap), (K (at_ w 2) = l + (d : Int)) → (sRI K w b d) → (sRn d K w b = sRn n G w b) → (zFr H r H' r (fun s => s = t)) → (zA (zEn x) H' r t q 4086 K) → zG x H' 0 0 0 [(0, .ref q), (1, .int (iI w)), (2, .int (iI l)), (3, .int (iI (zb b)))] [] := by
    intro d
    induction d with
    | zero =>
      intro K H' hd hK hR hf' hA'
      have hK2 := hK.2.2.1
      refine z_aload_n 0 O dX6_rue_0 rfl ?_
      refine z_iload_n 1 O dX6_rue_1 rfl ?_
      refine z_iconst 2 O dX6_rue_2 (by decide +kernel) ?_
      refine z_Si [.int (iI w), .int (iI 2)] [.ref q] kM_X6_65 O dX6_rue_3 (c_X6_at hst) rfl rfl (by decide) (Nat.le_of_ble_eq_true rfl) (by omega) (by omega) (Nat.le_of_ble_eq_true rfl) zNx ?_
      have ea1 : at_ w 2 = 36 + 1350 * w + 2 := rfl
      refine z_iald O dX6_rue_6 hA'.1 ⟨by omega, by omega⟩ (by omega) (by omega) ?_
      refine z_iload_n 2 O dX6_rue_7 rfl ?_
      refine z_icmp_le 87 O dX6_rue_8 (by decide) ⟨by omega, by omega⟩ ⟨by omega, by omega⟩ (fun c_8 => ?_) (fun c_8 => ?_)
      · skip
        exact z_iretv O dX6_rue_87 rfl (by omega) (by omega) hpo (⟨(hf'.up (fun s h => by first | exact h.elim | omega | (simp at h ⊢; omega))), (by rw [← hR]; exact hA')⟩)
      · exfalso; omega
    | succ d ih =>
      intro K H' hd hK hR hf' hA'
      have n1 : at_ w 1 = 36 + 1350 * w + 1 := rfl
      have n2 : at_ w 2 = 36 + 1350 * w + 2 := rfl
      have hS := sRI.s (o := b) (d := (d : Int)) hK (by omega)
      obtain ⟨-, ⟨hK1, hKl⟩, hK2, hKr, -, hKv⟩ := hK
      have hE := hKr (K (at_ w 2) - 1) (by omega) (by omega)
      have hV := hKv (K (at_ w (710 + (K (at_ w 2) - 1))) / 100) (by omega) (by omega)
      refine z_aload_n 0 O dX6_rue_0 rfl ?_
      refine z_iload_n 1 O dX6_rue_1 rfl ?_
      refine z_iconst 2 O dX6_rue_2 (by decide +kernel) ?_
      refine z_Si [.int (iI w), .int (iI 2)] [.ref q] kM_X6_65 O dX6_rue_3 (c_X6_at hst) rfl rfl (by decide) (Nat.le_of_ble_eq_true rfl) (by omega) (by omega) (Nat.le_of_ble_eq_true rfl) zNx ?_
      have ea2 : at_ w 2 = 36 + 1350 * w + 2 := rfl
      refine z_iald O dX6_rue_6 hA'.1 ⟨by omega, by omega⟩ (by omega) (by omega) ?_
      refine z_iload_n 2 O dX6_rue_7 rfl ?_
      refine z_icmp_le 87 O dX6_rue_8 (by decide) ⟨by omega, by omega⟩ ⟨by omega, by omega⟩ (fun c_8 => ?_) (fun c_8 => ?_)
      · exfalso; omega
      · skip
        refine z_aload_n 0 O dX6_rue_11 rfl ?_
        refine z_iload_n 1 O dX6_rue_12 rfl ?_
        refine z_iconst 2 O dX6_rue_13 (by decide +kernel) ?_
        refine z_Si [.int (iI w), .int (iI 2)] [.ref q] kM_X6_65 O dX6_rue_14 (c_X6_at hst) rfl rfl (by decide) (Nat.le_of_ble_eq_true rfl) (by omega) (by omega) (Nat.le_of_ble_eq_true rfl) zNx ?_
        have ea3 : at_ w 2 = 36 + 1350 * w + 2 := rfl
        refine z_dup2 O dX6_rue_17 rfl rfl ?_
        refine z_iald O dX6_rue_18 hA'.1 ⟨by omega, by omega⟩ (by omega) (by omega) ?_
        refine z_iconst 1 O dX6_rue_19 (by decide +kernel) ?_
        refine z_isub O dX6_rue_20 ?_
        refine z_iast O dX6_rue_21 hA'.1 ⟨by omega, by omega⟩ (by omega) (by omega) (fun H4 hA5 hC6 => ?_)
        have hf7 := hA'.ch hC6
        have ha8 : zA (zEn x) H4 r t q 4086 (zU K (at_ w 2) ((K (at_ w 2)) - 1)) := ⟨hA5, hA'.2⟩
        refine z_aload_n 0 O dX6_rue_22 rfl ?_
        refine z_iload_n 1 O dX6_rue_23 rfl ?_
        refine z_sipush 710 O dX6_rue_24 (by decide +kernel) ?_
        refine z_aload_n 0 O dX6_rue_27 rfl ?_
        refine z_iload_n 1 O dX6_rue_28 rfl ?_
        refine z_iconst 2 O dX6_rue_29 (by decide +kernel) ?_
        refine z_Si [.int (iI w), .int (iI 2)] [.ref q, .int (iI 710), .int (iI w), .ref q] kM_X6_65 O dX6_rue_30 (c_X6_at hst) rfl rfl (by decide) (Nat.le_of_ble_eq_true rfl) (by omega) (by omega) (Nat.le_of_ble_eq_true rfl) zNx ?_
        have ea9 : at_ w 2 = 36 + 1350 * w + 2 := rfl
        refine z_iald O dX6_rue_33 ha8.1 ⟨by omega, by omega⟩ (by omega) (by omega) ?_
        rw [show (zU K (at_ w 2) ((K (at_ w 2)) - 1)) (at_ w 2) = K (at_ w 2) - 1 from zU_s]
        refine z_iadd O dX6_rue_34 ?_
        refine z_Si [.int (iI w), .int (iI (710 + (K (at_ w 2) - 1)))] [.ref q] kM_X6_65 O dX6_rue_35 (c_X6_at hst) rfl rfl (by decide) (Nat.le_of_ble_eq_true rfl) (by omega) (by omega) (Nat.le_of_ble_eq_true rfl) zNx ?_
        have ea10 : at_ w (710 + (K (at_ w 2) - 1)) = 36 + 1350 * w + (710 + (K (at_ w 2) - 1)) := rfl
        refine z_iald O dX6_rue_38 ha8.1 ⟨by omega, by omega⟩ (by omega) (by omega) ?_
        rw [show (zU K (at_ w 2) ((K (at_ w 2)) - 1)) (at_ w (710 + (K (at_ w 2) - 1))) = K (at_ w (710 + (K (at_ w 2) - 1))) from (zU_n (by omega))]
        refine z_istore [(4, .int (iI (K (at_ w (710 + (K (at_ w 2) - 1)))))), (0, .ref q), (1, .int (iI w)), (2, .int (iI l)), (3, .int (iI (zb b)))] O dX6_rue_39 (by decide) rfl ?_
        refine z_iload 0 O dX6_rue_41 rfl ?_
        refine z_bipush 100 O dX6_rue_43 (by decide +kernel) ?_
        refine z_idiv O dX6_rue_45 ⟨by omega, by omega⟩ ⟨by omega, by omega⟩ (by omega) (by omega) ?_
        refine z_istore [(5, .int (iI ((K (at_ w (710 + (K (at_ w 2) - 1)))) / 100))), (4, .int (iI (K (at_ w (710 + (K (at_ w 2) - 1)))))), (0, .ref q), (1, .int (iI w)), (2, .int (iI l)), (3, .int (iI (zb b)))] O dX6_rue_46 (by decide) rfl ?_
        refine z_iload_n 5 O dX6_rue_48 rfl ?_
        refine z_ifb_ne 59 O dX6_rue_49 (by decide) (fun c_49 => ?_) (fun c_49 => ?_)
        · skip
          have e5 : at_ w (70 + K (at_ w 1)) = 36 + 1350 * w + (70 + K (at_ w 1)) := rfl
          refine z_aload_n 2 O dX6_rue_59 rfl ?_
          refine z_iload 0 O dX6_rue_60 rfl ?_
          refine z_aload_n 2 O dX6_rue_62 rfl ?_
          refine z_iload 0 O dX6_rue_63 rfl ?_
          refine z_iald O dX6_rue_65 ha8.1 ⟨by omega, by omega⟩ (by omega) (by omega) ?_
          rw [show (zU K (at_ w 2) ((K (at_ w 2)) - 1)) ((K (at_ w (710 + (K (at_ w 2) - 1)))) / 100) = K (K (at_ w (710 + (K (at_ w 2) - 1))) / 100) from (zU_n (by omega))]
          refine z_iload 1 O dX6_rue_66 rfl ?_
          refine z_bipush 100 O dX6_rue_68 (by decide +kernel) ?_
          refine z_irem O dX6_rue_70 ⟨by omega, by omega⟩ ⟨by omega, by omega⟩ (by omega) (by omega) ?_
          refine z_iadd O dX6_rue_71 ?_
          refine z_bipush 100 O dX6_rue_72 (by decide +kernel) ?_
          refine z_irem O dX6_rue_74 ⟨by omega, by omega⟩ ⟨by omega, by omega⟩ (by omega) (by omega) ?_
          refine z_iast O dX6_rue_75 ha8.1 ⟨by omega, by omega⟩ (by omega) (by omega) (fun H11 hA12 hC13 => ?_)
          have hf14 := ha8.ch hC13
          have ha15 : zA (zEn x) H11 r t q 4086 (zU (zU K (at_ w 2) ((K (at_ w 2)) - 1)) ((K (at_ w (710 + (K (at_ w 2) - 1)))) / 100) (((K (K (at_ w (710 + (K (at_ w 2) - 1))) / 100)) + ((K (at_ w (710 + (K (at_ w 2) - 1)))) % 100)) % 100)) := ⟨hA12, ha8.2⟩
          refine z_aload_n 2 O dX6_rue_76 rfl ?_
          refine z_bipush 35 O dX6_rue_77 (by decide +kernel) ?_
          refine z_dup2 O dX6_rue_79 rfl rfl ?_
          refine z_iald O dX6_rue_80 ha15.1 ⟨by omega, by omega⟩ (by omega) (by omega) ?_
          rw [show (zU (zU K (at_ w 2) ((K (at_ w 2)) - 1)) ((K (at_ w (710 + (K (at_ w 2) - 1)))) / 100) (((K (K (at_ w (710 + (K (at_ w 2) - 1))) / 100)) + ((K (at_ w (710 + (K (at_ w 2) - 1)))) % 100)) % 100)) 35 = K 35 from ((zU_n (by omega)).trans (zU_n (by omega)))]
          refine z_iconst 1 O dX6_rue_81 (by decide +kernel) ?_
          refine z_iadd O dX6_rue_82 ?_
          refine z_iast O dX6_rue_83 ha15.1 ⟨by omega, by omega⟩ (by omega) (by omega) (fun H16 hA17 hC18 => ?_)
          have hf19 := ha15.ch hC18
          have ha20 : zA (zEn x) H16 r t q 4086 (zU (zU (zU K (at_ w 2) ((K (at_ w 2)) - 1)) ((K (at_ w (710 + (K (at_ w 2) - 1)))) / 100) (((K (K (at_ w (710 + (K (at_ w 2) - 1))) / 100)) + ((K (at_ w (710 + (K (at_ w 2) - 1)))) % 100)) % 100)) 35 ((K 35) + 1)) := ⟨hA17, ha15.2⟩
          refine z_goto 0 O dX6_rue_84 (by decide) ?_
          refine z_locs [2, 3, 4, 5] rfl ?_
          exact ih (sRs K w b) H16 (by rw [hS.2]; omega) hS.1 hR (((((((hf'.up (fun s h => by first | exact h.elim | omega | (simp at h ⊢; omega)))).tr (hf7.up (fun s h => by first | exact h.elim | omega | (simp at h ⊢; omega))))).tr (hf14.up (fun s h => by first | exact h.elim | omega | (simp at h ⊢; omega))))).tr (hf19.up (fun s h => by first | exact h.elim | omega | (simp at h ⊢; omega)))) (by unfold sRs; rw [sRl_t c_49]; exact ha20)
        · skip
          refine z_aload_n 2 O dX6_rue_52 rfl ?_
          refine z_iload_n 3 O dX6_rue_53 rfl ?_
          refine z_iload 0 O dX6_rue_54 rfl ?_
          refine z_Svm [.ref q, .int (iI w), .int (iI ((K (at_ w (710 + (K (at_ w 2) - 1)))) / 100))] [] kM_X6_85 O dX6_rue_56 (c_X6_enter hst ha8 hw ⟨by omega, by omega⟩ (by rw [zU_n (by omega)]; have := hKl c_49; omega)) rfl rfl (by decide) (Nat.le_of_ble_eq_true rfl) (by omega) (by omega) (Nat.le_of_ble_eq_true rfl) zNx (fun H21 hp22 hz23 => ?_)
          obtain ⟨hf24, ha25⟩ := hp22
          have e5 : at_ w (70 + K (at_ w 1)) = 36 + 1350 * w + (70 + K (at_ w 1)) := rfl
          have := hKl c_49
          refine z_aload_n 2 O dX6_rue_59 rfl ?_
          refine z_iload 0 O dX6_rue_60 rfl ?_
          refine z_aload_n 2 O dX6_rue_62 rfl ?_
          refine z_iload 0 O dX6_rue_63 rfl ?_
          refine z_iald O dX6_rue_65 ha25.1 ⟨by omega, by omega⟩ (by omega) (by omega) ?_
          rw [show (sEnter (zU K (at_ w 2) ((K (at_ w 2)) - 1)) w (K (at_ w (710 + (K (at_ w 2) - 1))) / 100)) ((K (at_ w (710 + (K (at_ w 2) - 1)))) / 100) = K (K (at_ w (710 + (K (at_ w 2) - 1))) / 100) from ((sEnter_n (by rw [zU_n (by omega)]; omega) (by omega)).trans (zU_n (by omega)))]
          refine z_iload 1 O dX6_rue_66 rfl ?_
          refine z_bipush 100 O dX6_rue_68 (by decide +kernel) ?_
          refine z_irem O dX6_rue_70 ⟨by omega, by omega⟩ ⟨by omega, by omega⟩ (by omega) (by omega) ?_
          refine z_iadd O dX6_rue_71 ?_
          refine z_bipush 100 O dX6_rue_72 (by decide +kernel) ?_
          refine z_irem O dX6_rue_74 ⟨by omega, by omega⟩ ⟨by omega, by omega⟩ (by omega) (by omega) ?_
          refine z_iast O dX6_rue_75 ha25.1 ⟨by omega, by omega⟩ (by omega) (by omega) (fun H26 hA27 hC28 => ?_)
          have hf29 := ha25.ch hC28
          have ha30 : zA (zEn x) H26 r t q 4086 (zU (sEnter (zU K (at_ w 2) ((K (at_ w 2)) - 1)) w (K (at_ w (710 + (K (at_ w 2) - 1))) / 100)) ((K (at_ w (710 + (K (at_ w 2) - 1)))) / 100) (((K (K (at_ w (710 + (K (at_ w 2) - 1))) / 100)) + ((K (at_ w (710 + (K (at_ w 2) - 1)))) % 100)) % 100)) := ⟨hA27, ha25.2⟩
          refine z_aload_n 2 O dX6_rue_76 rfl ?_
          refine z_bipush 35 O dX6_rue_77 (by decide +kernel) ?_
          refine z_dup2 O dX6_rue_79 rfl rfl ?_
          refine z_iald O dX6_rue_80 ha30.1 ⟨by omega, by omega⟩ (by omega) (by omega) ?_
          rw [show (zU (sEnter (zU K (at_ w 2) ((K (at_ w 2)) - 1)) w (K (at_ w (710 + (K (at_ w 2) - 1))) / 100)) ((K (at_ w (710 + (K (at_ w 2) - 1)))) / 100) (((K (K (at_ w (710 + (K (at_ w 2) - 1))) / 100)) + ((K (at_ w (710 + (K (at_ w 2) - 1)))) % 100)) % 100)) 35 = K 35 from ((zU_n (by omega)).trans ((sEnter_n (by rw [zU_n (by omega)]; omega) (by omega)).trans (zU_n (by omega))))]
          refine z_iconst 1 O dX6_rue_81 (by decide +kernel) ?_
          refine z_iadd O dX6_rue_82 ?_
          refine z_iast O dX6_rue_83 ha30.1 ⟨by omega, by omega⟩ (by omega) (by omega) (fun H31 hA32 hC33 => ?_)
          have hf34 := ha30.ch hC33
          have ha35 : zA (zEn x) H31 r t q 4086 (zU (zU (sEnter (zU K (at_ w 2) ((K (at_ w 2)) - 1)) w (K (at_ w (710 + (K (at_ w 2) - 1))) / 100)) ((K (at_ w (710 + (K (at_ w 2) - 1)))) / 100) (((K (K (at_ w (710 + (K (at_ w 2) - 1))) / 100)) + ((K (at_ w (710 + (K (at_ w 2) - 1)))) % 100)) % 100)) 35 ((K 35) + 1)) := ⟨hA32, ha30.2⟩
          refine z_goto 0 O dX6_rue_84 (by decide) ?_
          refine z_locs [2, 3, 4, 5] rfl ?_
          exact ih (sRs K w b) H31 (by rw [hS.2]; omega) hS.1 hR (((((((((hf'.up (fun s h => by first | exact h.elim | omega | (simp at h ⊢; omega)))).tr (hf7.up (fun s h => by first | exact h.elim | omega | (simp at h ⊢; omega))))).tr (hf24.up (fun s h => by first | exact h.elim | omega | (simp at h ⊢; omega))))).tr (hf29.up (fun s h => by first | exact h.elim | omega | (simp at h ⊢; omega))))).tr (hf34.up (fun s h => by first | exact h.elim | omega | (simp at h ⊢; omega)))) (by unfold sRs; rw [sRl_f c_49]; exact ha35)
  exact loop n G H hn hI rfl zFr.rf hA

theorem c_X6_failIn {E : zE} (hst : E.1.stackTraces = false) {H : Heap} {r : zH} {t q : Nat} {G : Int → Int} {N w : Int} (hA : zA E H r t q 4086 G) (hG : sW G N) (hw : 0 ≤ w ∧ w ≤ 2) (hm0 : 0 < G (at_ w 0)) : zC E yX6_failIn cX6_failIn 4 (some .int) 3 68 [.ref q, .int (iI w)] H 0 0 (zRi (sFailR G w) (fun H1 => zFr H r H1 r (fun s => s = t) ∧ zA E H1 r t q 4086 (sFail G w))) zN := by
  refine zC.of (by decide) (Nat.le_of_ble_eq_true rfl) hst ?_
  intro x O hE hpo hpx
  subst hE
  change zG x H 0 0 0 [(0, .ref q), (1, .int (iI w))] []
  have hi := hG.in hw hm0
  have hm := hG.m hw
  have hl := hG.l hw
  have n0 : at_ w 0 = 36 + 1350 * w + 0 := rfl
  have n1 : at_ w 1 = 36 + 1350 * w + 1 := rfl
  have n2 : at_ w 2 = 36 + 1350 * w + 2 := rfl
  have n4 : at_ w 4 = 36 + 1350 * w + 4 := rfl
  have n70 : at_ w 70 = 36 + 1350 * w + 70 := rfl
  have n709 : at_ w 709 = 36 + 1350 * w + 709 := rfl
  have hS := sF_I hG hw hm0
  obtain ⟨⟨f0, f2, hI⟩, hI1, g0, g2, g1, gj⟩ := hS
  have he : eOK G w := fun k a b => hG.e hw a b
  have hU := sUn_n (G (at_ w 1) - G (sIn G w 0)).toNat hw.1 he (by omega)
  refine z_aload_n 0 O dX6_failIn_0 rfl ?_
  refine z_aload_n 0 O dX6_failIn_1 rfl ?_
  refine z_iload_n 1 O dX6_failIn_2 rfl ?_
  refine z_iconst 0 O dX6_failIn_3 (by decide +kernel) ?_
  refine z_Si [.ref q, .int (iI w), .int (iI 0)] [.ref q] kM_X6_77 O dX6_failIn_4 (c_X6_innerAt hst hA hw) rfl rfl (by decide) (Nat.le_of_ble_eq_true rfl) (by omega) (by omega) (Nat.le_of_ble_eq_true rfl) zNx ?_
  have ea1 : sIn G w 0 = 36 + 1350 * w + (5 + 13 * (G (at_ w 0) - 1) + 0) := rfl
  have ea2 : at_ w 0 = 36 + 1350 * w + 0 := rfl
  refine z_iald O dX6_failIn_7 hA.1 ⟨by omega, by omega⟩ (by omega) (by omega) ?_
  refine z_istore_n [(2, .int (iI (G (sIn G w 0)))), (0, .ref q), (1, .int (iI w))] O dX6_failIn_8 (by decide) rfl ?_
  refine z_aload_n 1 O dX6_failIn_9 rfl ?_
  refine z_aload_n 1 O dX6_failIn_10 rfl ?_
  refine z_iload_n 2 O dX6_failIn_11 rfl ?_
  refine z_iconst 1 O dX6_failIn_12 (by decide +kernel) ?_
  refine z_Si [.ref q, .int (iI w), .int (iI 1)] [.ref q] kM_X6_77 O dX6_failIn_13 (c_X6_innerAt hst hA hw) rfl rfl (by decide) (Nat.le_of_ble_eq_true rfl) (by omega) (by omega) (Nat.le_of_ble_eq_true rfl) zNx ?_
  have ea3 : sIn G w 1 = 36 + 1350 * w + (5 + 13 * (G (at_ w 0) - 1) + 1) := rfl
  have ea4 : at_ w 0 = 36 + 1350 * w + 0 := rfl
  refine z_iald O dX6_failIn_16 hA.1 ⟨by omega, by omega⟩ (by omega) (by omega) ?_
  refine z_istore_n [(3, .int (iI (G (sIn G w 1)))), (2, .int (iI (G (sIn G w 0)))), (0, .ref q), (1, .int (iI w))] O dX6_failIn_17 (by decide) rfl ?_
  refine z_aload_n 2 O dX6_failIn_18 rfl ?_
  refine z_iload_n 3 O dX6_failIn_19 rfl ?_
  refine z_iload_n 1 O dX6_failIn_20 rfl ?_
  refine z_Sim [.ref q, .int (iI w), .int (iI (G (sIn G w 0)))] [] kM_X6_96 O dX6_failIn_21 (c_X6_undoTo hst hA hw he ⟨by omega, by omega, by omega⟩) rfl rfl (by decide) (Nat.le_of_ble_eq_true rfl) (by omega) (by omega) (Nat.le_of_ble_eq_true rfl) zNx (fun H5 hp6 hz7 => ?_)
  obtain ⟨hf8, ha9⟩ := hp6
  refine z_pop O dX6_failIn_24 rfl ?_
  refine z_aload_n 2 O dX6_failIn_25 rfl ?_
  refine z_iload_n 3 O dX6_failIn_26 rfl ?_
  refine z_iconst 0 O dX6_failIn_27 (by decide +kernel) ?_
  refine z_Si [.int (iI w), .int (iI 0)] [.ref q] kM_X6_65 O dX6_failIn_28 (c_X6_at hst) rfl rfl (by decide) (Nat.le_of_ble_eq_true rfl) (by omega) (by omega) (Nat.le_of_ble_eq_true rfl) zNx ?_
  have ea10 : at_ w 0 = 36 + 1350 * w + 0 := rfl
  refine z_dup2 O dX6_failIn_31 rfl rfl ?_
  refine z_iald O dX6_failIn_32 ha9.1 ⟨by omega, by omega⟩ (by omega) (by omega) ?_
  rw [show (sUn (G (at_ w 1) - G (sIn G w 0)).toNat G w) (at_ w 0) = G (at_ w 0) from (hU.1 _ (by omega) (by omega))]
  refine z_iconst 1 O dX6_failIn_33 (by decide +kernel) ?_
  refine z_isub O dX6_failIn_34 ?_
  refine z_iast O dX6_failIn_35 ha9.1 ⟨by omega, by omega⟩ (by omega) (by omega) (fun H11 hA12 hC13 => ?_)
  have hf14 := ha9.ch hC13
  have ha15 : zA (zEn x) H11 r t q 4086 (zU (sUn (G (at_ w 1) - G (sIn G w 0)).toNat G w) (at_ w 0) ((G (at_ w 0)) - 1)) := ⟨hA12, ha9.2⟩
  refine z_aload_n 2 O dX6_failIn_36 rfl ?_
  refine z_iload_n 3 O dX6_failIn_37 rfl ?_
  refine z_iload_n 0 O dX6_failIn_38 rfl ?_
  refine z_aload_n 2 O dX6_failIn_39 rfl ?_
  refine z_iload_n 3 O dX6_failIn_40 rfl ?_
  refine z_Si [.ref q, .int (iI w)] [.int (iI (G (sIn G w 1))), .int (iI w), .ref q] kM_X6_69 O dX6_failIn_41 (c_X6_many hst ha15 hw) rfl rfl (by decide) (Nat.le_of_ble_eq_true rfl) (by omega) (by omega) (Nat.le_of_ble_eq_true rfl) zNx ?_
  rw [show (zU (sUn (G (at_ w 1) - G (sIn G w 0)).toNat G w) (at_ w 0) ((G (at_ w 0)) - 1)) (at_ w 0) = G (at_ w 0) - 1 from f0]
  refine z_if_ne 51 O dX6_failIn_44 (by decide) ⟨by omega, by omega⟩ (fun c_44 => ?_) (fun c_44 => ?_)
  · skip
    refine z_iconst 0 O dX6_failIn_51 (by decide +kernel) ?_
    have hD : decide (G (at_ w 0) = 1) = false := decide_eq_false (by omega)
    rw [hD] at hI
    refine z_Svm [.ref q, .int (iI w), .int (iI (G (sIn G w 1))), .int (iI 0)] [] kM_X6_109 O dX6_failIn_52 (c_X6_rue hst ha15 hw (G := sF0 G w) (b := false) (n := (G (at_ w 2) - G (sIn G w 1)).toNat) hI (by omega) (by omega)) rfl rfl (by decide) (Nat.le_of_ble_eq_true rfl) (by omega) (by omega) (Nat.le_of_ble_eq_true rfl) zNx (fun H16 hp17 hz18 => ?_)
    obtain ⟨hf19, ha20⟩ := hp17
    have ha21 : zA (zEn x) H16 r t q 4086 (sF1 G w) := by unfold sF1; rw [hD]; exact ha20
    refine z_aload_n 2 O dX6_failIn_55 rfl ?_
    refine z_iload_n 3 O dX6_failIn_56 rfl ?_
    refine z_Si [.ref q, .int (iI w)] [] kM_X6_69 O dX6_failIn_57 (c_X6_many hst ha21 hw) rfl rfl (by decide) (Nat.le_of_ble_eq_true rfl) (by omega) (by omega) (Nat.le_of_ble_eq_true rfl) zNx ?_
    rw [show (sF1 G w) (at_ w 0) = G (at_ w 0) - 1 from g0]
    refine z_if_ne 81 O dX6_failIn_60 (by decide) ⟨by omega, by omega⟩ (fun c_60 => ?_) (fun c_60 => ?_)
    · skip
      have hk := hG.k hw (i := G (at_ w 0) - 2) (by omega) (by omega)
      have hk3 := hk.2.2.2.1
      have e5 : sIn (sF1 G w) w 3 = wA w (G (at_ w 0) - 2) 3 := by unfold sIn; rw [g0, show G (at_ w 0) - 1 - 1 = G (at_ w 0) - 2 by omega]
      have e6 : wA w (G (at_ w 0) - 2) 3 = 36 + 1350 * w + (5 + 13 * (G (at_ w 0) - 2) + 3) := rfl
      have e8 : at_ w 70 = 36 + 1350 * w + 70 := rfl
      have e7 : sF1 G w (sIn (sF1 G w) w 3) = G (wA w (G (at_ w 0) - 2) 3) := by rw [e5]; exact gj _ (by omega) (by omega) (by omega) (by omega) (by omega) (by omega)
      have h32 : sF1 G w 32 = G 32 := gj _ (by omega) (by omega) (by omega) (by omega) (by omega) (by omega)
      have hG32 := hG.2.2.2.1
      refine z_aload_n 2 O dX6_failIn_81 rfl ?_
      refine z_aload_n 2 O dX6_failIn_82 rfl ?_
      refine z_iload_n 3 O dX6_failIn_83 rfl ?_
      refine z_iconst 3 O dX6_failIn_84 (by decide +kernel) ?_
      refine z_Si [.ref q, .int (iI w), .int (iI 3)] [.ref q] kM_X6_77 O dX6_failIn_85 (c_X6_innerAt hst ha21 hw) rfl rfl (by decide) (Nat.le_of_ble_eq_true rfl) (by omega) (by omega) (Nat.le_of_ble_eq_true rfl) zNx ?_
      have ea22 : sIn (sF1 G w) w 3 = 36 + 1350 * w + (5 + 13 * ((sF1 G w) (at_ w 0) - 1) + 3) := rfl
      have ea23 : at_ w 0 = 36 + 1350 * w + 0 := rfl
      refine z_iald O dX6_failIn_88 ha21.1 ⟨by omega, by omega⟩ (by omega) (by omega) ?_
      refine z_aload_n 2 O dX6_failIn_89 rfl ?_
      refine z_bipush 32 O dX6_failIn_90 (by decide +kernel) ?_
      refine z_iald O dX6_failIn_92 ha21.1 ⟨by omega, by omega⟩ (by omega) (by omega) ?_
      refine z_icmp_ge 118 O dX6_failIn_93 (by decide) ⟨by omega, by omega⟩ ⟨by omega, by omega⟩ (fun c_93 => ?_) (fun c_93 => ?_)
      · skip
        refine z_aload_n 2 O dX6_failIn_118 rfl ?_
        refine z_aload_n 2 O dX6_failIn_119 rfl ?_
        refine z_iload_n 3 O dX6_failIn_120 rfl ?_
        refine z_iconst 4 O dX6_failIn_121 (by decide +kernel) ?_
        refine z_Si [.ref q, .int (iI w), .int (iI 4)] [.ref q] kM_X6_77 O dX6_failIn_122 (c_X6_innerAt hst ha21 hw) rfl rfl (by decide) (Nat.le_of_ble_eq_true rfl) (by omega) (by omega) (Nat.le_of_ble_eq_true rfl) zNx ?_
        have ea24 : sIn (sF1 G w) w 4 = 36 + 1350 * w + (5 + 13 * ((sF1 G w) (at_ w 0) - 1) + 4) := rfl
        have ea25 : at_ w 0 = 36 + 1350 * w + 0 := rfl
        refine z_iconst 1 O dX6_failIn_125 (by decide +kernel) ?_
        refine z_iast O dX6_failIn_126 ha21.1 ⟨by omega, by omega⟩ (by omega) (by omega) (fun H26 hA27 hC28 => ?_)
        have hf29 := ha21.ch hC28
        have ha30 : zA (zEn x) H26 r t q 4086 (zU (sF1 G w) (sIn (sF1 G w) w 4) 1) := ⟨hA27, ha21.2⟩
        refine z_iconst 2 O dX6_failIn_127 (by decide +kernel) ?_
        exact z_ireti O dX6_failIn_128 rfl (by omega) (by omega) hpo (by unfold sFailR; first | rw [if_pos (by omega)] | (rw [if_neg (by omega)]; first | rw [if_pos (by omega)] | rw [if_neg (by omega)])) (⟨(((((((hf8.up (fun s h => by first | exact h.elim | omega | (simp at h ⊢; omega)))).tr (hf14.up (fun s h => by first | exact h.elim | omega | (simp at h ⊢; omega))))).tr (hf19.up (fun s h => by first | exact h.elim | omega | (simp at h ⊢; omega))))).tr (hf29.up (fun s h => by first | exact h.elim | omega | (simp at h ⊢; omega)))), by unfold sFail; rw [if_neg (by omega)]; rw [if_neg (by omega)]; exact ha30⟩)
      · skip
        refine z_aload_n 2 O dX6_failIn_96 rfl ?_
        refine z_aload_n 2 O dX6_failIn_97 rfl ?_
        refine z_iload_n 3 O dX6_failIn_98 rfl ?_
        refine z_iconst 3 O dX6_failIn_99 (by decide +kernel) ?_
        refine z_Si [.ref q, .int (iI w), .int (iI 3)] [.ref q] kM_X6_77 O dX6_failIn_100 (c_X6_innerAt hst ha21 hw) rfl rfl (by decide) (Nat.le_of_ble_eq_true rfl) (by omega) (by omega) (Nat.le_of_ble_eq_true rfl) zNx ?_
        have ea31 : sIn (sF1 G w) w 3 = 36 + 1350 * w + (5 + 13 * ((sF1 G w) (at_ w 0) - 1) + 3) := rfl
        have ea32 : at_ w 0 = 36 + 1350 * w + 0 := rfl
        refine z_dup2 O dX6_failIn_103 rfl rfl ?_
        refine z_iald O dX6_failIn_104 ha21.1 ⟨by omega, by omega⟩ (by omega) (by omega) ?_
        refine z_iconst 1 O dX6_failIn_105 (by decide +kernel) ?_
        refine z_iadd O dX6_failIn_106 ?_
        refine z_iast O dX6_failIn_107 ha21.1 ⟨by omega, by omega⟩ (by omega) (by omega) (fun H33 hA34 hC35 => ?_)
        have hf36 := ha21.ch hC35
        have ha37 : zA (zEn x) H33 r t q 4086 (zU (sF1 G w) (sIn (sF1 G w) w 3) (((sF1 G w) (sIn (sF1 G w) w 3)) + 1)) := ⟨hA34, ha21.2⟩
        refine z_aload_n 2 O dX6_failIn_108 rfl ?_
        refine z_bipush 33 O dX6_failIn_109 (by decide +kernel) ?_
        refine z_dup2 O dX6_failIn_111 rfl rfl ?_
        refine z_iald O dX6_failIn_112 ha37.1 ⟨by omega, by omega⟩ (by omega) (by omega) ?_
        rw [show (zU (sF1 G w) (sIn (sF1 G w) w 3) (((sF1 G w) (sIn (sF1 G w) w 3)) + 1)) 33 = sF1 G w 33 from (zU_n (by omega))]
        refine z_iconst 1 O dX6_failIn_113 (by decide +kernel) ?_
        refine z_iadd O dX6_failIn_114 ?_
        refine z_iast O dX6_failIn_115 ha37.1 ⟨by omega, by omega⟩ (by omega) (by omega) (fun H38 hA39 hC40 => ?_)
        have hf41 := ha37.ch hC40
        have ha42 : zA (zEn x) H38 r t q 4086 (zU (zU (sF1 G w) (sIn (sF1 G w) w 3) (((sF1 G w) (sIn (sF1 G w) w 3)) + 1)) 33 ((sF1 G w 33) + 1)) := ⟨hA39, ha37.2⟩
        refine z_iconst 1 O dX6_failIn_116 (by decide +kernel) ?_
        exact z_ireti O dX6_failIn_117 rfl (by omega) (by omega) hpo (by unfold sFailR; first | rw [if_pos (by omega)] | (rw [if_neg (by omega)]; first | rw [if_pos (by omega)] | rw [if_neg (by omega)])) (⟨(((((((((hf8.up (fun s h => by first | exact h.elim | omega | (simp at h ⊢; omega)))).tr (hf14.up (fun s h => by first | exact h.elim | omega | (simp at h ⊢; omega))))).tr (hf19.up (fun s h => by first | exact h.elim | omega | (simp at h ⊢; omega))))).tr (hf36.up (fun s h => by first | exact h.elim | omega | (simp at h ⊢; omega))))).tr (hf41.up (fun s h => by first | exact h.elim | omega | (simp at h ⊢; omega)))), by unfold sFail; rw [if_neg (by omega)]; rw [if_pos (by omega)]; exact ha42⟩)
    · exfalso; omega
  · skip
    refine z_iconst 1 O dX6_failIn_47 (by decide +kernel) ?_
    refine z_goto 52 O dX6_failIn_48 (by decide) ?_
    have hD : decide (G (at_ w 0) = 1) = true := decide_eq_true (by omega)
    rw [hD] at hI
    refine z_Svm [.ref q, .int (iI w), .int (iI (G (sIn G w 1))), .int (iI 1)] [] kM_X6_109 O dX6_failIn_52 (c_X6_rue hst ha15 hw (G := sF0 G w) (b := true) (n := (G (at_ w 2) - G (sIn G w 1)).toNat) hI (by omega) (by omega)) rfl rfl (by decide) (Nat.le_of_ble_eq_true rfl) (by omega) (by omega) (Nat.le_of_ble_eq_true rfl) zNx (fun H43 hp44 hz45 => ?_)
    obtain ⟨hf46, ha47⟩ := hp44
    have ha48 : zA (zEn x) H43 r t q 4086 (sF1 G w) := by unfold sF1; rw [hD]; exact ha47
    refine z_aload_n 2 O dX6_failIn_55 rfl ?_
    refine z_iload_n 3 O dX6_failIn_56 rfl ?_
    refine z_Si [.ref q, .int (iI w)] [] kM_X6_69 O dX6_failIn_57 (c_X6_many hst ha48 hw) rfl rfl (by decide) (Nat.le_of_ble_eq_true rfl) (by omega) (by omega) (Nat.le_of_ble_eq_true rfl) zNx ?_
    rw [show (sF1 G w) (at_ w 0) = G (at_ w 0) - 1 from g0]
    refine z_if_ne 81 O dX6_failIn_60 (by decide) ⟨by omega, by omega⟩ (fun c_60 => ?_) (fun c_60 => ?_)
    · exfalso; omega
    · skip
      refine z_aload_n 2 O dX6_failIn_63 rfl ?_
      refine z_iload_n 3 O dX6_failIn_64 rfl ?_
      refine z_Svm [.ref q, .int (iI w)] [] kM_X6_105 O dX6_failIn_65 (c_X6_end hst ha48 hw (fun c h0 h1 => by rw [gj _ (by omega) (by omega) (by omega) (by omega) (by omega) (by omega)]; exact hG.2.2.1 c h0 h1)) rfl rfl (by decide) (Nat.le_of_ble_eq_true rfl) (by omega) (by omega) (Nat.le_of_ble_eq_true rfl) zNx (fun H49 hp50 hz51 => ?_)
      obtain ⟨hf52, ha53⟩ := hp50
      refine z_aload_n 2 O dX6_failIn_68 rfl ?_
      refine z_iload_n 3 O dX6_failIn_69 rfl ?_
      refine z_iconst 4 O dX6_failIn_70 (by decide +kernel) ?_
      refine z_Si [.int (iI w), .int (iI 4)] [.ref q] kM_X6_65 O dX6_failIn_71 (c_X6_at hst) rfl rfl (by decide) (Nat.le_of_ble_eq_true rfl) (by omega) (by omega) (Nat.le_of_ble_eq_true rfl) zNx ?_
      have ea54 : at_ w 4 = 36 + 1350 * w + 4 := rfl
      refine z_dup2 O dX6_failIn_74 rfl rfl ?_
      refine z_iald O dX6_failIn_75 ha53.1 ⟨by omega, by omega⟩ (by omega) (by omega) ?_
      rw [show (sEnd (sF1 G w) w) (at_ w 4) = G (at_ w 4) from ((sEnd_n (by omega) (by omega) (by omega)).trans (gj _ (by omega) (by omega) (by omega) (by omega) (by omega) (by omega)))]
      refine z_iconst 1 O dX6_failIn_76 (by decide +kernel) ?_
      refine z_iadd O dX6_failIn_77 ?_
      refine z_iast O dX6_failIn_78 ha53.1 ⟨by omega, by omega⟩ (by omega) (by omega) (fun H55 hA56 hC57 => ?_)
      have hf58 := ha53.ch hC57
      have ha59 : zA (zEn x) H55 r t q 4086 (zU (sEnd (sF1 G w) w) (at_ w 4) ((G (at_ w 4)) + 1)) := ⟨hA56, ha53.2⟩
      refine z_iconst 0 O dX6_failIn_79 (by decide +kernel) ?_
      exact z_ireti O dX6_failIn_80 rfl (by omega) (by omega) hpo (by unfold sFailR; first | rw [if_pos (by omega)] | (rw [if_neg (by omega)]; first | rw [if_pos (by omega)] | rw [if_neg (by omega)])) (⟨(((((((((hf8.up (fun s h => by first | exact h.elim | omega | (simp at h ⊢; omega)))).tr (hf14.up (fun s h => by first | exact h.elim | omega | (simp at h ⊢; omega))))).tr (hf46.up (fun s h => by first | exact h.elim | omega | (simp at h ⊢; omega))))).tr (hf52.up (fun s h => by first | exact h.elim | omega | (simp at h ⊢; omega))))).tr (hf58.up (fun s h => by first | exact h.elim | omega | (simp at h ⊢; omega)))), by unfold sFail; rw [if_pos (by omega)]; exact ha59⟩)
