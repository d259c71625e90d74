/-! the reference: the steps of scripts (written by program: wip/whole/gen/model6.py) -/
theorem c_X6_oldest {E : zE} (hst : E.1.stackTraces = false) {H : Heap} {r : zH} {q : Nat} {Q : Nat → Nat} {rf n sp : Int} {gd : Bool} {lo fi ac : Int} {G : Int → Int} {c N : Int} (hO : zMo E H r q Q rf n sp gd lo fi ac) (hA : zA E H r 100003 (Q 3) 4086 G) (hG : sW G N) (hN : N ≤ 639) (hc : 0 ≤ c ∧ c ≤ 15) : zC E yX6_oldest cX6_oldest 6 (some .int) 1 21 [.ref q, .int (iI c)] H 0 0 (zRi (sOl G c) (zSm H)) zN := by
  refine zC.of (by decide) (Nat.le_of_ble_eq_true rfl) hst ?_
  intro x O hE hpo hpx
  subst hE
  change zG x H 0 0 0 [(0, .ref q), (1, .int (iI c))] []
  have hk := hG.2.2.1 c hc.1 (by omega)
  refine z_aload_n 0 O dX6_oldest_0 rfl ?_
  refine z_getf kF_X6_16 O dX6_oldest_1 hO.1 rfl ?_
  refine z_bipush 16 O dX6_oldest_4 (by decide +kernel) ?_
  refine z_iload_n 1 O dX6_oldest_6 rfl ?_
  refine z_iadd O dX6_oldest_7 ?_
  refine z_iald O dX6_oldest_8 hA.1 ⟨by omega, by omega⟩ (by omega) (by omega) ?_
  refine z_iconst 1 O dX6_oldest_9 (by decide +kernel) ?_
  refine z_isub O dX6_oldest_10 ?_
  refine z_istore_n [(2, .int (iI ((G (16 + c)) - 1))), (0, .ref q), (1, .int (iI c))] O dX6_oldest_11 (by decide) rfl ?_
  refine z_aload_n 1 O dX6_oldest_12 rfl ?_
  refine z_getf kF_X6_16 O dX6_oldest_13 hO.1 rfl ?_
  refine z_iload_n 2 O dX6_oldest_16 rfl ?_
  refine z_iald O dX6_oldest_17 hA.1 ⟨by omega, by omega⟩ (by omega) (by omega) ?_
  refine z_istore_n [(3, .int (iI (G c))), (2, .int (iI ((G (16 + c)) - 1))), (0, .ref q), (1, .int (iI c))] O dX6_oldest_18 (by decide) rfl ?_
  refine z_iload_n 1 O dX6_oldest_19 rfl ?_
  refine z_if_ge 27 O dX6_oldest_20 (by decide) ⟨by omega, by omega⟩ (fun c_20 => ?_) (fun c_20 => ?_)
  · skip
    refine z_aload_n 2 O dX6_oldest_27 rfl ?_
    refine z_getf kF_X6_16 O dX6_oldest_28 hO.1 rfl ?_
    refine z_iload_n 1 O dX6_oldest_31 rfl ?_
    refine z_iconst 1 O dX6_oldest_32 (by decide +kernel) ?_
    refine z_Si [.int (iI ((G (16 + c)) - 1)), .int (iI 1)] [.ref (Q 3)] kM_X6_65 O dX6_oldest_33 (c_X6_at hst) rfl rfl (by decide) (Nat.le_of_ble_eq_true rfl) (by omega) (by omega) (Nat.le_of_ble_eq_true rfl) zNx ?_
    have ea1 : at_ ((G (16 + c)) - 1) 1 = 36 + 1350 * ((G (16 + c)) - 1) + 1 := rfl
    have hl := hG.l (w := G (16 + c) - 1) ⟨by omega, by omega⟩
    refine z_iald O dX6_oldest_36 hA.1 ⟨by omega, by omega⟩ (by omega) (by omega) ?_
    refine z_iconst 1 O dX6_oldest_37 (by decide +kernel) ?_
    refine z_isub O dX6_oldest_38 ?_
    refine z_istore [(4, .int (iI ((G (at_ ((G (16 + c)) - 1) 1)) - 1))), (3, .int (iI (G c))), (2, .int (iI ((G (16 + c)) - 1))), (0, .ref q), (1, .int (iI c))] O dX6_oldest_39 (by decide) rfl ?_
    have loop : ∀ (d : Nat) (i v : Int), (i + 1 = (d : Int)) → (d = 0 ∨ (0 ≤ G (16 + c) - 1 ∧ i < G (at_ (G (16 + c) - 1) 1))) → (sOd d G (G (16 + c) - 1) c v = sOl G c) → zG x H 0 0 41 [(4, .int (iI i)), (3, .int (iI v)), (2, .int (iI (G (16 + c) - 1))), (0, .ref q), (1, .int (iI c))] [] := by
      intro d
      induction d with
      | zero =>
        intro i v hid hiw hRR
        refine z_iload 0 O dX6_oldest_41 rfl ?_
        refine z_if_lt 87 O dX6_oldest_43 (by decide) ⟨by omega, by omega⟩ (fun c_43 => ?_) (fun c_43 => ?_)
        · skip
          refine z_iload_n 1 O dX6_oldest_87 rfl ?_
          exact z_ireti O dX6_oldest_88 rfl (by omega) (by omega) hpo (by rw [← hRR]; rfl) (rfl)
        · exfalso; omega
      | succ d ih =>
        intro i v hid hiw hRR
        have hw0 : 0 ≤ G (16 + c) - 1 := by omega
        have hll := hG.l (w := G (16 + c) - 1) ⟨by omega, by omega⟩
        have hee := hG.e (w := G (16 + c) - 1) ⟨by omega, by omega⟩ (k := i) (by omega) (by omega)
        have hid2 : i = (d : Int) := by omega
        refine z_iload 0 O dX6_oldest_41 rfl ?_
        refine z_if_lt 87 O dX6_oldest_43 (by decide) ⟨by omega, by omega⟩ (fun c_43 => ?_) (fun c_43 => ?_)
        · exfalso; omega
        · skip
          refine z_aload_n 3 O dX6_oldest_46 rfl ?_
          refine z_getf kF_X6_16 O dX6_oldest_47 hO.1 rfl ?_
          refine z_iload_n 2 O dX6_oldest_50 rfl ?_
          refine z_bipush 70 O dX6_oldest_51 (by decide +kernel) ?_
          refine z_iload 0 O dX6_oldest_53 rfl ?_
          refine z_iadd O dX6_oldest_55 ?_
          refine z_Si [.int (iI (G (16 + c) - 1)), .int (iI (70 + i))] [.ref (Q 3)] kM_X6_65 O dX6_oldest_56 (c_X6_at hst) rfl rfl (by decide) (Nat.le_of_ble_eq_true rfl) (by omega) (by omega) (Nat.le_of_ble_eq_true rfl) zNx ?_
          have ea2 : at_ (G (16 + c) - 1) (70 + i) = 36 + 1350 * (G (16 + c) - 1) + (70 + i) := rfl
          refine z_iald O dX6_oldest_59 hA.1 ⟨by omega, by omega⟩ (by omega) (by omega) ?_
          refine z_istore [(5, .int (iI (G (at_ (G (16 + c) - 1) (70 + i))))), (4, .int (iI i)), (3, .int (iI v)), (2, .int (iI (G (16 + c) - 1))), (0, .ref q), (1, .int (iI c))] O dX6_oldest_60 (by decide) rfl ?_
          refine z_iload 0 O dX6_oldest_62 rfl ?_
          refine z_bipush 100 O dX6_oldest_64 (by decide +kernel) ?_
          refine z_idiv O dX6_oldest_66 ⟨by omega, by omega⟩ ⟨by omega, by omega⟩ (by omega) (by omega) ?_
          refine z_iload_n 5 O dX6_oldest_67 rfl ?_
          refine z_icmp_ne 79 O dX6_oldest_68 (by decide) ⟨by omega, by omega⟩ ⟨by omega, by omega⟩ (fun c_68 => ?_) (fun c_68 => ?_)
          · skip
            refine z_iload_n 2 O dX6_oldest_79 rfl ?_
            refine z_istore_n [(3, .int (iI v)), (5, .int (iI (G (at_ (G (16 + c) - 1) (70 + i))))), (4, .int (iI i)), (2, .int (iI (G (16 + c) - 1))), (0, .ref q), (1, .int (iI c))] O dX6_oldest_80 (by decide) rfl ?_
            refine z_iinc 2 [(4, .int (iI (i + (-1)))), (3, .int (iI v)), (5, .int (iI (G (at_ (G (16 + c) - 1) (70 + i))))), (2, .int (iI (G (16 + c) - 1))), (0, .ref q), (1, .int (iI c))] O dX6_oldest_81 (by decide) rfl rfl ?_
            refine z_goto 41 O dX6_oldest_84 (by decide) ?_
            refine z_locs [0, 1, 3, 4, 5] rfl ?_
            have hR2 : sOd d G (G (16 + c) - 1) c (v) = sOl G c := by rw [← hRR]; show _ = sOd d G (G (16 + c) - 1) c (if _ then _ else _); rw [← hid2, if_neg (by omega)]
            exact ih (i + (-1)) (v) (by omega) (by omega) hR2
          · skip
            refine z_iload 0 O dX6_oldest_71 rfl ?_
            refine z_bipush 100 O dX6_oldest_73 (by decide +kernel) ?_
            refine z_irem O dX6_oldest_75 ⟨by omega, by omega⟩ ⟨by omega, by omega⟩ (by omega) (by omega) ?_
            refine z_goto 80 O dX6_oldest_76 (by decide) ?_
            refine z_istore_n [(3, .int (iI ((G (at_ (G (16 + c) - 1) (70 + i))) % 100))), (5, .int (iI (G (at_ (G (16 + c) - 1) (70 + i))))), (4, .int (iI i)), (2, .int (iI (G (16 + c) - 1))), (0, .ref q), (1, .int (iI c))] O dX6_oldest_80 (by decide) rfl ?_
            refine z_iinc 2 [(4, .int (iI (i + (-1)))), (3, .int (iI ((G (at_ (G (16 + c) - 1) (70 + i))) % 100))), (5, .int (iI (G (at_ (G (16 + c) - 1) (70 + i))))), (2, .int (iI (G (16 + c) - 1))), (0, .ref q), (1, .int (iI c))] O dX6_oldest_81 (by decide) rfl rfl ?_
            refine z_goto 41 O dX6_oldest_84 (by decide) ?_
            refine z_locs [0, 1, 3, 4, 5] rfl ?_
            have hR2 : sOd d G (G (16 + c) - 1) c ((G (at_ (G (16 + c) - 1) (70 + i))) % 100) = sOl G c := by rw [← hRR]; show _ = sOd d G (G (16 + c) - 1) c (if _ then _ else _); rw [← hid2, if_pos (by omega)]
            exact ih (i + (-1)) ((G (at_ (G (16 + c) - 1) (70 + i))) % 100) (by omega) (by omega) hR2
    exact loop (G (at_ (G (16 + c) - 1) 1)).toNat (G (at_ (G (16 + c) - 1) 1) - 1) (G c) (by omega) (by omega) (by unfold sOl; rw [if_pos (by omega)])
  · skip
    refine z_iconst (-1) O dX6_oldest_23 (by decide +kernel) ?_
    refine z_goto 39 O dX6_oldest_24 (by decide) ?_
    refine z_istore [(4, .int (iI (-1))), (3, .int (iI (G c))), (2, .int (iI ((G (16 + c)) - 1))), (0, .ref q), (1, .int (iI c))] O dX6_oldest_39 (by decide) rfl ?_
    have loop : ∀ (d : Nat) (i v : Int), (i + 1 = (d : Int)) → (d = 0 ∨ (0 ≤ G (16 + c) - 1 ∧ i < G (at_ (G (16 + c) - 1) 1))) → (sOd d G (G (16 + c) - 1) c v = sOl G c) → zG x H 0 0 41 [(4, .int (iI i)), (3, .int (iI v)), (2, .int (iI (G (16 + c) - 1))), (0, .ref q), (1, .int (iI c))] [] := by
      intro d
      induction d with
      | zero =>
        intro i v hid hiw hRR
        refine z_iload 0 O dX6_oldest_41 rfl ?_
        refine z_if_lt 87 O dX6_oldest_43 (by decide) ⟨by omega, by omega⟩ (fun c_43 => ?_) (fun c_43 => ?_)
        · skip
          refine z_iload_n 1 O dX6_oldest_87 rfl ?_
          exact z_ireti O dX6_oldest_88 rfl (by omega) (by omega) hpo (by rw [← hRR]; rfl) (rfl)
        · exfalso; omega
      | succ d ih =>
        intro i v hid hiw hRR
        have hw0 : 0 ≤ G (16 + c) - 1 := by omega
        have hll := hG.l (w := G (16 + c) - 1) ⟨by omega, by omega⟩
        have hee := hG.e (w := G (16 + c) - 1) ⟨by omega, by omega⟩ (k := i) (by omega) (by omega)
        have hid2 : i = (d : Int) := by omega
        refine z_iload 0 O dX6_oldest_41 rfl ?_
        refine z_if_lt 87 O dX6_oldest_43 (by decide) ⟨by omega, by omega⟩ (fun c_43 => ?_) (fun c_43 => ?_)
        · exfalso; omega
        · skip
          refine z_aload_n 3 O dX6_oldest_46 rfl ?_
          refine z_getf kF_X6_16 O dX6_oldest_47 hO.1 rfl ?_
          refine z_iload_n 2 O dX6_oldest_50 rfl ?_
          refine z_bipush 70 O dX6_oldest_51 (by decide +kernel) ?_
          refine z_iload 0 O dX6_oldest_53 rfl ?_
          refine z_iadd O dX6_oldest_55 ?_
          refine z_Si [.int (iI (G (16 + c) - 1)), .int (iI (70 + i))] [.ref (Q 3)] kM_X6_65 O dX6_oldest_56 (c_X6_at hst) rfl rfl (by decide) (Nat.le_of_ble_eq_true rfl) (by omega) (by omega) (Nat.le_of_ble_eq_true rfl) zNx ?_
          have ea3 : at_ (G (16 + c) - 1) (70 + i) = 36 + 1350 * (G (16 + c) - 1) + (70 + i) := rfl
          refine z_iald O dX6_oldest_59 hA.1 ⟨by omega, by omega⟩ (by omega) (by omega) ?_
          refine z_istore [(5, .int (iI (G (at_ (G (16 + c) - 1) (70 + i))))), (4, .int (iI i)), (3, .int (iI v)), (2, .int (iI (G (16 + c) - 1))), (0, .ref q), (1, .int (iI c))] O dX6_oldest_60 (by decide) rfl ?_
          refine z_iload 0 O dX6_oldest_62 rfl ?_
          refine z_bipush 100 O dX6_oldest_64 (by decide +kernel) ?_
          refine z_idiv O dX6_oldest_66 ⟨by omega, by omega⟩ ⟨by omega, by omega⟩ (by omega) (by omega) ?_
          refine z_iload_n 5 O dX6_oldest_67 rfl ?_
          refine z_icmp_ne 79 O dX6_oldest_68 (by decide) ⟨by omega, by omega⟩ ⟨by omega, by omega⟩ (fun c_68 => ?_) (fun c_68 => ?_)
          · skip
            refine z_iload_n 2 O dX6_oldest_79 rfl ?_
            refine z_istore_n [(3, .int (iI v)), (5, .int (iI (G (at_ (G (16 + c) - 1) (70 + i))))), (4, .int (iI i)), (2, .int (iI (G (16 + c) - 1))), (0, .ref q), (1, .int (iI c))] O dX6_oldest_80 (by decide) rfl ?_
            refine z_iinc 2 [(4, .int (iI (i + (-1)))), (3, .int (iI v)), (5, .int (iI (G (at_ (G (16 + c) - 1) (70 + i))))), (2, .int (iI (G (16 + c) - 1))), (0, .ref q), (1, .int (iI c))] O dX6_oldest_81 (by decide) rfl rfl ?_
            refine z_goto 41 O dX6_oldest_84 (by decide) ?_
            refine z_locs [0, 1, 3, 4, 5] rfl ?_
            have hR2 : sOd d G (G (16 + c) - 1) c (v) = sOl G c := by rw [← hRR]; show _ = sOd d G (G (16 + c) - 1) c (if _ then _ else _); rw [← hid2, if_neg (by omega)]
            exact ih (i + (-1)) (v) (by omega) (by omega) hR2
          · skip
            refine z_iload 0 O dX6_oldest_71 rfl ?_
            refine z_bipush 100 O dX6_oldest_73 (by decide +kernel) ?_
            refine z_irem O dX6_oldest_75 ⟨by omega, by omega⟩ ⟨by omega, by omega⟩ (by omega) (by omega) ?_
            refine z_goto 80 O dX6_oldest_76 (by decide) ?_
            refine z_istore_n [(3, .int (iI ((G (at_ (G (16 + c) - 1) (70 + i))) % 100))), (5, .int (iI (G (at_ (G (16 + c) - 1) (70 + i))))), (4, .int (iI i)), (2, .int (iI (G (16 + c) - 1))), (0, .ref q), (1, .int (iI c))] O dX6_oldest_80 (by decide) rfl ?_
            refine z_iinc 2 [(4, .int (iI (i + (-1)))), (3, .int (iI ((G (at_ (G (16 + c) - 1) (70 + i))) % 100))), (5, .int (iI (G (at_ (G (16 + c) - 1) (70 + i))))), (2, .int (iI (G (16 + c) - 1))), (0, .ref q), (1, .int (iI c))] O dX6_oldest_81 (by decide) rfl rfl ?_
            refine z_goto 41 O dX6_oldest_84 (by decide) ?_
            refine z_locs [0, 1, 3, 4, 5] rfl ?_
            have hR2 : sOd d G (G (16 + c) - 1) c ((G (at_ (G (16 + c) - 1) (70 + i))) % 100) = sOl G c := by rw [← hRR]; show _ = sOd d G (G (16 + c) - 1) c (if _ then _ else _); rw [← hid2, if_pos (by omega)]
            exact ih (i + (-1)) ((G (at_ (G (16 + c) - 1) (70 + i))) % 100) (by omega) (by omega) hR2
    exact loop 0 (-1) (G c) (by omega) (by omega) (by unfold sOl; rw [if_neg (by omega)]; rfl)

theorem c_X6_cell {E : zE} (hst : E.1.stackTraces = false) {H : Heap} {r : zH} {q : Nat} {Q : Nat → Nat} {n : Int} {tx G : Int → Int} {fi ac : Int} {dd : Nat → Int → Int} {kp ik : Int → Int} {rf N : Int} {c j : Int} (hM : zMs E H r q Q n tx G fi ac dd kp ik rf) (hOK : mOK n tx G fi ac ik N) (hc : zR c) (hj : zR j) : zC E yX6_cell cX6_cell 3 (some .int) 2 46 [.ref q, .int (iI c), .int (iI j)] H 0 0 (zRi (if (cCe c j) = 0 then (vCe G c j) else 0) (fun H1 => zFr H r H1 r (fun s => 100000 ≤ s) ∧ (((cCe c j) ≠ 0 ∧ zMs E H1 r q Q n tx G fi ac dd kp ik (cCe c j)) ∨ ((cCe c j) = 0 ∧ zMs E H1 r q Q n tx G fi ac dd kp ik 0)))) zN := by
  refine zC.of (by decide) (Nat.le_of_ble_eq_true rfl) hst ?_
  intro x O hE hpo hpx
  subst hE
  change zG x H 0 0 0 [(0, .ref q), (1, .int (iI c)), (2, .int (iI j))] []
  obtain ⟨sp, gd, lo, rd, tr, hO, hT, hR, hA, hY, hD, hK, hI⟩ := hM
  obtain ⟨hn, hx, hG, hN, hfi, hac, hik⟩ := hOK
  refine z_aload_n 0 O dX6_cell_0 rfl ?_
  refine z_iload_n 1 O dX6_cell_1 rfl ?_
  refine z_Si [.int (iI c)] [.ref q] kM_X6_226 O dX6_cell_2 (c_X6_isCell hst ⟨by omega, by omega⟩) rfl rfl (by decide) (Nat.le_of_ble_eq_true rfl) (by omega) (by omega) (Nat.le_of_ble_eq_true rfl) zNx ?_
  refine z_ifb_ne 12 O dX6_cell_5 (by decide) (fun c_5 => ?_) (fun c_5 => ?_)
  · skip
    have k_5 := sBt_t.mp c_5
    refine z_iload_n 2 O dX6_cell_12 rfl ?_
    refine z_i2l O dX6_cell_13 ⟨by omega, by omega⟩ ?_
    refine z_lconst 0 O dX6_cell_14 (by decide +kernel) ?_
    refine z_ldc2 (iL 2) O dX6_cell_15 (List.mem_of_getElem? (i := 1146) (by decide +kernel)) ?_
    refine z_Si [.long (iL j), .long (iL 0), .long (iL 2)] [.ref q] kM_X6_92 O dX6_cell_18 (c_X6_in hst ⟨by omega, by omega⟩ ⟨by omega, by omega⟩ ⟨by omega, by omega⟩) rfl rfl (by decide) (Nat.le_of_ble_eq_true rfl) (by omega) (by omega) (Nat.le_of_ble_eq_true rfl) zNx ?_
    refine z_ifb_eq 28 O dX6_cell_21 (by decide) (fun c_21 => ?_) (fun c_21 => ?_)
    · skip
      have k_21 := sBt_f.mp c_21
      refine z_iconst 2 O dX6_cell_28 (by decide +kernel) ?_
      refine z_Vim [.int (iI 2)] [] kM_X6_118 O dX6_cell_29 (c_X6_refused hst hO ⟨by omega, by omega⟩) rfl rfl hO.1 (by decide) (Nat.le_of_ble_eq_true rfl) (by omega) (by omega) (Nat.le_of_ble_eq_true rfl) zNx (fun H1 hp2 hz3 => ?_)
      obtain ⟨hf4, hz5⟩ := hp2
      have hT6 := hT.fr hf4 (by first | exact zT1 (by omega) | (show ¬ (_ ∨ _); omega) | (show ¬ (_ ∧ _); omega))
      have hR7 := hR.fr hf4 (by first | exact zT1 (by omega) | (show ¬ (_ ∨ _); omega) | (show ¬ (_ ∧ _); omega))
      have hA8 := hA.fr hf4 (by first | exact zT1 (by omega) | (show ¬ (_ ∨ _); omega) | (show ¬ (_ ∧ _); omega))
      have hY9 := hY.fr hf4 (by first | exact zT1 (by omega) | (show ¬ (_ ∨ _); omega) | (show ¬ (_ ∧ _); omega))
      have hD10 := hD.fr hf4 (by first | exact zT1 (by omega) | (show ¬ (_ ∨ _); omega) | (show ¬ (_ ∧ _); omega)) (by first | exact zT1 (by omega) | (show ¬ (_ ∨ _); omega) | (show ¬ (_ ∧ _); omega)) (by first | exact zT1 (by omega) | (show ¬ (_ ∨ _); omega) | (show ¬ (_ ∧ _); omega)) (by first | exact zT1 (by omega) | (show ¬ (_ ∨ _); omega) | (show ¬ (_ ∧ _); omega))
      have hK11 := hK.fr hf4 (by first | exact zT1 (by omega) | (show ¬ (_ ∨ _); omega) | (show ¬ (_ ∧ _); omega))
      have hI12 := hI.fr hf4 (by first | exact zT1 (by omega) | (show ¬ (_ ∨ _); omega) | (show ¬ (_ ∧ _); omega))
      rw [show zb (decide ((0 : Int) < 2)) = 1 from rfl]
      refine z_if_eq 37 O dX6_cell_32 (by decide) ⟨by omega, by omega⟩ (fun c_32 => ?_) (fun c_32 => ?_)
      · exfalso; omega
      · skip
        refine z_iconst 0 O dX6_cell_35 (by decide +kernel) ?_
        exact z_ireti O dX6_cell_36 rfl (by omega) (by omega) hpo (by rw [if_neg (by rw [show (cCe c j) = 2 from by unfold cCe; (repeat first | rw [if_pos (by omega)] | rw [if_neg (by omega)] | rw [if_pos c_5] | rw [if_neg (by rw [c_21]; decide)])]; decide)]) (⟨(hf4.up (fun s h => by first | exact h.elim | omega | (simp at h ⊢; omega))), Or.inl ⟨(by rw [show (cCe c j) = 2 from by unfold cCe; (repeat first | rw [if_pos (by omega)] | rw [if_neg (by omega)] | rw [if_pos c_5] | rw [if_neg (by rw [c_21]; decide)])]; decide), (by rw [show (cCe c j) = 2 from by unfold cCe; (repeat first | rw [if_pos (by omega)] | rw [if_neg (by omega)] | rw [if_pos c_5] | rw [if_neg (by rw [c_21]; decide)])]; exact ⟨_, _, _, _, _, hz5, hT6, hR7, hA8, hY9, hD10, hK11, hI12⟩)⟩⟩)
    · skip
      have k_21 := sBt_t.mp c_21
      refine z_iconst 0 O dX6_cell_24 (by decide +kernel) ?_
      refine z_goto 29 O dX6_cell_25 (by decide) ?_
      refine z_Vim [.int (iI 0)] [] kM_X6_118 O dX6_cell_29 (c_X6_refused hst hO ⟨by omega, by omega⟩) rfl rfl hO.1 (by decide) (Nat.le_of_ble_eq_true rfl) (by omega) (by omega) (Nat.le_of_ble_eq_true rfl) zNx (fun H13 hp14 hz15 => ?_)
      obtain ⟨hf16, hz17⟩ := hp14
      have hT18 := hT.fr hf16 (by first | exact zT1 (by omega) | (show ¬ (_ ∨ _); omega) | (show ¬ (_ ∧ _); omega))
      have hR19 := hR.fr hf16 (by first | exact zT1 (by omega) | (show ¬ (_ ∨ _); omega) | (show ¬ (_ ∧ _); omega))
      have hA20 := hA.fr hf16 (by first | exact zT1 (by omega) | (show ¬ (_ ∨ _); omega) | (show ¬ (_ ∧ _); omega))
      have hY21 := hY.fr hf16 (by first | exact zT1 (by omega) | (show ¬ (_ ∨ _); omega) | (show ¬ (_ ∧ _); omega))
      have hD22 := hD.fr hf16 (by first | exact zT1 (by omega) | (show ¬ (_ ∨ _); omega) | (show ¬ (_ ∧ _); omega)) (by first | exact zT1 (by omega) | (show ¬ (_ ∨ _); omega) | (show ¬ (_ ∧ _); omega)) (by first | exact zT1 (by omega) | (show ¬ (_ ∨ _); omega) | (show ¬ (_ ∧ _); omega)) (by first | exact zT1 (by omega) | (show ¬ (_ ∨ _); omega) | (show ¬ (_ ∧ _); omega))
      have hK23 := hK.fr hf16 (by first | exact zT1 (by omega) | (show ¬ (_ ∨ _); omega) | (show ¬ (_ ∧ _); omega))
      have hI24 := hI.fr hf16 (by first | exact zT1 (by omega) | (show ¬ (_ ∨ _); omega) | (show ¬ (_ ∧ _); omega))
      rw [show zb (decide ((0 : Int) < 0)) = 0 from rfl]
      refine z_if_eq 37 O dX6_cell_32 (by decide) ⟨by omega, by omega⟩ (fun c_32 => ?_) (fun c_32 => ?_)
      · skip
        refine z_iload_n 2 O dX6_cell_37 rfl ?_
        refine z_if_ne 50 O dX6_cell_38 (by decide) ⟨by omega, by omega⟩ (fun c_38 => ?_) (fun c_38 => ?_)
        · skip
          refine z_iload_n 2 O dX6_cell_50 rfl ?_
          refine z_iconst 1 O dX6_cell_51 (by decide +kernel) ?_
          refine z_icmp_ne 69 O dX6_cell_52 (by decide) ⟨by omega, by omega⟩ ⟨by omega, by omega⟩ (fun c_52 => ?_) (fun c_52 => ?_)
          · skip
            refine z_aload_n 0 O dX6_cell_69 rfl ?_
            refine z_iload_n 1 O dX6_cell_70 rfl ?_
            refine z_Vi [.int (iI c)] [] kM_X6_229 O dX6_cell_71 (c_X6_oldest hst hz17 hA20 hG hN ⟨by omega, by omega⟩) rfl rfl hz17.1 (by decide) (Nat.le_of_ble_eq_true rfl) (by omega) (by omega) (Nat.le_of_ble_eq_true rfl) zNx ?_
            exact z_ireti O dX6_cell_74 rfl (by omega) (by omega) hpo (by rw [if_pos (show (cCe c j) = 0 from by unfold cCe; (repeat first | rw [if_pos (by omega)] | rw [if_neg (by omega)] | rw [if_pos c_5] | rw [if_pos c_21]))]; unfold vCe; (repeat first | rw [if_pos (by omega)] | rw [if_neg (by omega)] | rw [if_pos c_5] | rw [if_pos c_21])) (⟨(hf16.up (fun s h => by first | exact h.elim | omega | (simp at h ⊢; omega))), Or.inr ⟨(show (cCe c j) = 0 from by unfold cCe; (repeat first | rw [if_pos (by omega)] | rw [if_neg (by omega)] | rw [if_pos c_5] | rw [if_pos c_21])), ⟨_, _, _, _, _, hz17, hT18, hR19, hA20, hY21, hD22, hK23, hI24⟩⟩⟩)
          · skip
            refine z_aload_n 0 O dX6_cell_55 rfl ?_
            refine z_getf kF_X6_16 O dX6_cell_56 hz17.1 rfl ?_
            refine z_bipush 16 O dX6_cell_59 (by decide +kernel) ?_
            refine z_iload_n 1 O dX6_cell_61 rfl ?_
            refine z_iadd O dX6_cell_62 ?_
            refine z_iald O dX6_cell_63 hA20.1 ⟨by omega, by omega⟩ (by omega) (by omega) ?_
            refine z_iconst 1 O dX6_cell_64 (by decide +kernel) ?_
            refine z_isub O dX6_cell_65 ?_
            refine z_goto 74 O dX6_cell_66 (by decide) ?_
            exact z_ireti O dX6_cell_74 rfl (by omega) (by omega) hpo (by rw [if_pos (show (cCe c j) = 0 from by unfold cCe; (repeat first | rw [if_pos (by omega)] | rw [if_neg (by omega)] | rw [if_pos c_5] | rw [if_pos c_21]))]; unfold vCe; (repeat first | rw [if_pos (by omega)] | rw [if_neg (by omega)] | rw [if_pos c_5] | rw [if_pos c_21])) (⟨(hf16.up (fun s h => by first | exact h.elim | omega | (simp at h ⊢; omega))), Or.inr ⟨(show (cCe c j) = 0 from by unfold cCe; (repeat first | rw [if_pos (by omega)] | rw [if_neg (by omega)] | rw [if_pos c_5] | rw [if_pos c_21])), ⟨_, _, _, _, _, hz17, hT18, hR19, hA20, hY21, hD22, hK23, hI24⟩⟩⟩)
        · skip
          refine z_aload_n 0 O dX6_cell_41 rfl ?_
          refine z_getf kF_X6_16 O dX6_cell_42 hz17.1 rfl ?_
          refine z_iload_n 1 O dX6_cell_45 rfl ?_
          refine z_iald O dX6_cell_46 hA20.1 ⟨by omega, by omega⟩ (by omega) (by omega) ?_
          refine z_goto 74 O dX6_cell_47 (by decide) ?_
          exact z_ireti O dX6_cell_74 rfl (by omega) (by omega) hpo (by rw [if_pos (show (cCe c j) = 0 from by unfold cCe; (repeat first | rw [if_pos (by omega)] | rw [if_neg (by omega)] | rw [if_pos c_5] | rw [if_pos c_21]))]; unfold vCe; (repeat first | rw [if_pos (by omega)] | rw [if_neg (by omega)] | rw [if_pos c_5] | rw [if_pos c_21])) (⟨(hf16.up (fun s h => by first | exact h.elim | omega | (simp at h ⊢; omega))), Or.inr ⟨(show (cCe c j) = 0 from by unfold cCe; (repeat first | rw [if_pos (by omega)] | rw [if_neg (by omega)] | rw [if_pos c_5] | rw [if_pos c_21])), ⟨_, _, _, _, _, hz17, hT18, hR19, hA20, hY21, hD22, hK23, hI24⟩⟩⟩)
      · exfalso; omega
  · skip
    have k_5 := sBt_f.mp c_5
    refine z_iconst 1 O dX6_cell_8 (by decide +kernel) ?_
    refine z_goto 29 O dX6_cell_9 (by decide) ?_
    refine z_Vim [.int (iI 1)] [] kM_X6_118 O dX6_cell_29 (c_X6_refused hst hO ⟨by omega, by omega⟩) rfl rfl hO.1 (by decide) (Nat.le_of_ble_eq_true rfl) (by omega) (by omega) (Nat.le_of_ble_eq_true rfl) zNx (fun H25 hp26 hz27 => ?_)
    obtain ⟨hf28, hz29⟩ := hp26
    have hT30 := hT.fr hf28 (by first | exact zT1 (by omega) | (show ¬ (_ ∨ _); omega) | (show ¬ (_ ∧ _); omega))
    have hR31 := hR.fr hf28 (by first | exact zT1 (by omega) | (show ¬ (_ ∨ _); omega) | (show ¬ (_ ∧ _); omega))
    have hA32 := hA.fr hf28 (by first | exact zT1 (by omega) | (show ¬ (_ ∨ _); omega) | (show ¬ (_ ∧ _); omega))
    have hY33 := hY.fr hf28 (by first | exact zT1 (by omega) | (show ¬ (_ ∨ _); omega) | (show ¬ (_ ∧ _); omega))
    have hD34 := hD.fr hf28 (by first | exact zT1 (by omega) | (show ¬ (_ ∨ _); omega) | (show ¬ (_ ∧ _); omega)) (by first | exact zT1 (by omega) | (show ¬ (_ ∨ _); omega) | (show ¬ (_ ∧ _); omega)) (by first | exact zT1 (by omega) | (show ¬ (_ ∨ _); omega) | (show ¬ (_ ∧ _); omega)) (by first | exact zT1 (by omega) | (show ¬ (_ ∨ _); omega) | (show ¬ (_ ∧ _); omega))
    have hK35 := hK.fr hf28 (by first | exact zT1 (by omega) | (show ¬ (_ ∨ _); omega) | (show ¬ (_ ∧ _); omega))
    have hI36 := hI.fr hf28 (by first | exact zT1 (by omega) | (show ¬ (_ ∨ _); omega) | (show ¬ (_ ∧ _); omega))
    rw [show zb (decide ((0 : Int) < 1)) = 1 from rfl]
    refine z_if_eq 37 O dX6_cell_32 (by decide) ⟨by omega, by omega⟩ (fun c_32 => ?_) (fun c_32 => ?_)
    · exfalso; omega
    · skip
      refine z_iconst 0 O dX6_cell_35 (by decide +kernel) ?_
      exact z_ireti O dX6_cell_36 rfl (by omega) (by omega) hpo (by rw [if_neg (by rw [show (cCe c j) = 1 from by unfold cCe; (repeat first | rw [if_pos (by omega)] | rw [if_neg (by omega)] | rw [if_neg (by rw [c_5]; decide)])]; decide)]) (⟨(hf28.up (fun s h => by first | exact h.elim | omega | (simp at h ⊢; omega))), Or.inl ⟨(by rw [show (cCe c j) = 1 from by unfold cCe; (repeat first | rw [if_pos (by omega)] | rw [if_neg (by omega)] | rw [if_neg (by rw [c_5]; decide)])]; decide), (by rw [show (cCe c j) = 1 from by unfold cCe; (repeat first | rw [if_pos (by omega)] | rw [if_neg (by omega)] | rw [if_neg (by rw [c_5]; decide)])]; exact ⟨_, _, _, _, _, hz29, hT30, hR31, hA32, hY33, hD34, hK35, hI36⟩)⟩⟩)

theorem c_X6_bare {E : zE} (hst : E.1.stackTraces = false) {H : Heap} {r : zH} {q : Nat} {Q : Nat → Nat} {rf n sp : Int} {gd : Bool} {lo fi ac : Int} {K : Int → Int} {N : Int} {w k : Int} (hO : zMo E H r q Q rf n sp gd lo fi ac) (hY : zA E H r 100004 (Q 4) 4086 K) (hG : sW K N) (hN : N ≤ 639) (hw : 0 ≤ w ∧ w ≤ 2) (hk : zR k) : zC E yX6_bare cX6_bare 3 (some .boolean) 6 128 [.ref q, .int (iI w), .int (iI k)] H 0 0 (zRi (zb (bT K w k)) (fun H1 => zFr H r H1 r (fun s => s = 100004) ∧ zA E H1 r 100004 (Q 4) 4086 (sIf (bT K w k) (bR K w k) K))) zN := by
  refine zC.of (by decide) (Nat.le_of_ble_eq_true rfl) hst ?_
  intro x O hE hpo hpx
  subst hE
  change zG x H 0 0 0 [(0, .ref q), (1, .int (iI w)), (2, .int (iI k))] []
  have hm := hG.m hw
  have hl := hG.l hw
  refine z_iload_n 2 O dX6_bare_0 rfl ?_
  rcases (show k = 0 ∨ k = 1 ∨ k = 2 ∨ k = 3 ∨ (k < 0 ∨ 3 < k) by omega) with c_1 | c_1 | c_1 | c_1 | c_1
  · skip
    refine z_tsw 0 32 O dX6_bare_1 ⟨by omega, by omega⟩ (by omega) (by decide) rfl (by decide) ?_
    refine z_aload_n 0 O dX6_bare_32 rfl ?_
    refine z_getf kF_X6_19 O dX6_bare_33 hO.1 rfl ?_
    refine z_iload_n 1 O dX6_bare_36 rfl ?_
    refine z_Si [.ref (Q 4), .int (iI w)] [] kM_X6_169 O dX6_bare_37 (c_X6_canBegin hst hY hG hw) rfl rfl (by decide) (Nat.le_of_ble_eq_true rfl) (by omega) (by omega) (Nat.le_of_ble_eq_true rfl) zNx ?_
    refine z_ifb_ne 45 O dX6_bare_40 (by decide) (fun c_40 => ?_) (fun c_40 => ?_)
    · skip
      have k_40 := sCb_t.mp c_40
      refine z_aload_n 0 O dX6_bare_45 rfl ?_
      refine z_getf kF_X6_19 O dX6_bare_46 hO.1 rfl ?_
      refine z_iload_n 1 O dX6_bare_49 rfl ?_
      refine z_Svm [.ref (Q 4), .int (iI w)] [] kM_X6_175 O dX6_bare_50 (c_X6_beginIn hst hY hw ⟨by omega, by omega⟩) rfl rfl (by decide) (Nat.le_of_ble_eq_true rfl) (by omega) (by omega) (Nat.le_of_ble_eq_true rfl) zNx (fun H1 hp2 hz3 => ?_)
      obtain ⟨hf4, ha5⟩ := hp2
      have hO6 := hO.fr hf4 (zT1 (by omega))
      refine z_iconst 1 O dX6_bare_53 (by decide +kernel) ?_
      exact z_iretb O dX6_bare_54 rfl (by omega) (by omega) hpo (by rw [show bT K w k = true from by unfold bT; (repeat first | rw [if_pos (by omega)] | rw [if_neg (by omega)] | rw [if_pos c_40]); first | done | rfl | exact decide_eq_true (by omega) | exact decide_eq_false (by omega) | exact c_40 | (rw [decide_eq_true (by omega), c_40]; rfl) | (rw [decide_eq_true (by omega), c_40]) | (rw [decide_eq_false (by omega)]; rfl) | rw [decide_eq_false (by omega), Bool.false_and]]; rfl) (⟨(hf4.up (fun s h => by first | exact h.elim | omega | (simp at h ⊢; omega))), (by unfold sIf; rw [if_pos (show bT K w k = true from by unfold bT; (repeat first | rw [if_pos (by omega)] | rw [if_neg (by omega)] | rw [if_pos c_40]); first | done | rfl | exact decide_eq_true (by omega) | exact decide_eq_false (by omega) | exact c_40 | (rw [decide_eq_true (by omega), c_40]; rfl) | (rw [decide_eq_true (by omega), c_40]) | (rw [decide_eq_false (by omega)]; rfl) | rw [decide_eq_false (by omega), Bool.false_and])]; unfold bR; (repeat first | rw [if_pos (by omega)] | rw [if_neg (by omega)] | rw [if_pos c_40]); exact ha5)⟩)
    · skip
      have k_40 := sCb_f.mp c_40
      refine z_iconst 0 O dX6_bare_43 (by decide +kernel) ?_
      exact z_iretb O dX6_bare_44 rfl (by omega) (by omega) hpo (by rw [show bT K w k = false from by unfold bT; (repeat first | rw [if_pos (by omega)] | rw [if_neg (by omega)] | rw [if_neg (by rw [c_40]; decide)]); first | done | rfl | exact decide_eq_true (by omega) | exact decide_eq_false (by omega) | exact c_40 | (rw [decide_eq_true (by omega), c_40]; rfl) | (rw [decide_eq_true (by omega), c_40]) | (rw [decide_eq_false (by omega)]; rfl) | rw [decide_eq_false (by omega), Bool.false_and]]; rfl) (⟨zFr.rf, (by unfold sIf; rw [if_neg (by rw [show bT K w k = false from by unfold bT; (repeat first | rw [if_pos (by omega)] | rw [if_neg (by omega)] | rw [if_neg (by rw [c_40]; decide)]); first | done | rfl | exact decide_eq_true (by omega) | exact decide_eq_false (by omega) | exact c_40 | (rw [decide_eq_true (by omega), c_40]; rfl) | (rw [decide_eq_true (by omega), c_40]) | (rw [decide_eq_false (by omega)]; rfl) | rw [decide_eq_false (by omega), Bool.false_and]]; decide)]; exact hY)⟩)
  · skip
    refine z_tsw 1 55 O dX6_bare_1 ⟨by omega, by omega⟩ (by omega) (by decide) rfl (by decide) ?_
    refine z_aload_n 0 O dX6_bare_55 rfl ?_
    refine z_getf kF_X6_19 O dX6_bare_56 hO.1 rfl ?_
    refine z_iload_n 1 O dX6_bare_59 rfl ?_
    refine z_Si [.ref (Q 4), .int (iI w)] [] kM_X6_89 O dX6_bare_60 (c_X6_isOpen hst hY hG hw) rfl rfl (by decide) (Nat.le_of_ble_eq_true rfl) (by omega) (by omega) (Nat.le_of_ble_eq_true rfl) zNx ?_
    refine z_ifb_ne 68 O dX6_bare_63 (by decide) (fun c_63 => ?_) (fun c_63 => ?_)
    · skip
      have k_63 := sOp_t.mp c_63
      refine z_aload_n 0 O dX6_bare_68 rfl ?_
      refine z_getf kF_X6_19 O dX6_bare_69 hO.1 rfl ?_
      refine z_iload_n 1 O dX6_bare_72 rfl ?_
      refine z_Sim [.ref (Q 4), .int (iI w)] [] kM_X6_181 O dX6_bare_73 (c_X6_doneIn hst hY hw (fun c h0 h1 => hG.2.2.1 c h0 h1) ⟨by omega, by omega⟩) rfl rfl (by decide) (Nat.le_of_ble_eq_true rfl) (by omega) (by omega) (Nat.le_of_ble_eq_true rfl) zNx (fun H7 hp8 hz9 => ?_)
      obtain ⟨hf10, ha11⟩ := hp8
      have hO12 := hO.fr hf10 (zT1 (by omega))
      refine z_pop O dX6_bare_76 rfl ?_
      refine z_iconst 1 O dX6_bare_77 (by decide +kernel) ?_
      exact z_iretb O dX6_bare_78 rfl (by omega) (by omega) hpo (by rw [show bT K w k = true from by unfold bT; (repeat first | rw [if_pos (by omega)] | rw [if_neg (by omega)] | rw [if_pos c_63]); first | done | rfl | exact decide_eq_true (by omega) | exact decide_eq_false (by omega) | exact c_63 | (rw [decide_eq_true (by omega), c_63]; rfl) | (rw [decide_eq_true (by omega), c_63]) | (rw [decide_eq_false (by omega)]; rfl) | rw [decide_eq_false (by omega), Bool.false_and]]; rfl) (⟨(hf10.up (fun s h => by first | exact h.elim | omega | (simp at h ⊢; omega))), (by unfold sIf; rw [if_pos (show bT K w k = true from by unfold bT; (repeat first | rw [if_pos (by omega)] | rw [if_neg (by omega)] | rw [if_pos c_63]); first | done | rfl | exact decide_eq_true (by omega) | exact decide_eq_false (by omega) | exact c_63 | (rw [decide_eq_true (by omega), c_63]; rfl) | (rw [decide_eq_true (by omega), c_63]) | (rw [decide_eq_false (by omega)]; rfl) | rw [decide_eq_false (by omega), Bool.false_and])]; unfold bR; (repeat first | rw [if_pos (by omega)] | rw [if_neg (by omega)] | rw [if_pos c_63]); exact ha11)⟩)
    · skip
      have k_63 := sOp_f.mp c_63
      refine z_iconst 0 O dX6_bare_66 (by decide +kernel) ?_
      exact z_iretb O dX6_bare_67 rfl (by omega) (by omega) hpo (by rw [show bT K w k = false from by unfold bT; (repeat first | rw [if_pos (by omega)] | rw [if_neg (by omega)] | rw [if_neg (by rw [c_63]; decide)]); first | done | rfl | exact decide_eq_true (by omega) | exact decide_eq_false (by omega) | exact c_63 | (rw [decide_eq_true (by omega), c_63]; rfl) | (rw [decide_eq_true (by omega), c_63]) | (rw [decide_eq_false (by omega)]; rfl) | rw [decide_eq_false (by omega), Bool.false_and]]; rfl) (⟨zFr.rf, (by unfold sIf; rw [if_neg (by rw [show bT K w k = false from by unfold bT; (repeat first | rw [if_pos (by omega)] | rw [if_neg (by omega)] | rw [if_neg (by rw [c_63]; decide)]); first | done | rfl | exact decide_eq_true (by omega) | exact decide_eq_false (by omega) | exact c_63 | (rw [decide_eq_true (by omega), c_63]; rfl) | (rw [decide_eq_true (by omega), c_63]) | (rw [decide_eq_false (by omega)]; rfl) | rw [decide_eq_false (by omega), Bool.false_and]]; decide)]; exact hY)⟩)
  · skip
    refine z_tsw 2 79 O dX6_bare_1 ⟨by omega, by omega⟩ (by omega) (by decide) rfl (by decide) ?_
    refine z_aload_n 0 O dX6_bare_79 rfl ?_
    refine z_getf kF_X6_19 O dX6_bare_80 hO.1 rfl ?_
    refine z_iload_n 1 O dX6_bare_83 rfl ?_
    refine z_Si [.ref (Q 4), .int (iI w)] [] kM_X6_69 O dX6_bare_84 (c_X6_many hst hY hw) rfl rfl (by decide) (Nat.le_of_ble_eq_true rfl) (by omega) (by omega) (Nat.le_of_ble_eq_true rfl) zNx ?_
    refine z_if_ne 92 O dX6_bare_87 (by decide) ⟨by omega, by omega⟩ (fun c_87 => ?_) (fun c_87 => ?_)
    · skip
      refine z_aload_n 0 O dX6_bare_92 rfl ?_
      refine z_getf kF_X6_19 O dX6_bare_93 hO.1 rfl ?_
      refine z_iload_n 1 O dX6_bare_96 rfl ?_
      refine z_Sim [.ref (Q 4), .int (iI w)] [] kM_X6_184 O dX6_bare_97 (c_X6_failIn hst hY hG hw (by omega)) rfl rfl (by decide) (Nat.le_of_ble_eq_true rfl) (by omega) (by omega) (Nat.le_of_ble_eq_true rfl) zNx (fun H13 hp14 hz15 => ?_)
      obtain ⟨hf16, ha17⟩ := hp14
      have hO18 := hO.fr hf16 (zT1 (by omega))
      refine z_pop O dX6_bare_100 rfl ?_
      refine z_iconst 1 O dX6_bare_101 (by decide +kernel) ?_
      exact z_iretb O dX6_bare_102 rfl (by omega) (by omega) hpo (by rw [show bT K w k = true from by unfold bT; (repeat first | rw [if_pos (by omega)] | rw [if_neg (by omega)]); first | done | rfl | exact decide_eq_true (by omega) | exact decide_eq_false (by omega) | (rw [decide_eq_false (by omega)]; rfl) | rw [decide_eq_false (by omega), Bool.false_and]]; rfl) (⟨(hf16.up (fun s h => by first | exact h.elim | omega | (simp at h ⊢; omega))), (by unfold sIf; rw [if_pos (show bT K w k = true from by unfold bT; (repeat first | rw [if_pos (by omega)] | rw [if_neg (by omega)]); first | done | rfl | exact decide_eq_true (by omega) | exact decide_eq_false (by omega) | (rw [decide_eq_false (by omega)]; rfl) | rw [decide_eq_false (by omega), Bool.false_and])]; unfold bR; (repeat first | rw [if_pos (by omega)] | rw [if_neg (by omega)]); exact ha17)⟩)
    · skip
      refine z_iconst 0 O dX6_bare_90 (by decide +kernel) ?_
      exact z_iretb O dX6_bare_91 rfl (by omega) (by omega) hpo (by rw [show bT K w k = false from by unfold bT; (repeat first | rw [if_pos (by omega)] | rw [if_neg (by omega)]); first | done | rfl | exact decide_eq_true (by omega) | exact decide_eq_false (by omega) | (rw [decide_eq_false (by omega)]; rfl) | rw [decide_eq_false (by omega), Bool.false_and]]; rfl) (⟨zFr.rf, (by unfold sIf; rw [if_neg (by rw [show bT K w k = false from by unfold bT; (repeat first | rw [if_pos (by omega)] | rw [if_neg (by omega)]); first | done | rfl | exact decide_eq_true (by omega) | exact decide_eq_false (by omega) | (rw [decide_eq_false (by omega)]; rfl) | rw [decide_eq_false (by omega), Bool.false_and]]; decide)]; exact hY)⟩)
  · skip
    refine z_tsw 3 103 O dX6_bare_1 ⟨by omega, by omega⟩ (by omega) (by decide) rfl (by decide) ?_
    refine z_aload_n 0 O dX6_bare_103 rfl ?_
    refine z_getf kF_X6_19 O dX6_bare_104 hO.1 rfl ?_
    refine z_iload_n 1 O dX6_bare_107 rfl ?_
    refine z_Si [.ref (Q 4), .int (iI w)] [] kM_X6_172 O dX6_bare_108 (c_X6_canPoint hst hY hG hw) rfl rfl (by decide) (Nat.le_of_ble_eq_true rfl) (by omega) (by omega) (Nat.le_of_ble_eq_true rfl) zNx ?_
    refine z_ifb_ne 116 O dX6_bare_111 (by decide) (fun c_111 => ?_) (fun c_111 => ?_)
    · skip
      have k_111 := sCp_t.mp c_111
      refine z_aload_n 0 O dX6_bare_116 rfl ?_
      refine z_getf kF_X6_19 O dX6_bare_117 hO.1 rfl ?_
      refine z_iload_n 1 O dX6_bare_120 rfl ?_
      refine z_Sim [.ref (Q 4), .int (iI w)] [] kM_X6_178 O dX6_bare_121 (c_X6_pointIn hst hY hG hw (by omega) (by omega)) rfl rfl (by decide) (Nat.le_of_ble_eq_true rfl) (by omega) (by omega) (Nat.le_of_ble_eq_true rfl) zNx (fun H19 hp20 hz21 => ?_)
      obtain ⟨hf22, ha23⟩ := hp20
      have hO24 := hO.fr hf22 (zT1 (by omega))
      refine z_pop O dX6_bare_124 rfl ?_
      refine z_iconst 1 O dX6_bare_125 (by decide +kernel) ?_
      exact z_iretb O dX6_bare_126 rfl (by omega) (by omega) hpo (by rw [show bT K w k = true from by unfold bT; (repeat first | rw [if_pos (by omega)] | rw [if_neg (by omega)] | rw [if_pos c_111]); first | done | rfl | exact decide_eq_true (by omega) | exact decide_eq_false (by omega) | exact c_111 | (rw [decide_eq_true (by omega), c_111]; rfl) | (rw [decide_eq_true (by omega), c_111]) | (rw [decide_eq_false (by omega)]; rfl) | rw [decide_eq_false (by omega), Bool.false_and]]; rfl) (⟨(hf22.up (fun s h => by first | exact h.elim | omega | (simp at h ⊢; omega))), (by unfold sIf; rw [if_pos (show bT K w k = true from by unfold bT; (repeat first | rw [if_pos (by omega)] | rw [if_neg (by omega)] | rw [if_pos c_111]); first | done | rfl | exact decide_eq_true (by omega) | exact decide_eq_false (by omega) | exact c_111 | (rw [decide_eq_true (by omega), c_111]; rfl) | (rw [decide_eq_true (by omega), c_111]) | (rw [decide_eq_false (by omega)]; rfl) | rw [decide_eq_false (by omega), Bool.false_and])]; unfold bR; (repeat first | rw [if_pos (by omega)] | rw [if_neg (by omega)] | rw [if_pos c_111]); exact ha23)⟩)
    · skip
      have k_111 := sCp_f.mp c_111
      refine z_iconst 0 O dX6_bare_114 (by decide +kernel) ?_
      exact z_iretb O dX6_bare_115 rfl (by omega) (by omega) hpo (by rw [show bT K w k = false from by unfold bT; (repeat first | rw [if_pos (by omega)] | rw [if_neg (by omega)] | rw [if_neg (by rw [c_111]; decide)]); first | done | rfl | exact decide_eq_true (by omega) | exact decide_eq_false (by omega) | exact c_111 | (rw [decide_eq_true (by omega), c_111]; rfl) | (rw [decide_eq_true (by omega), c_111]) | (rw [decide_eq_false (by omega)]; rfl) | rw [decide_eq_false (by omega), Bool.false_and]]; rfl) (⟨zFr.rf, (by unfold sIf; rw [if_neg (by rw [show bT K w k = false from by unfold bT; (repeat first | rw [if_pos (by omega)] | rw [if_neg (by omega)] | rw [if_neg (by rw [c_111]; decide)]); first | done | rfl | exact decide_eq_true (by omega) | exact decide_eq_false (by omega) | exact c_111 | (rw [decide_eq_true (by omega), c_111]; rfl) | (rw [decide_eq_true (by omega), c_111]) | (rw [decide_eq_false (by omega)]; rfl) | rw [decide_eq_false (by omega), Bool.false_and]]; decide)]; exact hY)⟩)
  · skip
    refine z_tswO 127 O dX6_bare_1 ⟨by omega, by omega⟩ c_1 (by decide) ?_
    refine z_iconst 0 O dX6_bare_127 (by decide +kernel) ?_
    exact z_iretb O dX6_bare_128 rfl (by omega) (by omega) hpo (by rw [show bT K w k = false from by unfold bT; (repeat first | rw [if_pos (by omega)] | rw [if_neg (by omega)]); first | done | rfl | exact decide_eq_true (by omega) | exact decide_eq_false (by omega) | (rw [decide_eq_false (by omega)]; rfl) | rw [decide_eq_false (by omega), Bool.false_and]]; rfl) (⟨zFr.rf, (by unfold sIf; rw [if_neg (by rw [show bT K w k = false from by unfold bT; (repeat first | rw [if_pos (by omega)] | rw [if_neg (by omega)]); first | done | rfl | exact decide_eq_true (by omega) | exact decide_eq_false (by omega) | (rw [decide_eq_false (by omega)]; rfl) | rw [decide_eq_false (by omega), Bool.false_and]]; decide)]; exact hY)⟩)

theorem c_X6_writes {E : zE} (hst : E.1.stackTraces = false) {H : Heap} {r : zH} {q : Nat} {Q : Nat → Nat} {rf n sp : Int} {gd : Bool} {lo fi ac : Int} {K : Int → Int} {N : Int} {w c v : Int} (hO : zMo E H r q Q rf n sp gd lo fi ac) (hY : zA E H r 100004 (Q 4) 4086 K) (hG : sW K N) (hN : N ≤ 639) (hw : 0 ≤ w ∧ w ≤ 2) (hc : zR c) : zC E yX6_writes cX6_writes 4 (some .boolean) 5 108 [.ref q, .int (iI w), .int (iI c), .int (iI v)] H 0 0 (zRi (zb (uT K w c)) (fun H1 => zFr H r H1 r (fun s => s = 100004) ∧ zA E H1 r 100004 (Q 4) 4086 (sIf (uT K w c) (sWrite K w c v) K))) zN := by
  refine zC.of (by decide) (Nat.le_of_ble_eq_true rfl) hst ?_
  intro x O hE hpo hpx
  subst hE
  change zG x H 0 0 0 [(0, .ref q), (1, .int (iI w)), (2, .int (iI c)), (3, .int (iI v))] []
  have hm := hG.m hw
  have hl := hG.l hw
  refine z_iload_n 2 O dX6_writes_0 rfl ?_
  refine z_Si [.int (iI c)] [] kM_X6_226 O dX6_writes_1 (c_X6_isCell hst ⟨by omega, by omega⟩) rfl rfl (by decide) (Nat.le_of_ble_eq_true rfl) (by omega) (by omega) (Nat.le_of_ble_eq_true rfl) zNx ?_
  refine z_ifb_eq 19 O dX6_writes_4 (by decide) (fun c_4 => ?_) (fun c_4 => ?_)
  · skip
    have k_4 := sBt_f.mp c_4
    refine z_iconst 0 O dX6_writes_19 (by decide +kernel) ?_
    exact z_iretb O dX6_writes_20 rfl (by omega) (by omega) hpo (by rw [show uT K w c = false from by unfold uT; (repeat first | rw [if_pos (by omega)] | rw [if_neg (by omega)] | rw [if_neg (by rw [c_4]; decide)]); first | done | rfl | exact decide_eq_true (by omega) | exact decide_eq_false (by omega) | exact c_4 | (rw [decide_eq_true (by omega), c_4]; rfl) | (rw [decide_eq_true (by omega), c_4]) | (rw [decide_eq_false (by omega)]; rfl) | rw [decide_eq_false (by omega), Bool.false_and]]; rfl) (⟨zFr.rf, (by unfold sIf; rw [if_neg (by rw [show uT K w c = false from by unfold uT; (repeat first | rw [if_pos (by omega)] | rw [if_neg (by omega)] | rw [if_neg (by rw [c_4]; decide)]); first | done | rfl | exact decide_eq_true (by omega) | exact decide_eq_false (by omega) | exact c_4 | (rw [decide_eq_true (by omega), c_4]; rfl) | (rw [decide_eq_true (by omega), c_4]) | (rw [decide_eq_false (by omega)]; rfl) | rw [decide_eq_false (by omega), Bool.false_and]]; decide)]; exact hY)⟩)
  · skip
    have k_4 := sBt_t.mp c_4
    refine z_aload_n 0 O dX6_writes_7 rfl ?_
    refine z_getf kF_X6_19 O dX6_writes_8 hO.1 rfl ?_
    refine z_iload_n 1 O dX6_writes_11 rfl ?_
    refine z_iload_n 2 O dX6_writes_12 rfl ?_
    refine z_Si [.ref (Q 4), .int (iI w), .int (iI c)] [] kM_X6_99 O dX6_writes_13 (c_X6_reason hst hY hG hw ⟨by omega, by omega⟩) rfl rfl (by decide) (Nat.le_of_ble_eq_true rfl) (by omega) (by omega) (Nat.le_of_ble_eq_true rfl) zNx ?_
    have hre := sRe_R hG hw (c := c)
    refine z_if_eq 21 O dX6_writes_16 (by decide) ⟨by omega, by omega⟩ (fun c_16 => ?_) (fun c_16 => ?_)
    · skip
      refine z_aload_n 0 O dX6_writes_21 rfl ?_
      refine z_getf kF_X6_19 O dX6_writes_22 hO.1 rfl ?_
      refine z_iload_n 1 O dX6_writes_25 rfl ?_
      refine z_iload_n 2 O dX6_writes_26 rfl ?_
      refine z_iload_n 3 O dX6_writes_27 rfl ?_
      refine z_Sim [.ref (Q 4), .int (iI w), .int (iI c), .int (iI v)] [] kM_X6_152 O dX6_writes_28 (c_X6_writeIn hst hY hw ⟨by omega, by omega⟩ ⟨by omega, by omega⟩) rfl rfl (by decide) (Nat.le_of_ble_eq_true rfl) (by omega) (by omega) (Nat.le_of_ble_eq_true rfl) zNx (fun H1 hp2 hz3 => ?_)
      obtain ⟨hf4, ha5⟩ := hp2
      have hO6 := hO.fr hf4 (zT1 (by omega))
      refine z_pop O dX6_writes_31 rfl ?_
      refine z_iconst 1 O dX6_writes_32 (by decide +kernel) ?_
      exact z_iretb O dX6_writes_33 rfl (by omega) (by omega) hpo (by rw [show uT K w c = true from by unfold uT; (repeat first | rw [if_pos (by omega)] | rw [if_neg (by omega)] | rw [if_pos c_4]); first | done | rfl | exact decide_eq_true (by omega) | exact decide_eq_false (by omega) | exact c_4 | (rw [decide_eq_true (by omega), c_4]; rfl) | (rw [decide_eq_true (by omega), c_4]) | (rw [decide_eq_false (by omega)]; rfl) | rw [decide_eq_false (by omega), Bool.false_and]]; rfl) (⟨(hf4.up (fun s h => by first | exact h.elim | omega | (simp at h ⊢; omega))), (by unfold sIf; rw [if_pos (show uT K w c = true from by unfold uT; (repeat first | rw [if_pos (by omega)] | rw [if_neg (by omega)] | rw [if_pos c_4]); first | done | rfl | exact decide_eq_true (by omega) | exact decide_eq_false (by omega) | exact c_4 | (rw [decide_eq_true (by omega), c_4]; rfl) | (rw [decide_eq_true (by omega), c_4]) | (rw [decide_eq_false (by omega)]; rfl) | rw [decide_eq_false (by omega), Bool.false_and])]; exact ha5)⟩)
    · skip
      refine z_iconst 0 O dX6_writes_19 (by decide +kernel) ?_
      exact z_iretb O dX6_writes_20 rfl (by omega) (by omega) hpo (by rw [show uT K w c = false from by unfold uT; (repeat first | rw [if_pos (by omega)] | rw [if_neg (by omega)] | rw [if_pos c_4]); first | done | rfl | exact decide_eq_true (by omega) | exact decide_eq_false (by omega) | exact c_4 | (rw [decide_eq_true (by omega), c_4]; rfl) | (rw [decide_eq_true (by omega), c_4]) | (rw [decide_eq_false (by omega)]; rfl) | rw [decide_eq_false (by omega), Bool.false_and]]; rfl) (⟨zFr.rf, (by unfold sIf; rw [if_neg (by rw [show uT K w c = false from by unfold uT; (repeat first | rw [if_pos (by omega)] | rw [if_neg (by omega)] | rw [if_pos c_4]); first | done | rfl | exact decide_eq_true (by omega) | exact decide_eq_false (by omega) | exact c_4 | (rw [decide_eq_true (by omega), c_4]; rfl) | (rw [decide_eq_true (by omega), c_4]) | (rw [decide_eq_false (by omega)]; rfl) | rw [decide_eq_false (by omega), Bool.false_and]]; decide)]; exact hY)⟩)

theorem c_X6_goesBack {E : zE} (hst : E.1.stackTraces = false) {H : Heap} {r : zH} {q : Nat} {Q : Nat → Nat} {rf n sp : Int} {gd : Bool} {lo fi ac : Int} {K : Int → Int} {N : Int} {w i : Int} (hO : zMo E H r q Q rf n sp gd lo fi ac) (hY : zA E H r 100004 (Q 4) 4086 K) (hG : sW K N) (hN : N ≤ 639) (hw : 0 ≤ w ∧ w ≤ 2) (hi : zR i) : zC E yX6_goesBack cX6_goesBack 3 (some .boolean) 4 88 [.ref q, .int (iI w), .int (iI i)] H 0 0 (zRi (zb (gT K w i)) (fun H1 => zFr H r H1 r (fun s => s = 100004) ∧ zA E H1 r 100004 (Q 4) 4086 (sIf (gT K w i) (sBack K w i) K))) zN := by
  refine zC.of (by decide) (Nat.le_of_ble_eq_true rfl) hst ?_
  intro x O hE hpo hpx
  subst hE
  change zG x H 0 0 0 [(0, .ref q), (1, .int (iI w)), (2, .int (iI i))] []
  have hm := hG.m hw
  have hl := hG.l hw
  refine z_aload_n 0 O dX6_goesBack_0 rfl ?_
  refine z_getf kF_X6_19 O dX6_goesBack_1 hO.1 rfl ?_
  refine z_iload_n 1 O dX6_goesBack_4 rfl ?_
  refine z_iload_n 2 O dX6_goesBack_5 rfl ?_
  refine z_Si [.ref (Q 4), .int (iI w), .int (iI i)] [] kM_X6_163 O dX6_goesBack_6 (c_X6_hasPoint hst hY hG hw ⟨by omega, by omega⟩) rfl rfl (by decide) (Nat.le_of_ble_eq_true rfl) (by omega) (by omega) (Nat.le_of_ble_eq_true rfl) zNx ?_
  refine z_ifb_eq 23 O dX6_goesBack_9 (by decide) (fun c_9 => ?_) (fun c_9 => ?_)
  · skip
    have k_9 := sHp_f.mp c_9
    refine z_iconst 0 O dX6_goesBack_23 (by decide +kernel) ?_
    exact z_iretb O dX6_goesBack_24 rfl (by omega) (by omega) hpo (by rw [show gT K w i = false from by unfold gT; rw [c_9]; rfl]; rfl) (⟨zFr.rf, (by unfold sIf; rw [if_neg (by rw [show gT K w i = false from by unfold gT; rw [c_9]; rfl]; decide)]; exact hY)⟩)
  · skip
    have k_9 := sHp_t.mp c_9
    refine z_aload_n 0 O dX6_goesBack_12 rfl ?_
    refine z_getf kF_X6_19 O dX6_goesBack_13 hO.1 rfl ?_
    refine z_iload_n 1 O dX6_goesBack_16 rfl ?_
    refine z_Si [.ref (Q 4), .int (iI w)] [] kM_X6_81 O dX6_goesBack_17 (c_X6_isSpoiled hst hY hG hw) rfl rfl (by decide) (Nat.le_of_ble_eq_true rfl) (by omega) (by omega) (Nat.le_of_ble_eq_true rfl) zNx ?_
    refine z_ifb_eq 25 O dX6_goesBack_20 (by decide) (fun c_20 => ?_) (fun c_20 => ?_)
    · skip
      have k_20 := sSp_f.mp c_20
      refine z_aload_n 0 O dX6_goesBack_25 rfl ?_
      refine z_getf kF_X6_19 O dX6_goesBack_26 hO.1 rfl ?_
      refine z_iload_n 1 O dX6_goesBack_29 rfl ?_
      refine z_iload_n 2 O dX6_goesBack_30 rfl ?_
      refine z_Sim [.ref (Q 4), .int (iI w), .int (iI i)] [] kM_X6_166 O dX6_goesBack_31 (c_X6_backIn hst hY hG hw (by omega) ⟨by omega, by omega⟩) rfl rfl (by decide) (Nat.le_of_ble_eq_true rfl) (by omega) (by omega) (Nat.le_of_ble_eq_true rfl) zNx (fun H1 hp2 hz3 => ?_)
      obtain ⟨hf4, ha5⟩ := hp2
      have hO6 := hO.fr hf4 (zT1 (by omega))
      refine z_pop O dX6_goesBack_34 rfl ?_
      refine z_iconst 1 O dX6_goesBack_35 (by decide +kernel) ?_
      exact z_iretb O dX6_goesBack_36 rfl (by omega) (by omega) hpo (by rw [show gT K w i = true from by unfold gT; rw [c_9, c_20]; rfl]; rfl) (⟨(hf4.up (fun s h => by first | exact h.elim | omega | (simp at h ⊢; omega))), (by unfold sIf; rw [if_pos (show gT K w i = true from by unfold gT; rw [c_9, c_20]; rfl)]; exact ha5)⟩)
    · skip
      have k_20 := sSp_t.mp c_20
      refine z_iconst 0 O dX6_goesBack_23 (by decide +kernel) ?_
      exact z_iretb O dX6_goesBack_24 rfl (by omega) (by omega) hpo (by rw [show gT K w i = false from by unfold gT; rw [c_9, c_20]; rfl]; rfl) (⟨zFr.rf, (by unfold sIf; rw [if_neg (by rw [show gT K w i = false from by unfold gT; rw [c_9, c_20]; rfl]; decide)]; exact hY)⟩)

theorem c_X6_regrets {E : zE} (hst : E.1.stackTraces = false) {H : Heap} {r : zH} {q : Nat} {Q : Nat → Nat} {rf n sp : Int} {gd : Bool} {lo fi ac : Int} {K : Int → Int} {N : Int} {w c v : Int} (hO : zMo E H r q Q rf n sp gd lo fi ac) (hY : zA E H r 100004 (Q 4) 4086 K) (hG : sW K N) (hN : N ≤ 639) (hw : 0 ≤ w ∧ w ≤ 2) (hc : zR c) (hv : zR v) : zC E yX6_regrets cX6_regrets 4 (some .boolean) 6 131 [.ref q, .int (iI w), .int (iI c), .int (iI v)] H 0 0 (zRi (zb (rT K w c v)) (fun H1 => zFr H r H1 r (fun s => s = 100004) ∧ zA E H1 r 100004 (Q 4) 4086 (sIf (rT K w c v) (sRegret K w c v) K))) zN := by
  refine zC.of (by decide) (Nat.le_of_ble_eq_true rfl) hst ?_
  intro x O hE hpo hpx
  subst hE
  change zG x H 0 0 0 [(0, .ref q), (1, .int (iI w)), (2, .int (iI c)), (3, .int (iI v))] []
  have hm := hG.m hw
  have hl := hG.l hw
  refine z_iload_n 2 O dX6_regrets_0 rfl ?_
  refine z_Si [.int (iI c)] [] kM_X6_226 O dX6_regrets_1 (c_X6_isCell hst ⟨by omega, by omega⟩) rfl rfl (by decide) (Nat.le_of_ble_eq_true rfl) (by omega) (by omega) (Nat.le_of_ble_eq_true rfl) zNx ?_
  refine z_ifb_eq 23 O dX6_regrets_4 (by decide) (fun c_4 => ?_) (fun c_4 => ?_)
  · skip
    have k_4 := sBt_f.mp c_4
    refine z_iconst 0 O dX6_regrets_23 (by decide +kernel) ?_
    exact z_iretb O dX6_regrets_24 rfl (by omega) (by omega) hpo (by rw [show rT K w c v = false from by unfold rT; rw [decide_eq_false (by omega)]; rfl]; rfl) (⟨zFr.rf, (by unfold sIf; rw [if_neg (by rw [show rT K w c v = false from by unfold rT; rw [decide_eq_false (by omega)]; rfl]; decide)]; exact hY)⟩)
  · skip
    have k_4 := sBt_t.mp c_4
    refine z_iload_n 3 O dX6_regrets_7 rfl ?_
    refine z_if_eq 23 O dX6_regrets_8 (by decide) ⟨by omega, by omega⟩ (fun c_8 => ?_) (fun c_8 => ?_)
    · skip
      refine z_iconst 0 O dX6_regrets_23 (by decide +kernel) ?_
      exact z_iretb O dX6_regrets_24 rfl (by omega) (by omega) hpo (by rw [show rT K w c v = false from by unfold rT; rw [decide_eq_false (by omega)]; rfl]; rfl) (⟨zFr.rf, (by unfold sIf; rw [if_neg (by rw [show rT K w c v = false from by unfold rT; rw [decide_eq_false (by omega)]; rfl]; decide)]; exact hY)⟩)
    · skip
      refine z_aload_n 0 O dX6_regrets_11 rfl ?_
      refine z_getf kF_X6_19 O dX6_regrets_12 hO.1 rfl ?_
      refine z_iload_n 1 O dX6_regrets_15 rfl ?_
      refine z_iload_n 2 O dX6_regrets_16 rfl ?_
      refine z_Si [.ref (Q 4), .int (iI w), .int (iI c)] [] kM_X6_156 O dX6_regrets_17 (c_X6_canRegret hst hY hG hw ⟨by omega, by omega⟩) rfl rfl (by decide) (Nat.le_of_ble_eq_true rfl) (by omega) (by omega) (Nat.le_of_ble_eq_true rfl) zNx ?_
      refine z_ifb_ne 25 O dX6_regrets_20 (by decide) (fun c_20 => ?_) (fun c_20 => ?_)
      · skip
        have k_20 := sCr_t.mp c_20
        have hmm := sRe_m (G := K) (w := w) (c := c) (by omega)
        refine z_aload_n 0 O dX6_regrets_25 rfl ?_
        refine z_getf kF_X6_19 O dX6_regrets_26 hO.1 rfl ?_
        refine z_iload_n 1 O dX6_regrets_29 rfl ?_
        refine z_iload_n 2 O dX6_regrets_30 rfl ?_
        refine z_iload_n 3 O dX6_regrets_31 rfl ?_
        refine z_Sim [.ref (Q 4), .int (iI w), .int (iI c), .int (iI v)] [] kM_X6_160 O dX6_regrets_32 (c_X6_regretIn hst hY hw ⟨by omega, by omega⟩ ⟨by omega, by omega⟩ ⟨by omega, by omega⟩) rfl rfl (by decide) (Nat.le_of_ble_eq_true rfl) (by omega) (by omega) (Nat.le_of_ble_eq_true rfl) zNx (fun H1 hp2 hz3 => ?_)
        obtain ⟨hf4, ha5⟩ := hp2
        have hO6 := hO.fr hf4 (zT1 (by omega))
        refine z_pop O dX6_regrets_35 rfl ?_
        refine z_iconst 1 O dX6_regrets_36 (by decide +kernel) ?_
        exact z_iretb O dX6_regrets_37 rfl (by omega) (by omega) hpo (by rw [show rT K w c v = true from by unfold rT; rw [decide_eq_true (by omega), c_20]; rfl]; rfl) (⟨(hf4.up (fun s h => by first | exact h.elim | omega | (simp at h ⊢; omega))), (by unfold sIf; rw [if_pos (show rT K w c v = true from by unfold rT; rw [decide_eq_true (by omega), c_20]; rfl)]; exact ha5)⟩)
      · skip
        have k_20 := sCr_f.mp c_20
        refine z_iconst 0 O dX6_regrets_23 (by decide +kernel) ?_
        exact z_iretb O dX6_regrets_24 rfl (by omega) (by omega) hpo (by rw [show rT K w c v = false from by unfold rT; rw [decide_eq_true (by omega), c_20]; rfl]; rfl) (⟨zFr.rf, (by unfold sIf; rw [if_neg (by rw [show rT K w c v = false from by unfold rT; rw [decide_eq_true (by omega), c_20]; rfl]; decide)]; exact hY)⟩)
