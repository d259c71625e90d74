/-! the reference: reading the text (written by program: wip/whole/gen/model4.py) -/
theorem c_X6_readCommand {E : zE} (hst : E.1.stackTraces = false) {H : Heap} {r : zH} {q : Nat} {Q : Nat → Nat} {rf n : Int} {s : zP} {lo fi ac : Int} {tx : Int → Int} {R : Int → Int} {N : Int} (hO : zMo E H r q Q rf n s.2 s.1 lo fi ac) (hT : zA E H r 100001 (Q 1) 120 tx) (hR : zA E H r 100002 (Q 2) 4086 R) (hx : ∀ j : Int, 0 ≤ j → j < n → 0 ≤ tx j ∧ tx j ≤ 255) (hn : 0 ≤ n ∧ n ≤ 120) (hs : 0 ≤ s.2 ∧ s.2 ≤ n) (hsn : s.2 < n) (hG : sW R N) (hN : N ≤ 639) : zC E yX6_readCommand cX6_readCommand 3 none 7 155 [.ref q] H 0 0 (zRv (fun H1 => zFr H r H1 r (fun s => s = 100000 ∨ s = 100002) ∧ zMo E H1 r q Q rf n (tCm n tx s lo R).1.2 (tCm n tx s lo R).1.1 (tCm n tx s lo R).2.1 fi ac ∧ zA E H1 r 100002 (Q 2) 4086 (tCm n tx s lo R).2.2)) zN := by
  refine zC.of (by decide) (Nat.le_of_ble_eq_true rfl) hst ?_
  intro x O hE hpo hpx
  subst hE
  change zG x H 0 0 0 [(0, .ref q)] []
  refine z_aload_n 0 O dX6_readCommand_0 rfl ?_
  refine z_bipush 109 O dX6_readCommand_1 (by decide +kernel) ?_
  refine z_Vi [.int (iI 109)] [] kM_X6_187 O dX6_readCommand_3 (c_X6_isNext hst hO hT hx hn hs ⟨by omega, by omega⟩) rfl rfl hO.1 (by decide) (Nat.le_of_ble_eq_true rfl) (by omega) (by omega) (Nat.le_of_ble_eq_true rfl) zNx ?_
  refine z_ifb_eq 47 O dX6_readCommand_6 (by decide) (fun c_6 => ?_) (fun c_6 => ?_)
  · skip
    refine z_aload_n 0 O dX6_readCommand_47 rfl ?_
    refine z_getf kF_X6_122 O dX6_readCommand_48 hO.1 rfl ?_
    refine z_aload_n 0 O dX6_readCommand_51 rfl ?_
    refine z_getf kF_X6_115 O dX6_readCommand_52 hO.1 rfl ?_
    refine z_icmp_ge 70 O dX6_readCommand_55 (by decide) ⟨by omega, by omega⟩ ⟨by omega, by omega⟩ (fun c_55 => ?_) (fun c_55 => ?_)
    · exfalso; omega
    · skip
      refine z_aload_n 0 O dX6_readCommand_58 rfl ?_
      refine z_getf kF_X6_7 O dX6_readCommand_59 hO.1 rfl ?_
      refine z_aload_n 0 O dX6_readCommand_62 rfl ?_
      refine z_getf kF_X6_122 O dX6_readCommand_63 hO.1 rfl ?_
      have hxx0 := hx s.2 (by omega) (by omega)
      refine z_iald O dX6_readCommand_66 hT.1 ⟨by omega, by omega⟩ (by omega) (by omega) ?_
      refine z_goto 71 O dX6_readCommand_67 (by decide) ?_
      refine z_istore_n [(1, .int (iI (tx s.2))), (0, .ref q)] O dX6_readCommand_71 (by decide) rfl ?_
      refine z_aload_n 1 O dX6_readCommand_72 rfl ?_
      refine z_aload_n 1 O dX6_readCommand_73 rfl ?_
      refine z_bipush 98 O dX6_readCommand_74 (by decide +kernel) ?_
      refine z_Vi [.int (iI 98)] [.ref q] kM_X6_187 O dX6_readCommand_76 (c_X6_isNext hst hO hT hx hn hs ⟨by omega, by omega⟩) rfl rfl hO.1 (by decide) (Nat.le_of_ble_eq_true rfl) (by omega) (by omega) (Nat.le_of_ble_eq_true rfl) zNx ?_
      refine z_ifb_ne 136 O dX6_readCommand_79 (by decide) (fun c_79 => ?_) (fun c_79 => ?_)
      · skip
        refine z_iconst 1 O dX6_readCommand_136 (by decide +kernel) ?_
        refine z_goto 141 O dX6_readCommand_137 (by decide) ?_
        have hxx := hx s.2 (by omega) (by omega)
        have k79 := tNx_t.mp c_79
        have eL : tLet (tx s.2) = true := decide_eq_true (by omega)
        refine z_Vvm [.int (iI 1)] [] kM_X6_131 O dX6_readCommand_141 (c_X6_accept hst (b := true) hO hn hs) rfl rfl hO.1 (by decide) (Nat.le_of_ble_eq_true rfl) (by omega) (by omega) (Nat.le_of_ble_eq_true rfl) zNx (fun H1 hp2 hz3 => ?_)
        obtain ⟨hf4, ho5⟩ := hp2
        have hT6 := hT.fr hf4 (zT1 (by omega))
        have hR7 := hR.fr hf4 (zT1 (by omega))
        have hs1 := tAc_R (b := true) (n := n) hs (fun _ => by omega)
        obtain ⟨s1, es1⟩ : ∃ z, z = tAc true s := ⟨_, rfl⟩
        rw [← es1] at hs1
        rw [← es1] at ho5
        refine z_aload_n 1 O dX6_readCommand_144 rfl ?_
        refine z_iconst 0 O dX6_readCommand_145 (by decide +kernel) ?_
        refine z_iconst 2 O dX6_readCommand_146 (by decide +kernel) ?_
        refine z_Vim [.int (iI 0), .int (iI 2)] [] kM_X6_135 O dX6_readCommand_147 (c_X6_digit hst ho5 hT6 hx hn hs1 (by omega) (by omega)) rfl rfl ho5.1 (by decide) (Nat.le_of_ble_eq_true rfl) (by omega) (by omega) (Nat.le_of_ble_eq_true rfl) zNx (fun H8 hp9 hz10 => ?_)
        obtain ⟨hf11, ho12⟩ := hp9
        have hT13 := hT6.fr hf11 (zT1 (by omega))
        have hR14 := hR7.fr hf11 (zT1 (by omega))
        have hr2 : _ ∧ 0 ≤ (tDg n 0 2 tx s1).2.2 ∧ (tDg n 0 2 tx s1).2.2 ≤ n := tDg_R hs1 (by omega)
        obtain ⟨v2, ev2⟩ : ∃ z, z = (tDg n 0 2 tx s1).1 := ⟨_, rfl⟩
        obtain ⟨s2, es2⟩ : ∃ z, z = (tDg n 0 2 tx s1).2 := ⟨_, rfl⟩
        rw [← ev2]
        rw [← ev2, ← es2] at hr2
        obtain ⟨hv2, hs2⟩ := hr2
        rw [← es2] at ho12
        refine z_istore_n [(2, .int (iI v2)), (1, .int (iI (tx s.2))), (0, .ref q)] O dX6_readCommand_150 (by decide) rfl ?_
        refine z_iload_n 1 O dX6_readCommand_151 rfl ?_
        refine z_bipush 115 O dX6_readCommand_152 (by decide +kernel) ?_
        refine z_icmp_ne 165 O dX6_readCommand_154 (by decide) ⟨by omega, by omega⟩ ⟨by omega, by omega⟩ (fun c_154 => ?_) (fun c_154 => ?_)
        · skip
          refine z_iload_n 1 O dX6_readCommand_165 rfl ?_
          refine z_bipush 103 O dX6_readCommand_166 (by decide +kernel) ?_
          refine z_icmp_ne 179 O dX6_readCommand_168 (by decide) ⟨by omega, by omega⟩ ⟨by omega, by omega⟩ (fun c_168 => ?_) (fun c_168 => ?_)
          · skip
            refine z_iload_n 1 O dX6_readCommand_179 rfl ?_
            refine z_bipush 114 O dX6_readCommand_180 (by decide +kernel) ?_
            refine z_icmp_ne 193 O dX6_readCommand_182 (by decide) ⟨by omega, by omega⟩ ⟨by omega, by omega⟩ (fun c_182 => ?_) (fun c_182 => ?_)
            · skip
              refine z_aload_n 2 O dX6_readCommand_193 rfl ?_
              refine z_iload_n 1 O dX6_readCommand_194 rfl ?_
              refine z_iload_n 0 O dX6_readCommand_195 rfl ?_
              refine z_Vvm [.int (iI (tx s.2)), .int (iI v2)] [] kM_X6_199 O dX6_readCommand_196 (c_X6_readBare hst ho12 hT13 hR14 hx hn hs2 hG hN hv2 ⟨by omega, by omega⟩) rfl rfl ho12.1 (by decide) (Nat.le_of_ble_eq_true rfl) (by omega) (by omega) (Nat.le_of_ble_eq_true rfl) zNx (fun H15 hp16 hz17 => ?_)
              obtain ⟨hf18, ho19, ha20⟩ := hp16
              have hT21 := hT13.fr hf18 (by show ¬ (_ ∨ _); omega)
              exact z_iretv O dX6_readCommand_199 rfl (by omega) (by omega) hpo (⟨(((((hf4.up (fun s h => by first | exact h.elim | omega | (simp at h ⊢; omega)))).tr (hf11.up (fun s h => by first | exact h.elim | omega | (simp at h ⊢; omega))))).tr (hf18.up (fun s h => by first | exact h.elim | omega | (simp at h ⊢; omega)))), (by unfold tCm; rw [if_neg (by rw [c_6]; decide), eL, ← es1]; unfold tCk; (repeat first | rw [if_pos (by omega)] | rw [if_neg (by omega)]); rw [← ev2, ← es2]; exact ho19), (by unfold tCm; rw [if_neg (by rw [c_6]; decide), eL, ← es1]; unfold tCk; (repeat first | rw [if_pos (by omega)] | rw [if_neg (by omega)]); rw [← ev2, ← es2]; exact ha20)⟩)
            · exfalso; omega
          · exfalso; omega
        · exfalso; omega
      · skip
        refine z_aload_n 1 O dX6_readCommand_82 rfl ?_
        refine z_bipush 115 O dX6_readCommand_83 (by decide +kernel) ?_
        refine z_Vi [.int (iI 115)] [.ref q] kM_X6_187 O dX6_readCommand_85 (c_X6_isNext hst hO hT hx hn hs ⟨by omega, by omega⟩) rfl rfl hO.1 (by decide) (Nat.le_of_ble_eq_true rfl) (by omega) (by omega) (Nat.le_of_ble_eq_true rfl) zNx ?_
        refine z_ifb_ne 136 O dX6_readCommand_88 (by decide) (fun c_88 => ?_) (fun c_88 => ?_)
        · skip
          refine z_iconst 1 O dX6_readCommand_136 (by decide +kernel) ?_
          refine z_goto 141 O dX6_readCommand_137 (by decide) ?_
          have hxx := hx s.2 (by omega) (by omega)
          have k79 := tNx_f.mp c_79
          have k88 := tNx_t.mp c_88
          have eL : tLet (tx s.2) = true := decide_eq_true (by omega)
          refine z_Vvm [.int (iI 1)] [] kM_X6_131 O dX6_readCommand_141 (c_X6_accept hst (b := true) hO hn hs) rfl rfl hO.1 (by decide) (Nat.le_of_ble_eq_true rfl) (by omega) (by omega) (Nat.le_of_ble_eq_true rfl) zNx (fun H22 hp23 hz24 => ?_)
          obtain ⟨hf25, ho26⟩ := hp23
          have hT27 := hT.fr hf25 (zT1 (by omega))
          have hR28 := hR.fr hf25 (zT1 (by omega))
          have hs1 := tAc_R (b := true) (n := n) hs (fun _ => by omega)
          obtain ⟨s1, es1⟩ : ∃ z, z = tAc true s := ⟨_, rfl⟩
          rw [← es1] at hs1
          rw [← es1] at ho26
          refine z_aload_n 1 O dX6_readCommand_144 rfl ?_
          refine z_iconst 0 O dX6_readCommand_145 (by decide +kernel) ?_
          refine z_iconst 2 O dX6_readCommand_146 (by decide +kernel) ?_
          refine z_Vim [.int (iI 0), .int (iI 2)] [] kM_X6_135 O dX6_readCommand_147 (c_X6_digit hst ho26 hT27 hx hn hs1 (by omega) (by omega)) rfl rfl ho26.1 (by decide) (Nat.le_of_ble_eq_true rfl) (by omega) (by omega) (Nat.le_of_ble_eq_true rfl) zNx (fun H29 hp30 hz31 => ?_)
          obtain ⟨hf32, ho33⟩ := hp30
          have hT34 := hT27.fr hf32 (zT1 (by omega))
          have hR35 := hR28.fr hf32 (zT1 (by omega))
          have hr2 : _ ∧ 0 ≤ (tDg n 0 2 tx s1).2.2 ∧ (tDg n 0 2 tx s1).2.2 ≤ n := tDg_R hs1 (by omega)
          obtain ⟨v2, ev2⟩ : ∃ z, z = (tDg n 0 2 tx s1).1 := ⟨_, rfl⟩
          obtain ⟨s2, es2⟩ : ∃ z, z = (tDg n 0 2 tx s1).2 := ⟨_, rfl⟩
          rw [← ev2]
          rw [← ev2, ← es2] at hr2
          obtain ⟨hv2, hs2⟩ := hr2
          rw [← es2] at ho33
          refine z_istore_n [(2, .int (iI v2)), (1, .int (iI (tx s.2))), (0, .ref q)] O dX6_readCommand_150 (by decide) rfl ?_
          refine z_iload_n 1 O dX6_readCommand_151 rfl ?_
          refine z_bipush 115 O dX6_readCommand_152 (by decide +kernel) ?_
          refine z_icmp_ne 165 O dX6_readCommand_154 (by decide) ⟨by omega, by omega⟩ ⟨by omega, by omega⟩ (fun c_154 => ?_) (fun c_154 => ?_)
          · exfalso; omega
          · skip
            refine z_aload_n 2 O dX6_readCommand_157 rfl ?_
            refine z_iload_n 0 O dX6_readCommand_158 rfl ?_
            refine z_Vvm [.int (iI v2)] [] kM_X6_190 O dX6_readCommand_159 (c_X6_readWrite hst ho33 hT34 hR35 hx hn hs2 hG hN hv2) rfl rfl ho33.1 (by decide) (Nat.le_of_ble_eq_true rfl) (by omega) (by omega) (Nat.le_of_ble_eq_true rfl) zNx (fun H36 hp37 hz38 => ?_)
            obtain ⟨hf39, ho40, ha41⟩ := hp37
            have hT42 := hT34.fr hf39 (by show ¬ (_ ∨ _); omega)
            refine z_goto 199 O dX6_readCommand_162 (by decide) ?_
            exact z_iretv O dX6_readCommand_199 rfl (by omega) (by omega) hpo (⟨(((((hf25.up (fun s h => by first | exact h.elim | omega | (simp at h ⊢; omega)))).tr (hf32.up (fun s h => by first | exact h.elim | omega | (simp at h ⊢; omega))))).tr (hf39.up (fun s h => by first | exact h.elim | omega | (simp at h ⊢; omega)))), (by unfold tCm; rw [if_neg (by rw [c_6]; decide), eL, ← es1]; unfold tCk; (repeat first | rw [if_pos (by omega)] | rw [if_neg (by omega)]); rw [← ev2, ← es2]; exact ho40), (by unfold tCm; rw [if_neg (by rw [c_6]; decide), eL, ← es1]; unfold tCk; (repeat first | rw [if_pos (by omega)] | rw [if_neg (by omega)]); rw [← ev2, ← es2]; exact ha41)⟩)
        · skip
          refine z_aload_n 1 O dX6_readCommand_91 rfl ?_
          refine z_bipush 112 O dX6_readCommand_92 (by decide +kernel) ?_
          refine z_Vi [.int (iI 112)] [.ref q] kM_X6_187 O dX6_readCommand_94 (c_X6_isNext hst hO hT hx hn hs ⟨by omega, by omega⟩) rfl rfl hO.1 (by decide) (Nat.le_of_ble_eq_true rfl) (by omega) (by omega) (Nat.le_of_ble_eq_true rfl) zNx ?_
          refine z_ifb_ne 136 O dX6_readCommand_97 (by decide) (fun c_97 => ?_) (fun c_97 => ?_)
          · skip
            refine z_iconst 1 O dX6_readCommand_136 (by decide +kernel) ?_
            refine z_goto 141 O dX6_readCommand_137 (by decide) ?_
            have hxx := hx s.2 (by omega) (by omega)
            have k79 := tNx_f.mp c_79
            have k88 := tNx_f.mp c_88
            have k97 := tNx_t.mp c_97
            have eL : tLet (tx s.2) = true := decide_eq_true (by omega)
            refine z_Vvm [.int (iI 1)] [] kM_X6_131 O dX6_readCommand_141 (c_X6_accept hst (b := true) hO hn hs) rfl rfl hO.1 (by decide) (Nat.le_of_ble_eq_true rfl) (by omega) (by omega) (Nat.le_of_ble_eq_true rfl) zNx (fun H43 hp44 hz45 => ?_)
            obtain ⟨hf46, ho47⟩ := hp44
            have hT48 := hT.fr hf46 (zT1 (by omega))
            have hR49 := hR.fr hf46 (zT1 (by omega))
            have hs1 := tAc_R (b := true) (n := n) hs (fun _ => by omega)
            obtain ⟨s1, es1⟩ : ∃ z, z = tAc true s := ⟨_, rfl⟩
            rw [← es1] at hs1
            rw [← es1] at ho47
            refine z_aload_n 1 O dX6_readCommand_144 rfl ?_
            refine z_iconst 0 O dX6_readCommand_145 (by decide +kernel) ?_
            refine z_iconst 2 O dX6_readCommand_146 (by decide +kernel) ?_
            refine z_Vim [.int (iI 0), .int (iI 2)] [] kM_X6_135 O dX6_readCommand_147 (c_X6_digit hst ho47 hT48 hx hn hs1 (by omega) (by omega)) rfl rfl ho47.1 (by decide) (Nat.le_of_ble_eq_true rfl) (by omega) (by omega) (Nat.le_of_ble_eq_true rfl) zNx (fun H50 hp51 hz52 => ?_)
            obtain ⟨hf53, ho54⟩ := hp51
            have hT55 := hT48.fr hf53 (zT1 (by omega))
            have hR56 := hR49.fr hf53 (zT1 (by omega))
            have hr2 : _ ∧ 0 ≤ (tDg n 0 2 tx s1).2.2 ∧ (tDg n 0 2 tx s1).2.2 ≤ n := tDg_R hs1 (by omega)
            obtain ⟨v2, ev2⟩ : ∃ z, z = (tDg n 0 2 tx s1).1 := ⟨_, rfl⟩
            obtain ⟨s2, es2⟩ : ∃ z, z = (tDg n 0 2 tx s1).2 := ⟨_, rfl⟩
            rw [← ev2]
            rw [← ev2, ← es2] at hr2
            obtain ⟨hv2, hs2⟩ := hr2
            rw [← es2] at ho54
            refine z_istore_n [(2, .int (iI v2)), (1, .int (iI (tx s.2))), (0, .ref q)] O dX6_readCommand_150 (by decide) rfl ?_
            refine z_iload_n 1 O dX6_readCommand_151 rfl ?_
            refine z_bipush 115 O dX6_readCommand_152 (by decide +kernel) ?_
            refine z_icmp_ne 165 O dX6_readCommand_154 (by decide) ⟨by omega, by omega⟩ ⟨by omega, by omega⟩ (fun c_154 => ?_) (fun c_154 => ?_)
            · skip
              refine z_iload_n 1 O dX6_readCommand_165 rfl ?_
              refine z_bipush 103 O dX6_readCommand_166 (by decide +kernel) ?_
              refine z_icmp_ne 179 O dX6_readCommand_168 (by decide) ⟨by omega, by omega⟩ ⟨by omega, by omega⟩ (fun c_168 => ?_) (fun c_168 => ?_)
              · skip
                refine z_iload_n 1 O dX6_readCommand_179 rfl ?_
                refine z_bipush 114 O dX6_readCommand_180 (by decide +kernel) ?_
                refine z_icmp_ne 193 O dX6_readCommand_182 (by decide) ⟨by omega, by omega⟩ ⟨by omega, by omega⟩ (fun c_182 => ?_) (fun c_182 => ?_)
                · skip
                  refine z_aload_n 2 O dX6_readCommand_193 rfl ?_
                  refine z_iload_n 1 O dX6_readCommand_194 rfl ?_
                  refine z_iload_n 0 O dX6_readCommand_195 rfl ?_
                  refine z_Vvm [.int (iI (tx s.2)), .int (iI v2)] [] kM_X6_199 O dX6_readCommand_196 (c_X6_readBare hst ho54 hT55 hR56 hx hn hs2 hG hN hv2 ⟨by omega, by omega⟩) rfl rfl ho54.1 (by decide) (Nat.le_of_ble_eq_true rfl) (by omega) (by omega) (Nat.le_of_ble_eq_true rfl) zNx (fun H57 hp58 hz59 => ?_)
                  obtain ⟨hf60, ho61, ha62⟩ := hp58
                  have hT63 := hT55.fr hf60 (by show ¬ (_ ∨ _); omega)
                  exact z_iretv O dX6_readCommand_199 rfl (by omega) (by omega) hpo (⟨(((((hf46.up (fun s h => by first | exact h.elim | omega | (simp at h ⊢; omega)))).tr (hf53.up (fun s h => by first | exact h.elim | omega | (simp at h ⊢; omega))))).tr (hf60.up (fun s h => by first | exact h.elim | omega | (simp at h ⊢; omega)))), (by unfold tCm; rw [if_neg (by rw [c_6]; decide), eL, ← es1]; unfold tCk; (repeat first | rw [if_pos (by omega)] | rw [if_neg (by omega)]); rw [← ev2, ← es2]; exact ho61), (by unfold tCm; rw [if_neg (by rw [c_6]; decide), eL, ← es1]; unfold tCk; (repeat first | rw [if_pos (by omega)] | rw [if_neg (by omega)]); rw [← ev2, ← es2]; exact ha62)⟩)
                · exfalso; omega
              · exfalso; omega
            · exfalso; omega
          · skip
            refine z_aload_n 1 O dX6_readCommand_100 rfl ?_
            refine z_bipush 114 O dX6_readCommand_101 (by decide +kernel) ?_
            refine z_Vi [.int (iI 114)] [.ref q] kM_X6_187 O dX6_readCommand_103 (c_X6_isNext hst hO hT hx hn hs ⟨by omega, by omega⟩) rfl rfl hO.1 (by decide) (Nat.le_of_ble_eq_true rfl) (by omega) (by omega) (Nat.le_of_ble_eq_true rfl) zNx ?_
            refine z_ifb_ne 136 O dX6_readCommand_106 (by decide) (fun c_106 => ?_) (fun c_106 => ?_)
            · skip
              refine z_iconst 1 O dX6_readCommand_136 (by decide +kernel) ?_
              refine z_goto 141 O dX6_readCommand_137 (by decide) ?_
              have hxx := hx s.2 (by omega) (by omega)
              have k79 := tNx_f.mp c_79
              have k88 := tNx_f.mp c_88
              have k97 := tNx_f.mp c_97
              have k106 := tNx_t.mp c_106
              have eL : tLet (tx s.2) = true := decide_eq_true (by omega)
              refine z_Vvm [.int (iI 1)] [] kM_X6_131 O dX6_readCommand_141 (c_X6_accept hst (b := true) hO hn hs) rfl rfl hO.1 (by decide) (Nat.le_of_ble_eq_true rfl) (by omega) (by omega) (Nat.le_of_ble_eq_true rfl) zNx (fun H64 hp65 hz66 => ?_)
              obtain ⟨hf67, ho68⟩ := hp65
              have hT69 := hT.fr hf67 (zT1 (by omega))
              have hR70 := hR.fr hf67 (zT1 (by omega))
              have hs1 := tAc_R (b := true) (n := n) hs (fun _ => by omega)
              obtain ⟨s1, es1⟩ : ∃ z, z = tAc true s := ⟨_, rfl⟩
              rw [← es1] at hs1
              rw [← es1] at ho68
              refine z_aload_n 1 O dX6_readCommand_144 rfl ?_
              refine z_iconst 0 O dX6_readCommand_145 (by decide +kernel) ?_
              refine z_iconst 2 O dX6_readCommand_146 (by decide +kernel) ?_
              refine z_Vim [.int (iI 0), .int (iI 2)] [] kM_X6_135 O dX6_readCommand_147 (c_X6_digit hst ho68 hT69 hx hn hs1 (by omega) (by omega)) rfl rfl ho68.1 (by decide) (Nat.le_of_ble_eq_true rfl) (by omega) (by omega) (Nat.le_of_ble_eq_true rfl) zNx (fun H71 hp72 hz73 => ?_)
              obtain ⟨hf74, ho75⟩ := hp72
              have hT76 := hT69.fr hf74 (zT1 (by omega))
              have hR77 := hR70.fr hf74 (zT1 (by omega))
              have hr2 : _ ∧ 0 ≤ (tDg n 0 2 tx s1).2.2 ∧ (tDg n 0 2 tx s1).2.2 ≤ n := tDg_R hs1 (by omega)
              obtain ⟨v2, ev2⟩ : ∃ z, z = (tDg n 0 2 tx s1).1 := ⟨_, rfl⟩
              obtain ⟨s2, es2⟩ : ∃ z, z = (tDg n 0 2 tx s1).2 := ⟨_, rfl⟩
              rw [← ev2]
              rw [← ev2, ← es2] at hr2
              obtain ⟨hv2, hs2⟩ := hr2
              rw [← es2] at ho75
              refine z_istore_n [(2, .int (iI v2)), (1, .int (iI (tx s.2))), (0, .ref q)] O dX6_readCommand_150 (by decide) rfl ?_
              refine z_iload_n 1 O dX6_readCommand_151 rfl ?_
              refine z_bipush 115 O dX6_readCommand_152 (by decide +kernel) ?_
              refine z_icmp_ne 165 O dX6_readCommand_154 (by decide) ⟨by omega, by omega⟩ ⟨by omega, by omega⟩ (fun c_154 => ?_) (fun c_154 => ?_)
              · skip
                refine z_iload_n 1 O dX6_readCommand_165 rfl ?_
                refine z_bipush 103 O dX6_readCommand_166 (by decide +kernel) ?_
                refine z_icmp_ne 179 O dX6_readCommand_168 (by decide) ⟨by omega, by omega⟩ ⟨by omega, by omega⟩ (fun c_168 => ?_) (fun c_168 => ?_)
                · skip
                  refine z_iload_n 1 O dX6_readCommand_179 rfl ?_
                  refine z_bipush 114 O dX6_readCommand_180 (by decide +kernel) ?_
                  refine z_icmp_ne 193 O dX6_readCommand_182 (by decide) ⟨by omega, by omega⟩ ⟨by omega, by omega⟩ (fun c_182 => ?_) (fun c_182 => ?_)
                  · exfalso; omega
                  · skip
                    refine z_aload_n 2 O dX6_readCommand_185 rfl ?_
                    refine z_iload_n 0 O dX6_readCommand_186 rfl ?_
                    refine z_Vvm [.int (iI v2)] [] kM_X6_196 O dX6_readCommand_187 (c_X6_readBack hst ho75 hT76 hR77 hx hn hs2 hG hN hv2) rfl rfl ho75.1 (by decide) (Nat.le_of_ble_eq_true rfl) (by omega) (by omega) (Nat.le_of_ble_eq_true rfl) zNx (fun H78 hp79 hz80 => ?_)
                    obtain ⟨hf81, ho82, ha83⟩ := hp79
                    have hT84 := hT76.fr hf81 (by show ¬ (_ ∨ _); omega)
                    refine z_goto 199 O dX6_readCommand_190 (by decide) ?_
                    exact z_iretv O dX6_readCommand_199 rfl (by omega) (by omega) hpo (⟨(((((hf67.up (fun s h => by first | exact h.elim | omega | (simp at h ⊢; omega)))).tr (hf74.up (fun s h => by first | exact h.elim | omega | (simp at h ⊢; omega))))).tr (hf81.up (fun s h => by first | exact h.elim | omega | (simp at h ⊢; omega)))), (by unfold tCm; rw [if_neg (by rw [c_6]; decide), eL, ← es1]; unfold tCk; (repeat first | rw [if_pos (by omega)] | rw [if_neg (by omega)]); rw [← ev2, ← es2]; exact ho82), (by unfold tCm; rw [if_neg (by rw [c_6]; decide), eL, ← es1]; unfold tCk; (repeat first | rw [if_pos (by omega)] | rw [if_neg (by omega)]); rw [← ev2, ← es2]; exact ha83)⟩)
                · exfalso; omega
              · exfalso; omega
            · skip
              refine z_aload_n 1 O dX6_readCommand_109 rfl ?_
              refine z_bipush 103 O dX6_readCommand_110 (by decide +kernel) ?_
              refine z_Vi [.int (iI 103)] [.ref q] kM_X6_187 O dX6_readCommand_112 (c_X6_isNext hst hO hT hx hn hs ⟨by omega, by omega⟩) rfl rfl hO.1 (by decide) (Nat.le_of_ble_eq_true rfl) (by omega) (by omega) (Nat.le_of_ble_eq_true rfl) zNx ?_
              refine z_ifb_ne 136 O dX6_readCommand_115 (by decide) (fun c_115 => ?_) (fun c_115 => ?_)
              · skip
                refine z_iconst 1 O dX6_readCommand_136 (by decide +kernel) ?_
                refine z_goto 141 O dX6_readCommand_137 (by decide) ?_
                have hxx := hx s.2 (by omega) (by omega)
                have k79 := tNx_f.mp c_79
                have k88 := tNx_f.mp c_88
                have k97 := tNx_f.mp c_97
                have k106 := tNx_f.mp c_106
                have k115 := tNx_t.mp c_115
                have eL : tLet (tx s.2) = true := decide_eq_true (by omega)
                refine z_Vvm [.int (iI 1)] [] kM_X6_131 O dX6_readCommand_141 (c_X6_accept hst (b := true) hO hn hs) rfl rfl hO.1 (by decide) (Nat.le_of_ble_eq_true rfl) (by omega) (by omega) (Nat.le_of_ble_eq_true rfl) zNx (fun H85 hp86 hz87 => ?_)
                obtain ⟨hf88, ho89⟩ := hp86
                have hT90 := hT.fr hf88 (zT1 (by omega))
                have hR91 := hR.fr hf88 (zT1 (by omega))
                have hs1 := tAc_R (b := true) (n := n) hs (fun _ => by omega)
                obtain ⟨s1, es1⟩ : ∃ z, z = tAc true s := ⟨_, rfl⟩
                rw [← es1] at hs1
                rw [← es1] at ho89
                refine z_aload_n 1 O dX6_readCommand_144 rfl ?_
                refine z_iconst 0 O dX6_readCommand_145 (by decide +kernel) ?_
                refine z_iconst 2 O dX6_readCommand_146 (by decide +kernel) ?_
                refine z_Vim [.int (iI 0), .int (iI 2)] [] kM_X6_135 O dX6_readCommand_147 (c_X6_digit hst ho89 hT90 hx hn hs1 (by omega) (by omega)) rfl rfl ho89.1 (by decide) (Nat.le_of_ble_eq_true rfl) (by omega) (by omega) (Nat.le_of_ble_eq_true rfl) zNx (fun H92 hp93 hz94 => ?_)
                obtain ⟨hf95, ho96⟩ := hp93
                have hT97 := hT90.fr hf95 (zT1 (by omega))
                have hR98 := hR91.fr hf95 (zT1 (by omega))
                have hr2 : _ ∧ 0 ≤ (tDg n 0 2 tx s1).2.2 ∧ (tDg n 0 2 tx s1).2.2 ≤ n := tDg_R hs1 (by omega)
                obtain ⟨v2, ev2⟩ : ∃ z, z = (tDg n 0 2 tx s1).1 := ⟨_, rfl⟩
                obtain ⟨s2, es2⟩ : ∃ z, z = (tDg n 0 2 tx s1).2 := ⟨_, rfl⟩
                rw [← ev2]
                rw [← ev2, ← es2] at hr2
                obtain ⟨hv2, hs2⟩ := hr2
                rw [← es2] at ho96
                refine z_istore_n [(2, .int (iI v2)), (1, .int (iI (tx s.2))), (0, .ref q)] O dX6_readCommand_150 (by decide) rfl ?_
                refine z_iload_n 1 O dX6_readCommand_151 rfl ?_
                refine z_bipush 115 O dX6_readCommand_152 (by decide +kernel) ?_
                refine z_icmp_ne 165 O dX6_readCommand_154 (by decide) ⟨by omega, by omega⟩ ⟨by omega, by omega⟩ (fun c_154 => ?_) (fun c_154 => ?_)
                · skip
                  refine z_iload_n 1 O dX6_readCommand_165 rfl ?_
                  refine z_bipush 103 O dX6_readCommand_166 (by decide +kernel) ?_
                  refine z_icmp_ne 179 O dX6_readCommand_168 (by decide) ⟨by omega, by omega⟩ ⟨by omega, by omega⟩ (fun c_168 => ?_) (fun c_168 => ?_)
                  · exfalso; omega
                  · skip
                    refine z_aload_n 2 O dX6_readCommand_171 rfl ?_
                    refine z_iload_n 0 O dX6_readCommand_172 rfl ?_
                    refine z_Vvm [.int (iI v2)] [] kM_X6_193 O dX6_readCommand_173 (c_X6_readRegret hst ho96 hT97 hR98 hx hn hs2 hG hN hv2) rfl rfl ho96.1 (by decide) (Nat.le_of_ble_eq_true rfl) (by omega) (by omega) (Nat.le_of_ble_eq_true rfl) zNx (fun H99 hp100 hz101 => ?_)
                    obtain ⟨hf102, ho103, ha104⟩ := hp100
                    have hT105 := hT97.fr hf102 (by show ¬ (_ ∨ _); omega)
                    refine z_goto 199 O dX6_readCommand_176 (by decide) ?_
                    exact z_iretv O dX6_readCommand_199 rfl (by omega) (by omega) hpo (⟨(((((hf88.up (fun s h => by first | exact h.elim | omega | (simp at h ⊢; omega)))).tr (hf95.up (fun s h => by first | exact h.elim | omega | (simp at h ⊢; omega))))).tr (hf102.up (fun s h => by first | exact h.elim | omega | (simp at h ⊢; omega)))), (by unfold tCm; rw [if_neg (by rw [c_6]; decide), eL, ← es1]; unfold tCk; (repeat first | rw [if_pos (by omega)] | rw [if_neg (by omega)]); rw [← ev2, ← es2]; exact ho103), (by unfold tCm; rw [if_neg (by rw [c_6]; decide), eL, ← es1]; unfold tCk; (repeat first | rw [if_pos (by omega)] | rw [if_neg (by omega)]); rw [← ev2, ← es2]; exact ha104)⟩)
                · exfalso; omega
              · skip
                refine z_aload_n 1 O dX6_readCommand_118 rfl ?_
                refine z_bipush 100 O dX6_readCommand_119 (by decide +kernel) ?_
                refine z_Vi [.int (iI 100)] [.ref q] kM_X6_187 O dX6_readCommand_121 (c_X6_isNext hst hO hT hx hn hs ⟨by omega, by omega⟩) rfl rfl hO.1 (by decide) (Nat.le_of_ble_eq_true rfl) (by omega) (by omega) (Nat.le_of_ble_eq_true rfl) zNx ?_
                refine z_ifb_ne 136 O dX6_readCommand_124 (by decide) (fun c_124 => ?_) (fun c_124 => ?_)
                · skip
                  refine z_iconst 1 O dX6_readCommand_136 (by decide +kernel) ?_
                  refine z_goto 141 O dX6_readCommand_137 (by decide) ?_
                  have hxx := hx s.2 (by omega) (by omega)
                  have k79 := tNx_f.mp c_79
                  have k88 := tNx_f.mp c_88
                  have k97 := tNx_f.mp c_97
                  have k106 := tNx_f.mp c_106
                  have k115 := tNx_f.mp c_115
                  have k124 := tNx_t.mp c_124
                  have eL : tLet (tx s.2) = true := decide_eq_true (by omega)
                  refine z_Vvm [.int (iI 1)] [] kM_X6_131 O dX6_readCommand_141 (c_X6_accept hst (b := true) hO hn hs) rfl rfl hO.1 (by decide) (Nat.le_of_ble_eq_true rfl) (by omega) (by omega) (Nat.le_of_ble_eq_true rfl) zNx (fun H106 hp107 hz108 => ?_)
                  obtain ⟨hf109, ho110⟩ := hp107
                  have hT111 := hT.fr hf109 (zT1 (by omega))
                  have hR112 := hR.fr hf109 (zT1 (by omega))
                  have hs1 := tAc_R (b := true) (n := n) hs (fun _ => by omega)
                  obtain ⟨s1, es1⟩ : ∃ z, z = tAc true s := ⟨_, rfl⟩
                  rw [← es1] at hs1
                  rw [← es1] at ho110
                  refine z_aload_n 1 O dX6_readCommand_144 rfl ?_
                  refine z_iconst 0 O dX6_readCommand_145 (by decide +kernel) ?_
                  refine z_iconst 2 O dX6_readCommand_146 (by decide +kernel) ?_
                  refine z_Vim [.int (iI 0), .int (iI 2)] [] kM_X6_135 O dX6_readCommand_147 (c_X6_digit hst ho110 hT111 hx hn hs1 (by omega) (by omega)) rfl rfl ho110.1 (by decide) (Nat.le_of_ble_eq_true rfl) (by omega) (by omega) (Nat.le_of_ble_eq_true rfl) zNx (fun H113 hp114 hz115 => ?_)
                  obtain ⟨hf116, ho117⟩ := hp114
                  have hT118 := hT111.fr hf116 (zT1 (by omega))
                  have hR119 := hR112.fr hf116 (zT1 (by omega))
                  have hr2 : _ ∧ 0 ≤ (tDg n 0 2 tx s1).2.2 ∧ (tDg n 0 2 tx s1).2.2 ≤ n := tDg_R hs1 (by omega)
                  obtain ⟨v2, ev2⟩ : ∃ z, z = (tDg n 0 2 tx s1).1 := ⟨_, rfl⟩
                  obtain ⟨s2, es2⟩ : ∃ z, z = (tDg n 0 2 tx s1).2 := ⟨_, rfl⟩
                  rw [← ev2]
                  rw [← ev2, ← es2] at hr2
                  obtain ⟨hv2, hs2⟩ := hr2
                  rw [← es2] at ho117
                  refine z_istore_n [(2, .int (iI v2)), (1, .int (iI (tx s.2))), (0, .ref q)] O dX6_readCommand_150 (by decide) rfl ?_
                  refine z_iload_n 1 O dX6_readCommand_151 rfl ?_
                  refine z_bipush 115 O dX6_readCommand_152 (by decide +kernel) ?_
                  refine z_icmp_ne 165 O dX6_readCommand_154 (by decide) ⟨by omega, by omega⟩ ⟨by omega, by omega⟩ (fun c_154 => ?_) (fun c_154 => ?_)
                  · skip
                    refine z_iload_n 1 O dX6_readCommand_165 rfl ?_
                    refine z_bipush 103 O dX6_readCommand_166 (by decide +kernel) ?_
                    refine z_icmp_ne 179 O dX6_readCommand_168 (by decide) ⟨by omega, by omega⟩ ⟨by omega, by omega⟩ (fun c_168 => ?_) (fun c_168 => ?_)
                    · skip
                      refine z_iload_n 1 O dX6_readCommand_179 rfl ?_
                      refine z_bipush 114 O dX6_readCommand_180 (by decide +kernel) ?_
                      refine z_icmp_ne 193 O dX6_readCommand_182 (by decide) ⟨by omega, by omega⟩ ⟨by omega, by omega⟩ (fun c_182 => ?_) (fun c_182 => ?_)
                      · skip
                        refine z_aload_n 2 O dX6_readCommand_193 rfl ?_
                        refine z_iload_n 1 O dX6_readCommand_194 rfl ?_
                        refine z_iload_n 0 O dX6_readCommand_195 rfl ?_
                        refine z_Vvm [.int (iI (tx s.2)), .int (iI v2)] [] kM_X6_199 O dX6_readCommand_196 (c_X6_readBare hst ho117 hT118 hR119 hx hn hs2 hG hN hv2 ⟨by omega, by omega⟩) rfl rfl ho117.1 (by decide) (Nat.le_of_ble_eq_true rfl) (by omega) (by omega) (Nat.le_of_ble_eq_true rfl) zNx (fun H120 hp121 hz122 => ?_)
                        obtain ⟨hf123, ho124, ha125⟩ := hp121
                        have hT126 := hT118.fr hf123 (by show ¬ (_ ∨ _); omega)
                        exact z_iretv O dX6_readCommand_199 rfl (by omega) (by omega) hpo (⟨(((((hf109.up (fun s h => by first | exact h.elim | omega | (simp at h ⊢; omega)))).tr (hf116.up (fun s h => by first | exact h.elim | omega | (simp at h ⊢; omega))))).tr (hf123.up (fun s h => by first | exact h.elim | omega | (simp at h ⊢; omega)))), (by unfold tCm; rw [if_neg (by rw [c_6]; decide), eL, ← es1]; unfold tCk; (repeat first | rw [if_pos (by omega)] | rw [if_neg (by omega)]); rw [← ev2, ← es2]; exact ho124), (by unfold tCm; rw [if_neg (by rw [c_6]; decide), eL, ← es1]; unfold tCk; (repeat first | rw [if_pos (by omega)] | rw [if_neg (by omega)]); rw [← ev2, ← es2]; exact ha125)⟩)
                      · exfalso; omega
                    · exfalso; omega
                  · exfalso; omega
                · skip
                  refine z_aload_n 1 O dX6_readCommand_127 rfl ?_
                  refine z_bipush 102 O dX6_readCommand_128 (by decide +kernel) ?_
                  refine z_Vi [.int (iI 102)] [.ref q] kM_X6_187 O dX6_readCommand_130 (c_X6_isNext hst hO hT hx hn hs ⟨by omega, by omega⟩) rfl rfl hO.1 (by decide) (Nat.le_of_ble_eq_true rfl) (by omega) (by omega) (Nat.le_of_ble_eq_true rfl) zNx ?_
                  refine z_ifb_eq 140 O dX6_readCommand_133 (by decide) (fun c_133 => ?_) (fun c_133 => ?_)
                  · skip
                    refine z_iconst 0 O dX6_readCommand_140 (by decide +kernel) ?_
                    have hxx := hx s.2 (by omega) (by omega)
                    have k79 := tNx_f.mp c_79
                    have k88 := tNx_f.mp c_88
                    have k97 := tNx_f.mp c_97
                    have k106 := tNx_f.mp c_106
                    have k115 := tNx_f.mp c_115
                    have k124 := tNx_f.mp c_124
                    have k133 := tNx_f.mp c_133
                    have eL : tLet (tx s.2) = false := decide_eq_false (by omega)
                    refine z_Vvm [.int (iI 0)] [] kM_X6_131 O dX6_readCommand_141 (c_X6_accept hst (b := false) hO hn hs) rfl rfl hO.1 (by decide) (Nat.le_of_ble_eq_true rfl) (by omega) (by omega) (Nat.le_of_ble_eq_true rfl) zNx (fun H127 hp128 hz129 => ?_)
                    obtain ⟨hf130, ho131⟩ := hp128
                    have hT132 := hT.fr hf130 (zT1 (by omega))
                    have hR133 := hR.fr hf130 (zT1 (by omega))
                    have hs1 := tAc_R (b := false) (n := n) hs (fun _ => by omega)
                    obtain ⟨s1, es1⟩ : ∃ z, z = tAc false s := ⟨_, rfl⟩
                    rw [← es1] at hs1
                    rw [← es1] at ho131
                    refine z_aload_n 1 O dX6_readCommand_144 rfl ?_
                    refine z_iconst 0 O dX6_readCommand_145 (by decide +kernel) ?_
                    refine z_iconst 2 O dX6_readCommand_146 (by decide +kernel) ?_
                    refine z_Vim [.int (iI 0), .int (iI 2)] [] kM_X6_135 O dX6_readCommand_147 (c_X6_digit hst ho131 hT132 hx hn hs1 (by omega) (by omega)) rfl rfl ho131.1 (by decide) (Nat.le_of_ble_eq_true rfl) (by omega) (by omega) (Nat.le_of_ble_eq_true rfl) zNx (fun H134 hp135 hz136 => ?_)
                    obtain ⟨hf137, ho138⟩ := hp135
                    have hT139 := hT132.fr hf137 (zT1 (by omega))
                    have hR140 := hR133.fr hf137 (zT1 (by omega))
                    have hr2 : _ ∧ 0 ≤ (tDg n 0 2 tx s1).2.2 ∧ (tDg n 0 2 tx s1).2.2 ≤ n := tDg_R hs1 (by omega)
                    obtain ⟨v2, ev2⟩ : ∃ z, z = (tDg n 0 2 tx s1).1 := ⟨_, rfl⟩
                    obtain ⟨s2, es2⟩ : ∃ z, z = (tDg n 0 2 tx s1).2 := ⟨_, rfl⟩
                    rw [← ev2]
                    rw [← ev2, ← es2] at hr2
                    obtain ⟨hv2, hs2⟩ := hr2
                    rw [← es2] at ho138
                    refine z_istore_n [(2, .int (iI v2)), (1, .int (iI (tx s.2))), (0, .ref q)] O dX6_readCommand_150 (by decide) rfl ?_
                    refine z_iload_n 1 O dX6_readCommand_151 rfl ?_
                    refine z_bipush 115 O dX6_readCommand_152 (by decide +kernel) ?_
                    refine z_icmp_ne 165 O dX6_readCommand_154 (by decide) ⟨by omega, by omega⟩ ⟨by omega, by omega⟩ (fun c_154 => ?_) (fun c_154 => ?_)
                    · skip
                      refine z_iload_n 1 O dX6_readCommand_165 rfl ?_
                      refine z_bipush 103 O dX6_readCommand_166 (by decide +kernel) ?_
                      refine z_icmp_ne 179 O dX6_readCommand_168 (by decide) ⟨by omega, by omega⟩ ⟨by omega, by omega⟩ (fun c_168 => ?_) (fun c_168 => ?_)
                      · skip
                        refine z_iload_n 1 O dX6_readCommand_179 rfl ?_
                        refine z_bipush 114 O dX6_readCommand_180 (by decide +kernel) ?_
                        refine z_icmp_ne 193 O dX6_readCommand_182 (by decide) ⟨by omega, by omega⟩ ⟨by omega, by omega⟩ (fun c_182 => ?_) (fun c_182 => ?_)
                        · skip
                          refine z_aload_n 2 O dX6_readCommand_193 rfl ?_
                          refine z_iload_n 1 O dX6_readCommand_194 rfl ?_
                          refine z_iload_n 0 O dX6_readCommand_195 rfl ?_
                          refine z_Vvm [.int (iI (tx s.2)), .int (iI v2)] [] kM_X6_199 O dX6_readCommand_196 (c_X6_readBare hst ho138 hT139 hR140 hx hn hs2 hG hN hv2 ⟨by omega, by omega⟩) rfl rfl ho138.1 (by decide) (Nat.le_of_ble_eq_true rfl) (by omega) (by omega) (Nat.le_of_ble_eq_true rfl) zNx (fun H141 hp142 hz143 => ?_)
                          obtain ⟨hf144, ho145, ha146⟩ := hp142
                          have hT147 := hT139.fr hf144 (by show ¬ (_ ∨ _); omega)
                          exact z_iretv O dX6_readCommand_199 rfl (by omega) (by omega) hpo (⟨(((((hf130.up (fun s h => by first | exact h.elim | omega | (simp at h ⊢; omega)))).tr (hf137.up (fun s h => by first | exact h.elim | omega | (simp at h ⊢; omega))))).tr (hf144.up (fun s h => by first | exact h.elim | omega | (simp at h ⊢; omega)))), (by unfold tCm; rw [if_neg (by rw [c_6]; decide), eL, ← es1]; unfold tCk; (repeat first | rw [if_pos (by omega)] | rw [if_neg (by omega)]); rw [← ev2, ← es2]; exact ho145), (by unfold tCm; rw [if_neg (by rw [c_6]; decide), eL, ← es1]; unfold tCk; (repeat first | rw [if_pos (by omega)] | rw [if_neg (by omega)]); rw [← ev2, ← es2]; exact ha146)⟩)
                        · exfalso; omega
                      · exfalso; omega
                    · exfalso; omega
                  · skip
                    refine z_iconst 1 O dX6_readCommand_136 (by decide +kernel) ?_
                    refine z_goto 141 O dX6_readCommand_137 (by decide) ?_
                    have hxx := hx s.2 (by omega) (by omega)
                    have k79 := tNx_f.mp c_79
                    have k88 := tNx_f.mp c_88
                    have k97 := tNx_f.mp c_97
                    have k106 := tNx_f.mp c_106
                    have k115 := tNx_f.mp c_115
                    have k124 := tNx_f.mp c_124
                    have k133 := tNx_t.mp c_133
                    have eL : tLet (tx s.2) = true := decide_eq_true (by omega)
                    refine z_Vvm [.int (iI 1)] [] kM_X6_131 O dX6_readCommand_141 (c_X6_accept hst (b := true) hO hn hs) rfl rfl hO.1 (by decide) (Nat.le_of_ble_eq_true rfl) (by omega) (by omega) (Nat.le_of_ble_eq_true rfl) zNx (fun H148 hp149 hz150 => ?_)
                    obtain ⟨hf151, ho152⟩ := hp149
                    have hT153 := hT.fr hf151 (zT1 (by omega))
                    have hR154 := hR.fr hf151 (zT1 (by omega))
                    have hs1 := tAc_R (b := true) (n := n) hs (fun _ => by omega)
                    obtain ⟨s1, es1⟩ : ∃ z, z = tAc true s := ⟨_, rfl⟩
                    rw [← es1] at hs1
                    rw [← es1] at ho152
                    refine z_aload_n 1 O dX6_readCommand_144 rfl ?_
                    refine z_iconst 0 O dX6_readCommand_145 (by decide +kernel) ?_
                    refine z_iconst 2 O dX6_readCommand_146 (by decide +kernel) ?_
                    refine z_Vim [.int (iI 0), .int (iI 2)] [] kM_X6_135 O dX6_readCommand_147 (c_X6_digit hst ho152 hT153 hx hn hs1 (by omega) (by omega)) rfl rfl ho152.1 (by decide) (Nat.le_of_ble_eq_true rfl) (by omega) (by omega) (Nat.le_of_ble_eq_true rfl) zNx (fun H155 hp156 hz157 => ?_)
                    obtain ⟨hf158, ho159⟩ := hp156
                    have hT160 := hT153.fr hf158 (zT1 (by omega))
                    have hR161 := hR154.fr hf158 (zT1 (by omega))
                    have hr2 : _ ∧ 0 ≤ (tDg n 0 2 tx s1).2.2 ∧ (tDg n 0 2 tx s1).2.2 ≤ n := tDg_R hs1 (by omega)
                    obtain ⟨v2, ev2⟩ : ∃ z, z = (tDg n 0 2 tx s1).1 := ⟨_, rfl⟩
                    obtain ⟨s2, es2⟩ : ∃ z, z = (tDg n 0 2 tx s1).2 := ⟨_, rfl⟩
                    rw [← ev2]
                    rw [← ev2, ← es2] at hr2
                    obtain ⟨hv2, hs2⟩ := hr2
                    rw [← es2] at ho159
                    refine z_istore_n [(2, .int (iI v2)), (1, .int (iI (tx s.2))), (0, .ref q)] O dX6_readCommand_150 (by decide) rfl ?_
                    refine z_iload_n 1 O dX6_readCommand_151 rfl ?_
                    refine z_bipush 115 O dX6_readCommand_152 (by decide +kernel) ?_
                    refine z_icmp_ne 165 O dX6_readCommand_154 (by decide) ⟨by omega, by omega⟩ ⟨by omega, by omega⟩ (fun c_154 => ?_) (fun c_154 => ?_)
                    · skip
                      refine z_iload_n 1 O dX6_readCommand_165 rfl ?_
                      refine z_bipush 103 O dX6_readCommand_166 (by decide +kernel) ?_
                      refine z_icmp_ne 179 O dX6_readCommand_168 (by decide) ⟨by omega, by omega⟩ ⟨by omega, by omega⟩ (fun c_168 => ?_) (fun c_168 => ?_)
                      · skip
                        refine z_iload_n 1 O dX6_readCommand_179 rfl ?_
                        refine z_bipush 114 O dX6_readCommand_180 (by decide +kernel) ?_
                        refine z_icmp_ne 193 O dX6_readCommand_182 (by decide) ⟨by omega, by omega⟩ ⟨by omega, by omega⟩ (fun c_182 => ?_) (fun c_182 => ?_)
                        · skip
                          refine z_aload_n 2 O dX6_readCommand_193 rfl ?_
                          refine z_iload_n 1 O dX6_readCommand_194 rfl ?_
                          refine z_iload_n 0 O dX6_readCommand_195 rfl ?_
                          refine z_Vvm [.int (iI (tx s.2)), .int (iI v2)] [] kM_X6_199 O dX6_readCommand_196 (c_X6_readBare hst ho159 hT160 hR161 hx hn hs2 hG hN hv2 ⟨by omega, by omega⟩) rfl rfl ho159.1 (by decide) (Nat.le_of_ble_eq_true rfl) (by omega) (by omega) (Nat.le_of_ble_eq_true rfl) zNx (fun H162 hp163 hz164 => ?_)
                          obtain ⟨hf165, ho166, ha167⟩ := hp163
                          have hT168 := hT160.fr hf165 (by show ¬ (_ ∨ _); omega)
                          exact z_iretv O dX6_readCommand_199 rfl (by omega) (by omega) hpo (⟨(((((hf151.up (fun s h => by first | exact h.elim | omega | (simp at h ⊢; omega)))).tr (hf158.up (fun s h => by first | exact h.elim | omega | (simp at h ⊢; omega))))).tr (hf165.up (fun s h => by first | exact h.elim | omega | (simp at h ⊢; omega)))), (by unfold tCm; rw [if_neg (by rw [c_6]; decide), eL, ← es1]; unfold tCk; (repeat first | rw [if_pos (by omega)] | rw [if_neg (by omega)]); rw [← ev2, ← es2]; exact ho166), (by unfold tCm; rw [if_neg (by rw [c_6]; decide), eL, ← es1]; unfold tCk; (repeat first | rw [if_pos (by omega)] | rw [if_neg (by omega)]); rw [← ev2, ← es2]; exact ha167)⟩)
                        · exfalso; omega
                      · exfalso; omega
                    · exfalso; omega
  · skip
    refine z_aload_n 0 O dX6_readCommand_9 rfl ?_
    refine z_iconst 1 O dX6_readCommand_10 (by decide +kernel) ?_
    refine z_Vvm [.int (iI 1)] [] kM_X6_131 O dX6_readCommand_11 (c_X6_accept hst (b := true) hO hn hs) rfl rfl hO.1 (by decide) (Nat.le_of_ble_eq_true rfl) (by omega) (by omega) (Nat.le_of_ble_eq_true rfl) zNx (fun H169 hp170 hz171 => ?_)
    obtain ⟨hf172, ho173⟩ := hp170
    have hT174 := hT.fr hf172 (zT1 (by omega))
    have hR175 := hR.fr hf172 (zT1 (by omega))
    have hs1 := tAc_R (b := true) (n := n) hs (fun _ => by omega)
    obtain ⟨s1, es1⟩ : ∃ z, z = tAc true s := ⟨_, rfl⟩
    rw [← es1] at hs1
    rw [← es1] at ho173
    refine z_aload_n 0 O dX6_readCommand_14 rfl ?_
    refine z_iconst 0 O dX6_readCommand_15 (by decide +kernel) ?_
    refine z_iconst 3 O dX6_readCommand_16 (by decide +kernel) ?_
    refine z_Vim [.int (iI 0), .int (iI 3)] [] kM_X6_135 O dX6_readCommand_17 (c_X6_digit hst ho173 hT174 hx hn hs1 (by omega) (by omega)) rfl rfl ho173.1 (by decide) (Nat.le_of_ble_eq_true rfl) (by omega) (by omega) (Nat.le_of_ble_eq_true rfl) zNx (fun H176 hp177 hz178 => ?_)
    obtain ⟨hf179, ho180⟩ := hp177
    have hT181 := hT174.fr hf179 (zT1 (by omega))
    have hR182 := hR175.fr hf179 (zT1 (by omega))
    have hr2 : _ ∧ 0 ≤ (tDg n 0 3 tx s1).2.2 ∧ (tDg n 0 3 tx s1).2.2 ≤ n := tDg_R hs1 (by omega)
    obtain ⟨v2, ev2⟩ : ∃ z, z = (tDg n 0 3 tx s1).1 := ⟨_, rfl⟩
    obtain ⟨s2, es2⟩ : ∃ z, z = (tDg n 0 3 tx s1).2 := ⟨_, rfl⟩
    rw [← ev2]
    rw [← ev2, ← es2] at hr2
    obtain ⟨hv2, hs2⟩ := hr2
    rw [← es2] at ho180
    refine z_istore_n [(1, .int (iI v2)), (0, .ref q)] O dX6_readCommand_20 (by decide) rfl ?_
    refine z_aload_n 1 O dX6_readCommand_21 rfl ?_
    refine z_getf kF_X6_13 O dX6_readCommand_22 ho180.1 rfl ?_
    refine z_bipush 32 O dX6_readCommand_25 (by decide +kernel) ?_
    refine z_aload_n 1 O dX6_readCommand_27 rfl ?_
    refine z_getf kF_X6_125 O dX6_readCommand_28 ho180.1 rfl ?_
    refine z_ifb_eq 38 O dX6_readCommand_31 (by decide) (fun c_31 => ?_) (fun c_31 => ?_)
    · skip
      refine z_aload_n 1 O dX6_readCommand_38 rfl ?_
      refine z_getf kF_X6_13 O dX6_readCommand_39 ho180.1 rfl ?_
      refine z_bipush 32 O dX6_readCommand_42 (by decide +kernel) ?_
      refine z_iald O dX6_readCommand_44 hR182.1 ⟨by omega, by omega⟩ (by omega) (by omega) ?_
      refine z_iast O dX6_readCommand_45 hR182.1 ⟨by omega, by omega⟩ (by omega) (by omega) (fun H183 hA184 hC185 => ?_)
      have hf186 := hR182.ch hC185
      have ha187 : zA (zEn x) H183 r 100002 (Q 2) 4086 (zU R 32 (R 32)) := ⟨hA184, hR182.2⟩
      have ho188 := ho180.fr hf186 (zT1 (by omega))
      have hT189 := hT181.fr hf186 (zT1 (by omega))
      exact z_iretv O dX6_readCommand_46 rfl (by omega) (by omega) hpo (⟨(((((hf172.up (fun s h => by first | exact h.elim | omega | (simp at h ⊢; omega)))).tr (hf179.up (fun s h => by first | exact h.elim | omega | (simp at h ⊢; omega))))).tr (hf186.up (fun s h => by first | exact h.elim | omega | (simp at h ⊢; omega)))), (by unfold tCm; rw [if_pos c_6]; unfold tMe; rw [← es1, ← es2]; exact ho188), (by unfold tCm; rw [if_pos c_6]; unfold tMe; rw [← es1, ← es2]; rw [if_neg (by rw [c_31]; decide)]; exact ⟨ha187.1.to (fun j _ _ => by unfold zU; split <;> first | rfl | (next e => rw [e])), ha187.2⟩)⟩)
    · skip
      refine z_iload_n 0 O dX6_readCommand_34 rfl ?_
      refine z_goto 45 O dX6_readCommand_35 (by decide) ?_
      refine z_iast O dX6_readCommand_45 hR182.1 ⟨by omega, by omega⟩ (by omega) (by omega) (fun H190 hA191 hC192 => ?_)
      have hf193 := hR182.ch hC192
      have ha194 : zA (zEn x) H190 r 100002 (Q 2) 4086 (zU R 32 v2) := ⟨hA191, hR182.2⟩
      have ho195 := ho180.fr hf193 (zT1 (by omega))
      have hT196 := hT181.fr hf193 (zT1 (by omega))
      exact z_iretv O dX6_readCommand_46 rfl (by omega) (by omega) hpo (⟨(((((hf172.up (fun s h => by first | exact h.elim | omega | (simp at h ⊢; omega)))).tr (hf179.up (fun s h => by first | exact h.elim | omega | (simp at h ⊢; omega))))).tr (hf193.up (fun s h => by first | exact h.elim | omega | (simp at h ⊢; omega)))), (by unfold tCm; rw [if_pos c_6]; unfold tMe; rw [← es1, ← es2]; exact ho195), (by unfold tCm; rw [if_pos c_6]; unfold tMe; rw [← es1, ← es2]; rw [if_pos c_31, ← ev2]; exact ha194)⟩)

theorem c_X6_readText {E : zE} (hst : E.1.stackTraces = false) {H : Heap} {r : zH} {q : Nat} {Q : Nat → Nat} {rf n : Int} {sp : Int} {gd : Bool} {lo fi ac : Int} {tx : Int → Int} {R : Int → Int} (hO : zMo E H r q Q rf n sp gd lo fi ac) (hT : zA E H r 100001 (Q 1) 120 tx) (hR : zA E H r 100002 (Q 2) 4086 R) (hx : ∀ j : Int, 0 ≤ j → j < n → 0 ≤ tx j ∧ tx j ≤ 255) (hn : 0 ≤ n ∧ n ≤ 120) : zC E yX6_readText cX6_readText 1 (some .int) 8 177 [.ref q] H 0 0 (zRi (if (tAll n tx).1.1 = true then -1 else (tAll n tx).1.2) (fun H1 => zFr H r H1 r (fun s => s = 100000 ∨ s = 100002) ∧ zMo E H1 r q Q rf n (tAll n tx).1.2 (tAll n tx).1.1 (tAll n tx).2.1 fi ac ∧ zA E H1 r 100002 (Q 2) 4086 (tAll n tx).2.2)) zN := by
  refine zC.of (by decide) (Nat.le_of_ble_eq_true rfl) hst ?_
  intro x O hE hpo hpx
  subst hE
  change zG x H 0 0 0 [(0, .ref q)] []
  refine z_aload_n 0 O dX6_readText_0 rfl ?_
  refine z_iconst 0 O dX6_readText_1 (by decide +kernel) ?_
  refine z_putf kP_X6_122 O (fun h => nomatch h) dX6_readText_2 hO.1 rfl rfl (Nat.le_of_ble_eq_true rfl) (fun H1 hO2 hC3 => ?_)
  have hf4 := hO.ch hC3
  have ho5 : zO (zEn x) H1 r 100000 q 6 [.int (iI rf), .ref (Q 1), .int (iI n), .int (iI 0), .int (iI (zb gd)), .int (iI lo), .ref (Q 2), .ref (Q 3), .ref (Q 4), .ref (Q 5), .ref (Q 6), .ref (Q 7), .ref (Q 8), .int (iI fi), .int (iI ac), .ref (Q 9), .ref (Q 10)] := ⟨hO2, hO.2⟩
  have hT6 := hT.fr hf4 (zT1 (by omega))
  have hR7 := hR.fr hf4 (zT1 (by omega))
  refine z_aload_n 0 O dX6_readText_5 rfl ?_
  refine z_iconst 1 O dX6_readText_6 (by decide +kernel) ?_
  refine z_putf kP_X6_125 O (fun h => nomatch h) dX6_readText_7 ho5.1 (by decide +kernel) rfl (Nat.le_of_ble_eq_true rfl) (fun H8 hO9 hC10 => ?_)
  have hf11 := ho5.ch hC10
  have ho12 : zO (zEn x) H8 r 100000 q 6 [.int (iI rf), .ref (Q 1), .int (iI n), .int (iI 0), .int (iI 1), .int (iI lo), .ref (Q 2), .ref (Q 3), .ref (Q 4), .ref (Q 5), .ref (Q 6), .ref (Q 7), .ref (Q 8), .int (iI fi), .int (iI ac), .ref (Q 9), .ref (Q 10)] := ⟨hO9, ho5.2⟩
  have hT13 := hT6.fr hf11 (zT1 (by omega))
  have hR14 := hR7.fr hf11 (zT1 (by omega))
  refine z_aload_n 0 O dX6_readText_10 rfl ?_
  refine z_iconst 0 O dX6_readText_11 (by decide +kernel) ?_
  refine z_putf kP_X6_138 O (fun h => nomatch h) dX6_readText_12 ho12.1 rfl rfl (Nat.le_of_ble_eq_true rfl) (fun H15 hO16 hC17 => ?_)
  have hf18 := ho12.ch hC17
  have ho19 : zO (zEn x) H15 r 100000 q 6 [.int (iI rf), .ref (Q 1), .int (iI n), .int (iI 0), .int (iI 1), .int (iI 0), .ref (Q 2), .ref (Q 3), .ref (Q 4), .ref (Q 5), .ref (Q 6), .ref (Q 7), .ref (Q 8), .int (iI fi), .int (iI ac), .ref (Q 9), .ref (Q 10)] := ⟨hO16, ho12.2⟩
  have hT20 := hT13.fr hf18 (zT1 (by omega))
  have hR21 := hR14.fr hf18 (zT1 (by omega))
  refine z_aload_n 0 O dX6_readText_15 rfl ?_
  refine z_getf kF_X6_13 O dX6_readText_16 ho19.1 rfl ?_
  refine z_Svm [.ref (Q 2)] [] kM_X6_41 O dX6_readText_19 (c_X6_clean hst hR21 ) rfl rfl (by decide) (Nat.le_of_ble_eq_true rfl) (by omega) (by omega) (Nat.le_of_ble_eq_true rfl) zNx (fun H22 hp23 hz24 => ?_)
  obtain ⟨hf25, ha26⟩ := hp23
  have ho27 := ho19.fr hf25 (zT1 (by omega))
  have hT28 := hT20.fr hf25 (zT1 (by omega))
  obtain ⟨s0, es0⟩ : ∃ z : zP, z = (true, 0) := ⟨_, rfl⟩
  have ho29 : zMo (zEn x) H22 r q Q rf n s0.2 s0.1 0 fi ac := by rw [es0]; exact ho27
  have hs0 : 0 ≤ s0.2 ∧ s0.2 ≤ n := by rw [es0]; exact ⟨Int.le_refl 0, hn.1⟩
  refine z_aload_n 0 O dX6_readText_22 rfl ?_
  refine z_aload_n 0 O dX6_readText_23 rfl ?_
  refine z_bipush 87 O dX6_readText_24 (by decide +kernel) ?_
  refine z_Vi [.int (iI 87)] [.ref q] kM_X6_187 O dX6_readText_26 (c_X6_isNext hst ho29 hT28 hx hn hs0 ⟨by omega, by omega⟩) rfl rfl ho29.1 (by decide) (Nat.le_of_ble_eq_true rfl) (by omega) (by omega) (Nat.le_of_ble_eq_true rfl) zNx ?_
  refine z_Vvm [.int (iI (zb (tNx n s0.2 87 tx)))] [] kM_X6_131 O dX6_readText_29 (c_X6_accept hst (b := (tNx n s0.2 87 tx)) ho29 hn hs0) rfl rfl ho29.1 (by decide) (Nat.le_of_ble_eq_true rfl) (by omega) (by omega) (Nat.le_of_ble_eq_true rfl) zNx (fun H30 hp31 hz32 => ?_)
  obtain ⟨hf33, ho34⟩ := hp31
  have hT35 := hT28.fr hf33 (zT1 (by omega))
  have ha36 := ha26.fr hf33 (zT1 (by omega))
  have hs1 := tAc_R (b := (tNx n s0.2 87 tx)) (n := n) hs0 (fun e => (tNx_t.mp e).1)
  obtain ⟨s1, es1⟩ : ∃ z, z = tAc (tNx n s0.2 87 tx) s0 := ⟨_, rfl⟩
  rw [← es1] at hs1
  rw [← es1] at ho34
  have loop : ∀ (d : Nat) (S : zT) (H' : Heap), (0 ≤ S.1.2 ∧ S.1.2 ≤ n) → (S.1.1 = true → n - S.1.2 ≤ d) → (S.1.1 = true → sW S.2.2 (120 - d)) → (d ≤ 120) → (tRn d n tx S = tAll n tx) → (zFr H r H' r (fun s => s = 100000 ∨ s = 100002)) → (zMo (zEn x) H' r q Q rf n S.1.2 S.1.1 S.2.1 fi ac) → (zA (zEn x) H' r 100001 (Q 1) 120 tx) → (zA (zEn x) H' r 100002 (Q 2) 4086 S.2.2) → zG x H' 0 0 32 [(0, .ref q)] [] := by
    intro d
    induction d with
    | zero =>
      intro S H' hs' hd hG' hd2 hR' hf' hO' hT' hR''
      refine z_aload_n 0 O dX6_readText_32 rfl ?_
      refine z_getf kF_X6_125 O dX6_readText_33 hO'.1 rfl ?_
      refine z_ifb_eq 57 O dX6_readText_36 (by decide) (fun c_36 => ?_) (fun c_36 => ?_)
      · skip
        have hE : S = tAll n tx := by rw [← hR']; first | rfl | (show _ = if _ then _ else _; rw [if_neg (fun a => by first | (rw [c_36] at a; exact absurd a.1 (by decide)) | omega)])
        refine z_aload_n 0 O dX6_readText_57 rfl ?_
        refine z_getf kF_X6_125 O dX6_readText_58 hO'.1 rfl ?_
        refine z_ifb_eq 68 O dX6_readText_61 (by decide) (fun c_61 => ?_) (fun c_61 => ?_)
        · skip
          refine z_aload_n 0 O dX6_readText_68 rfl ?_
          refine z_getf kF_X6_122 O dX6_readText_69 hO'.1 rfl ?_
          exact z_ireti O dX6_readText_72 rfl (by omega) (by omega) hpo (by rw [← hE]; rw [if_neg (by rw [c_61]; decide)]) (⟨(hf'.up (fun s h => by first | exact h.elim | omega | (simp at h ⊢; omega))), (by rw [← hE]; exact hO'), (by rw [← hE]; exact hR'')⟩)
        · exfalso; exact absurd (c_36.symm.trans c_61) (by decide)
      · skip
        refine z_aload_n 0 O dX6_readText_39 rfl ?_
        refine z_getf kF_X6_122 O dX6_readText_40 hO'.1 rfl ?_
        refine z_aload_n 0 O dX6_readText_43 rfl ?_
        refine z_getf kF_X6_115 O dX6_readText_44 hO'.1 rfl ?_
        have hdd := hd c_36
        refine z_icmp_ge 57 O dX6_readText_47 (by decide) ⟨by omega, by omega⟩ ⟨by omega, by omega⟩ (fun c_47 => ?_) (fun c_47 => ?_)
        · skip
          have hE : S = tAll n tx := by rw [← hR']; first | rfl | (show _ = if _ then _ else _; rw [if_neg (fun a => by first | (rw [c_36] at a; exact absurd a.1 (by decide)) | omega)])
          refine z_aload_n 0 O dX6_readText_57 rfl ?_
          refine z_getf kF_X6_125 O dX6_readText_58 hO'.1 rfl ?_
          refine z_ifb_eq 68 O dX6_readText_61 (by decide) (fun c_61 => ?_) (fun c_61 => ?_)
          · exfalso; exact absurd (c_36.symm.trans c_61) (by decide)
          · skip
            refine z_iconst (-1) O dX6_readText_64 (by decide +kernel) ?_
            refine z_goto 72 O dX6_readText_65 (by decide) ?_
            exact z_ireti O dX6_readText_72 rfl (by omega) (by omega) hpo (by rw [← hE]; rw [if_pos c_61]) (⟨(hf'.up (fun s h => by first | exact h.elim | omega | (simp at h ⊢; omega))), (by rw [← hE]; exact hO'), (by rw [← hE]; exact hR'')⟩)
        · exfalso; omega
    | succ d ih =>
      intro S H' hs' hd hG' hd2 hR' hf' hO' hT' hR''
      refine z_aload_n 0 O dX6_readText_32 rfl ?_
      refine z_getf kF_X6_125 O dX6_readText_33 hO'.1 rfl ?_
      refine z_ifb_eq 57 O dX6_readText_36 (by decide) (fun c_36 => ?_) (fun c_36 => ?_)
      · skip
        have hE : S = tAll n tx := by rw [← hR']; first | rfl | (show _ = if _ then _ else _; rw [if_neg (fun a => by first | (rw [c_36] at a; exact absurd a.1 (by decide)) | omega)])
        refine z_aload_n 0 O dX6_readText_57 rfl ?_
        refine z_getf kF_X6_125 O dX6_readText_58 hO'.1 rfl ?_
        refine z_ifb_eq 68 O dX6_readText_61 (by decide) (fun c_61 => ?_) (fun c_61 => ?_)
        · skip
          refine z_aload_n 0 O dX6_readText_68 rfl ?_
          refine z_getf kF_X6_122 O dX6_readText_69 hO'.1 rfl ?_
          exact z_ireti O dX6_readText_72 rfl (by omega) (by omega) hpo (by rw [← hE]; rw [if_neg (by rw [c_61]; decide)]) (⟨(hf'.up (fun s h => by first | exact h.elim | omega | (simp at h ⊢; omega))), (by rw [← hE]; exact hO'), (by rw [← hE]; exact hR'')⟩)
        · exfalso; exact absurd (c_36.symm.trans c_61) (by decide)
      · skip
        refine z_aload_n 0 O dX6_readText_39 rfl ?_
        refine z_getf kF_X6_122 O dX6_readText_40 hO'.1 rfl ?_
        refine z_aload_n 0 O dX6_readText_43 rfl ?_
        refine z_getf kF_X6_115 O dX6_readText_44 hO'.1 rfl ?_
        have hdd := hd c_36
        refine z_icmp_ge 57 O dX6_readText_47 (by decide) ⟨by omega, by omega⟩ ⟨by omega, by omega⟩ (fun c_47 => ?_) (fun c_47 => ?_)
        · skip
          have hE : S = tAll n tx := by rw [← hR']; first | rfl | (show _ = if _ then _ else _; rw [if_neg (fun a => by first | (rw [c_36] at a; exact absurd a.1 (by decide)) | omega)])
          refine z_aload_n 0 O dX6_readText_57 rfl ?_
          refine z_getf kF_X6_125 O dX6_readText_58 hO'.1 rfl ?_
          refine z_ifb_eq 68 O dX6_readText_61 (by decide) (fun c_61 => ?_) (fun c_61 => ?_)
          · exfalso; exact absurd (c_36.symm.trans c_61) (by decide)
          · skip
            refine z_iconst (-1) O dX6_readText_64 (by decide +kernel) ?_
            refine z_goto 72 O dX6_readText_65 (by decide) ?_
            exact z_ireti O dX6_readText_72 rfl (by omega) (by omega) hpo (by rw [← hE]; rw [if_pos c_61]) (⟨(hf'.up (fun s h => by first | exact h.elim | omega | (simp at h ⊢; omega))), (by rw [← hE]; exact hO'), (by rw [← hE]; exact hR'')⟩)
        · skip
          refine z_aload_n 0 O dX6_readText_50 rfl ?_
          refine z_Vvm [] [] kM_X6_203 O dX6_readText_51 (c_X6_readCommand hst hO' hT' hR'' hx hn (s := S.1) hs' (by omega) (hG' c_36) (by omega)) rfl rfl hO'.1 (by decide) (Nat.le_of_ble_eq_true rfl) (by omega) (by omega) (Nat.le_of_ble_eq_true rfl) zNx (fun H37 hp38 hz39 => ?_)
          obtain ⟨hf40, ho41, ha42⟩ := hp38
          have hT43 := hT'.fr hf40 (by show ¬ (_ ∨ _); omega)
          refine z_goto 32 O dX6_readText_54 (by decide) ?_
          have hI := tCm_I (n := n) (tx := tx) (lo := S.2.1) ⟨hs'.1, by omega⟩ (hG' c_36) (by omega)
          have hR3 : tRn d n tx (tCm n tx S.1 S.2.1 S.2.2) = tAll n tx := by rw [← hR']; show _ = if _ then _ else _; rw [if_pos ⟨c_36, by omega⟩]
          have hG3 := hI.2.2; rw [show (120 : Int) - ((d + 1 : Nat) : Int) + 1 = 120 - (d : Int) by omega] at hG3
          exact ih (tCm n tx S.1 S.2.1 S.2.2) H37 hI.1 (fun e => by have := hI.2.1 e; have := hd c_36; omega) (fun _ => hG3) (by omega) hR3 (((hf'.up (fun s h => by first | exact h.elim | omega | (simp at h ⊢; omega)))).tr (hf40.up (fun s h => by first | exact h.elim | omega | (simp at h ⊢; omega)))) ho41 hT43 ha42
  exact loop 120 (s1, 0, sClean) H30 hs1 (fun _ => by show n - s1.2 ≤ _; omega) (fun _ => (show sW sClean (120 - (120 : Nat)) from sW_clean)) (by omega) (by unfold tAll; rw [es1, es0]) (((((((((hf4.up (fun s h => by first | exact h.elim | omega | (simp at h ⊢; omega)))).tr (hf11.up (fun s h => by first | exact h.elim | omega | (simp at h ⊢; omega))))).tr (hf18.up (fun s h => by first | exact h.elim | omega | (simp at h ⊢; omega))))).tr (hf25.up (fun s h => by first | exact h.elim | omega | (simp at h ⊢; omega))))).tr (hf33.up (fun s h => by first | exact h.elim | omega | (simp at h ⊢; omega)))) ho34 hT35 ha36
