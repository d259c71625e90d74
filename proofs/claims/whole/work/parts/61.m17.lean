/-! the reference: scripts and simulations (written by program: wip/whole/gen/model6.py) -/
theorem c_X6_does {E : zE} (hst : E.1.stackTraces = false) {H : Heap} {r : zH} {q : Nat} {Q : Nat → Nat} {rf n sp : Int} {gd : Bool} {lo fi ac : Int} {K : Int → Int} {N : Int} {g : Int} (hO : zMo E H r q Q rf n sp gd lo fi ac) (hY : zA E H r 100004 (Q 4) 4086 K) (hG : sW K N) (hN : N ≤ 639) (hg : 0 ≤ g ∧ g < 100000) : zC E yX6_does cX6_does 6 (some .boolean) 7 154 [.ref q, .int (iI g)] H 0 0 (zRi (zb (sDo K g)) (fun H1 => zFr H r H1 r (fun s => s = 100004) ∧ zA E H1 r 100004 (Q 4) 4086 (sDn_ K g))) zN := by
  refine zC.of (by decide) (Nat.le_of_ble_eq_true rfl) hst ?_
  intro x O hE hpo hpx
  subst hE
  change zG x H 0 0 0 [(0, .ref q), (1, .int (iI g))] []
  refine z_iload_n 1 O dX6_does_0 rfl ?_
  refine z_sipush 10000 O dX6_does_1 (by decide +kernel) ?_
  refine z_idiv O dX6_does_4 ⟨by omega, by omega⟩ ⟨by omega, by omega⟩ (by omega) (by omega) ?_
  refine z_istore_n [(2, .int (iI (g / 10000))), (0, .ref q), (1, .int (iI g))] O dX6_does_5 (by decide) rfl ?_
  refine z_iload_n 2 O dX6_does_6 rfl ?_
  refine z_sipush 1000 O dX6_does_7 (by decide +kernel) ?_
  refine z_idiv O dX6_does_10 ⟨by omega, by omega⟩ ⟨by omega, by omega⟩ (by omega) (by omega) ?_
  refine z_bipush 10 O dX6_does_11 (by decide +kernel) ?_
  refine z_irem O dX6_does_13 ⟨by omega, by omega⟩ ⟨by omega, by omega⟩ (by omega) (by omega) ?_
  refine z_istore_n [(3, .int (iI ((g / 1000) % 10))), (2, .int (iI (g / 10000))), (0, .ref q), (1, .int (iI g))] O dX6_does_14 (by decide) rfl ?_
  refine z_iload_n 3 O dX6_does_15 rfl ?_
  refine z_bipush 10 O dX6_does_16 (by decide +kernel) ?_
  refine z_idiv O dX6_does_18 ⟨by omega, by omega⟩ ⟨by omega, by omega⟩ (by omega) (by omega) ?_
  refine z_bipush 100 O dX6_does_19 (by decide +kernel) ?_
  refine z_irem O dX6_does_21 ⟨by omega, by omega⟩ ⟨by omega, by omega⟩ (by omega) (by omega) ?_
  refine z_istore [(4, .int (iI ((g / 10) % 100))), (3, .int (iI ((g / 1000) % 10))), (2, .int (iI (g / 10000))), (0, .ref q), (1, .int (iI g))] O dX6_does_22 (by decide) rfl ?_
  refine z_iload_n 4 O dX6_does_24 rfl ?_
  refine z_bipush 10 O dX6_does_25 (by decide +kernel) ?_
  refine z_irem O dX6_does_27 ⟨by omega, by omega⟩ ⟨by omega, by omega⟩ (by omega) (by omega) ?_
  refine z_istore [(5, .int (iI (g % 10))), (4, .int (iI ((g / 10) % 100))), (3, .int (iI ((g / 1000) % 10))), (2, .int (iI (g / 10000))), (0, .ref q), (1, .int (iI g))] O dX6_does_28 (by decide) rfl ?_
  refine z_iload_n 2 O dX6_does_30 rfl ?_
  refine z_iconst 3 O dX6_does_31 (by decide +kernel) ?_
  refine z_icmp_ge 44 O dX6_does_32 (by decide) ⟨by omega, by omega⟩ ⟨by omega, by omega⟩ (fun c_32 => ?_) (fun c_32 => ?_)
  · skip
    refine z_iconst 0 O dX6_does_44 (by decide +kernel) ?_
    exact z_iretb O dX6_does_45 rfl (by omega) (by omega) hpo (by rw [show sDo K g = false from by unfold sDo gC gW gX gV; (repeat first | rw [if_pos (by omega)] | rw [if_neg (by omega)]); first | done | rfl | exact decide_eq_true (by omega) | exact decide_eq_false (by omega) | (rw [decide_eq_false (by omega)]; rfl) | rw [decide_eq_false (by omega), Bool.false_and]]; rfl) (⟨zFr.rf, (by unfold sDn_ gC gW gX gV; (repeat first | rw [if_pos (by omega)] | rw [if_neg (by omega)]); exact hY)⟩)
  · skip
    refine z_iload_n 3 O dX6_does_35 rfl ?_
    refine z_iconst 5 O dX6_does_36 (by decide +kernel) ?_
    refine z_icmp_ne 46 O dX6_does_37 (by decide) ⟨by omega, by omega⟩ ⟨by omega, by omega⟩ (fun c_37 => ?_) (fun c_37 => ?_)
    · skip
      refine z_iload_n 3 O dX6_does_46 rfl ?_
      rcases (show (g / 10000) = 1 ∨ (g / 10000) = 2 ∨ (g / 10000) = 3 ∨ (g / 10000) = 4 ∨ (g / 10000) = 5 ∨ (g / 10000) = 6 ∨ (g / 10000) = 7 ∨ (g / 10000) = 8 ∨ (g / 10000) = 9 ∨ ((g / 10000) < 1 ∨ 9 < (g / 10000)) by omega) with c_47 | c_47 | c_47 | c_47 | c_47 | c_47 | c_47 | c_47 | c_47 | c_47
      · skip
        refine z_tsw 0 96 O dX6_does_47 ⟨by omega, by omega⟩ (by omega) (by decide) rfl (by decide) ?_
        refine z_iload 1 O dX6_does_96 rfl ?_
        refine z_if_ne 115 O dX6_does_98 (by decide) ⟨by omega, by omega⟩ (fun c_98 => ?_) (fun c_98 => ?_)
        · skip
          refine z_iconst 0 O dX6_does_115 (by decide +kernel) ?_
          exact z_iretb O dX6_does_116 rfl (by omega) (by omega) hpo (by rw [show sDo K g = false from by unfold sDo gC gW gX gV; (repeat first | rw [if_pos (by omega)] | rw [if_neg (by omega)]); first | done | rfl | exact decide_eq_true (by omega) | exact decide_eq_false (by omega) | (rw [decide_eq_false (by omega)]; rfl) | rw [decide_eq_false (by omega), Bool.false_and]]; rfl) (⟨zFr.rf, (by unfold sDn_ gC gW gX gV; (repeat first | rw [if_pos (by omega)] | rw [if_neg (by omega)]); rw [decide_eq_false (by omega), Bool.false_and]; exact hY)⟩)
        · skip
          refine z_aload_n 4 O dX6_does_101 rfl ?_
          refine z_iload_n 2 O dX6_does_102 rfl ?_
          refine z_iload 0 O dX6_does_103 rfl ?_
          refine z_Vim [.int (iI ((g / 1000) % 10)), .int (iI (g % 10))] [] kM_X6_255 O dX6_does_105 (c_X6_bare hst hO hY hG hN ⟨by omega, by omega⟩ ⟨by omega, by omega⟩) rfl rfl hO.1 (by decide) (Nat.le_of_ble_eq_true rfl) (by omega) (by omega) (Nat.le_of_ble_eq_true rfl) zNx (fun H1 hp2 hz3 => ?_)
          obtain ⟨hf4, hz5⟩ := hp2
          have hO6 := hO.fr hf4 (by first | exact zT1 (by omega) | (show ¬ (_ ∨ _); omega) | (show ¬ (_ ∧ _); omega))
          refine z_ifb_eq 115 O dX6_does_108 (by decide) (fun c_108 => ?_) (fun c_108 => ?_)
          · skip
            refine z_iconst 0 O dX6_does_115 (by decide +kernel) ?_
            exact z_iretb O dX6_does_116 rfl (by omega) (by omega) hpo (by rw [show sDo K g = false from by unfold sDo gC gW gX gV; (repeat first | rw [if_pos (by omega)] | rw [if_neg (by omega)] | rw [if_neg (by rw [c_108]; decide)]); first | done | rfl | exact decide_eq_true (by omega) | exact decide_eq_false (by omega) | exact c_108 | (rw [decide_eq_true (by omega), c_108]; rfl) | (rw [decide_eq_true (by omega), c_108]) | (rw [decide_eq_false (by omega)]; rfl) | rw [decide_eq_false (by omega), Bool.false_and]]; rfl) (⟨(hf4.up (fun s h => by first | exact h.elim | omega | (simp at h ⊢; omega))), (by unfold sDn_ gC gW gX gV; (repeat first | rw [if_pos (by omega)] | rw [if_neg (by omega)] | rw [if_neg (by rw [c_108]; decide)]); rw [decide_eq_true (by omega), Bool.true_and]; exact hz5)⟩)
          · skip
            refine z_iconst 1 O dX6_does_111 (by decide +kernel) ?_
            refine z_goto 116 O dX6_does_112 (by decide) ?_
            exact z_iretb O dX6_does_116 rfl (by omega) (by omega) hpo (by rw [show sDo K g = true from by unfold sDo gC gW gX gV; (repeat first | rw [if_pos (by omega)] | rw [if_neg (by omega)] | rw [if_pos c_108]); first | done | rfl | exact decide_eq_true (by omega) | exact decide_eq_false (by omega) | exact c_108 | (rw [decide_eq_true (by omega), c_108]; rfl) | (rw [decide_eq_true (by omega), c_108]) | (rw [decide_eq_false (by omega)]; rfl) | rw [decide_eq_false (by omega), Bool.false_and]]; rfl) (⟨(hf4.up (fun s h => by first | exact h.elim | omega | (simp at h ⊢; omega))), (by unfold sDn_ gC gW gX gV; (repeat first | rw [if_pos (by omega)] | rw [if_neg (by omega)] | rw [if_pos c_108]); rw [decide_eq_true (by omega), Bool.true_and]; exact hz5)⟩)
      · skip
        refine z_tsw 1 117 O dX6_does_47 ⟨by omega, by omega⟩ (by omega) (by decide) rfl (by decide) ?_
        refine z_aload_n 4 O dX6_does_117 rfl ?_
        refine z_iload_n 2 O dX6_does_118 rfl ?_
        refine z_iload 1 O dX6_does_119 rfl ?_
        refine z_iload 0 O dX6_does_121 rfl ?_
        refine z_Vim [.int (iI ((g / 1000) % 10)), .int (iI ((g / 10) % 100)), .int (iI (g % 10))] [] kM_X6_259 O dX6_does_123 (c_X6_writes hst hO hY hG hN ⟨by omega, by omega⟩ ⟨by omega, by omega⟩) rfl rfl hO.1 (by decide) (Nat.le_of_ble_eq_true rfl) (by omega) (by omega) (Nat.le_of_ble_eq_true rfl) zNx (fun H7 hp8 hz9 => ?_)
        obtain ⟨hf10, hz11⟩ := hp8
        have hO12 := hO.fr hf10 (by first | exact zT1 (by omega) | (show ¬ (_ ∨ _); omega) | (show ¬ (_ ∧ _); omega))
        exact z_iretb O dX6_does_126 rfl (by omega) (by omega) hpo (by rw [show sDo K g = (uT K ((g / 1000) % 10) ((g / 10) % 100)) from by unfold sDo gC gW gX gV; (repeat first | rw [if_pos (by omega)] | rw [if_neg (by omega)])]) (⟨(hf10.up (fun s h => by first | exact h.elim | omega | (simp at h ⊢; omega))), (by unfold sDn_ gC gW gX gV; (repeat first | rw [if_pos (by omega)] | rw [if_neg (by omega)]); exact hz11)⟩)
      · skip
        refine z_tsw 2 127 O dX6_does_47 ⟨by omega, by omega⟩ (by omega) (by decide) rfl (by decide) ?_
        refine z_iload 1 O dX6_does_127 rfl ?_
        refine z_if_ne 146 O dX6_does_129 (by decide) ⟨by omega, by omega⟩ (fun c_129 => ?_) (fun c_129 => ?_)
        · skip
          refine z_iconst 0 O dX6_does_146 (by decide +kernel) ?_
          exact z_iretb O dX6_does_147 rfl (by omega) (by omega) hpo (by rw [show sDo K g = false from by unfold sDo gC gW gX gV; (repeat first | rw [if_pos (by omega)] | rw [if_neg (by omega)]); first | done | rfl | exact decide_eq_true (by omega) | exact decide_eq_false (by omega) | (rw [decide_eq_false (by omega)]; rfl) | rw [decide_eq_false (by omega), Bool.false_and]]; rfl) (⟨zFr.rf, (by unfold sDn_ gC gW gX gV; (repeat first | rw [if_pos (by omega)] | rw [if_neg (by omega)]); rw [decide_eq_false (by omega), Bool.false_and]; exact hY)⟩)
        · skip
          refine z_aload_n 4 O dX6_does_132 rfl ?_
          refine z_iload_n 2 O dX6_does_133 rfl ?_
          refine z_iload 0 O dX6_does_134 rfl ?_
          refine z_Vim [.int (iI ((g / 1000) % 10)), .int (iI (g % 10))] [] kM_X6_263 O dX6_does_136 (c_X6_goesBack hst hO hY hG hN ⟨by omega, by omega⟩ ⟨by omega, by omega⟩) rfl rfl hO.1 (by decide) (Nat.le_of_ble_eq_true rfl) (by omega) (by omega) (Nat.le_of_ble_eq_true rfl) zNx (fun H13 hp14 hz15 => ?_)
          obtain ⟨hf16, hz17⟩ := hp14
          have hO18 := hO.fr hf16 (by first | exact zT1 (by omega) | (show ¬ (_ ∨ _); omega) | (show ¬ (_ ∧ _); omega))
          refine z_ifb_eq 146 O dX6_does_139 (by decide) (fun c_139 => ?_) (fun c_139 => ?_)
          · skip
            refine z_iconst 0 O dX6_does_146 (by decide +kernel) ?_
            exact z_iretb O dX6_does_147 rfl (by omega) (by omega) hpo (by rw [show sDo K g = false from by unfold sDo gC gW gX gV; (repeat first | rw [if_pos (by omega)] | rw [if_neg (by omega)] | rw [if_neg (by rw [c_139]; decide)]); first | done | rfl | exact decide_eq_true (by omega) | exact decide_eq_false (by omega) | exact c_139 | (rw [decide_eq_true (by omega), c_139]; rfl) | (rw [decide_eq_true (by omega), c_139]) | (rw [decide_eq_false (by omega)]; rfl) | rw [decide_eq_false (by omega), Bool.false_and]]; rfl) (⟨(hf16.up (fun s h => by first | exact h.elim | omega | (simp at h ⊢; omega))), (by unfold sDn_ gC gW gX gV; (repeat first | rw [if_pos (by omega)] | rw [if_neg (by omega)] | rw [if_neg (by rw [c_139]; decide)]); rw [decide_eq_true (by omega), Bool.true_and]; exact hz17)⟩)
          · skip
            refine z_iconst 1 O dX6_does_142 (by decide +kernel) ?_
            refine z_goto 147 O dX6_does_143 (by decide) ?_
            exact z_iretb O dX6_does_147 rfl (by omega) (by omega) hpo (by rw [show sDo K g = true from by unfold sDo gC gW gX gV; (repeat first | rw [if_pos (by omega)] | rw [if_neg (by omega)] | rw [if_pos c_139]); first | done | rfl | exact decide_eq_true (by omega) | exact decide_eq_false (by omega) | exact c_139 | (rw [decide_eq_true (by omega), c_139]; rfl) | (rw [decide_eq_true (by omega), c_139]) | (rw [decide_eq_false (by omega)]; rfl) | rw [decide_eq_false (by omega), Bool.false_and]]; rfl) (⟨(hf16.up (fun s h => by first | exact h.elim | omega | (simp at h ⊢; omega))), (by unfold sDn_ gC gW gX gV; (repeat first | rw [if_pos (by omega)] | rw [if_neg (by omega)] | rw [if_pos c_139]); rw [decide_eq_true (by omega), Bool.true_and]; exact hz17)⟩)
      · skip
        refine z_tsw 3 148 O dX6_does_47 ⟨by omega, by omega⟩ (by omega) (by decide) rfl (by decide) ?_
        refine z_aload_n 4 O dX6_does_148 rfl ?_
        refine z_iload_n 2 O dX6_does_149 rfl ?_
        refine z_iload 1 O dX6_does_150 rfl ?_
        refine z_iload 0 O dX6_does_152 rfl ?_
        refine z_Vim [.int (iI ((g / 1000) % 10)), .int (iI ((g / 10) % 100)), .int (iI (g % 10))] [] kM_X6_266 O dX6_does_154 (c_X6_regrets hst hO hY hG hN ⟨by omega, by omega⟩ ⟨by omega, by omega⟩ ⟨by omega, by omega⟩) rfl rfl hO.1 (by decide) (Nat.le_of_ble_eq_true rfl) (by omega) (by omega) (Nat.le_of_ble_eq_true rfl) zNx (fun H19 hp20 hz21 => ?_)
        obtain ⟨hf22, hz23⟩ := hp20
        have hO24 := hO.fr hf22 (by first | exact zT1 (by omega) | (show ¬ (_ ∨ _); omega) | (show ¬ (_ ∧ _); omega))
        exact z_iretb O dX6_does_157 rfl (by omega) (by omega) hpo (by rw [show sDo K g = (rT K ((g / 1000) % 10) ((g / 10) % 100) (g % 10)) from by unfold sDo gC gW gX gV; (repeat first | rw [if_pos (by omega)] | rw [if_neg (by omega)])]) (⟨(hf22.up (fun s h => by first | exact h.elim | omega | (simp at h ⊢; omega))), (by unfold sDn_ gC gW gX gV; (repeat first | rw [if_pos (by omega)] | rw [if_neg (by omega)]); exact hz23)⟩)
      · exfalso; omega
      · skip
        refine z_tsw 5 184 O dX6_does_47 ⟨by omega, by omega⟩ (by omega) (by decide) rfl (by decide) ?_
        refine z_iload 1 O dX6_does_184 rfl ?_
        refine z_Si [.int (iI ((g / 10) % 100))] [] kM_X6_226 O dX6_does_186 (c_X6_isCell hst ⟨by omega, by omega⟩) rfl rfl (by decide) (Nat.le_of_ble_eq_true rfl) (by omega) (by omega) (Nat.le_of_ble_eq_true rfl) zNx ?_
        refine z_ifb_eq 217 O dX6_does_189 (by decide) (fun c_189 => ?_) (fun c_189 => ?_)
        · skip
          have k_189 := sBt_f.mp c_189
          refine z_iconst 0 O dX6_does_217 (by decide +kernel) ?_
          exact z_iretb O dX6_does_218 rfl (by omega) (by omega) hpo (by rw [show sDo K g = false from by unfold sDo gC gW gX gV; (repeat first | rw [if_pos (by omega)] | rw [if_neg (by omega)] | rw [if_neg (by rw [c_189]; decide)]); first | done | rfl | exact decide_eq_true (by omega) | exact decide_eq_false (by omega) | exact c_189 | (rw [decide_eq_true (by omega), c_189]; rfl) | (rw [decide_eq_true (by omega), c_189]) | (rw [decide_eq_false (by omega)]; rfl) | rw [decide_eq_false (by omega), Bool.false_and]]; rfl) (⟨zFr.rf, (by unfold sDn_ gC gW gX gV; (repeat first | rw [if_pos (by omega)] | rw [if_neg (by omega)] | rw [if_neg (by rw [c_189]; decide)]); exact hY)⟩)
        · skip
          have k_189 := sBt_t.mp c_189
          refine z_iload 0 O dX6_does_192 rfl ?_
          refine z_if_ne 217 O dX6_does_194 (by decide) ⟨by omega, by omega⟩ (fun c_194 => ?_) (fun c_194 => ?_)
          · skip
            refine z_iconst 0 O dX6_does_217 (by decide +kernel) ?_
            exact z_iretb O dX6_does_218 rfl (by omega) (by omega) hpo (by rw [show sDo K g = false from by unfold sDo gC gW gX gV; (repeat first | rw [if_pos (by omega)] | rw [if_neg (by omega)] | rw [if_pos c_189]); first | done | rfl | exact decide_eq_true (by omega) | exact decide_eq_false (by omega) | exact c_189 | (rw [decide_eq_true (by omega), c_189]; rfl) | (rw [decide_eq_true (by omega), c_189]) | (rw [decide_eq_false (by omega)]; rfl) | rw [decide_eq_false (by omega), Bool.false_and]]; rfl) (⟨zFr.rf, (by unfold sDn_ gC gW gX gV; (repeat first | rw [if_pos (by omega)] | rw [if_neg (by omega)] | rw [if_pos c_189]); exact hY)⟩)
          · skip
            refine z_aload_n 4 O dX6_does_197 rfl ?_
            refine z_getf kF_X6_19 O dX6_does_198 hO.1 rfl ?_
            refine z_bipush 16 O dX6_does_201 (by decide +kernel) ?_
            refine z_iload 1 O dX6_does_203 rfl ?_
            refine z_iadd O dX6_does_205 ?_
            refine z_iald O dX6_does_206 hY.1 ⟨by omega, by omega⟩ (by omega) (by omega) ?_
            refine z_iload_n 2 O dX6_does_207 rfl ?_
            refine z_iconst 1 O dX6_does_208 (by decide +kernel) ?_
            refine z_iadd O dX6_does_209 ?_
            have hv6 := hG.2.2.1 (g / 10 % 100) (by omega) (by omega)
            refine z_icmp_ne 217 O dX6_does_210 (by decide) ⟨by omega, by omega⟩ ⟨by omega, by omega⟩ (fun c_210 => ?_) (fun c_210 => ?_)
            · skip
              refine z_iconst 0 O dX6_does_217 (by decide +kernel) ?_
              exact z_iretb O dX6_does_218 rfl (by omega) (by omega) hpo (by rw [show sDo K g = false from by unfold sDo gC gW gX gV; (repeat first | rw [if_pos (by omega)] | rw [if_neg (by omega)] | rw [if_pos c_189]); first | done | rfl | exact decide_eq_true (by omega) | exact decide_eq_false (by omega) | exact c_189 | (rw [decide_eq_true (by omega), c_189]; rfl) | (rw [decide_eq_true (by omega), c_189]) | (rw [decide_eq_false (by omega)]; rfl) | rw [decide_eq_false (by omega), Bool.false_and]]; rfl) (⟨zFr.rf, (by unfold sDn_ gC gW gX gV; (repeat first | rw [if_pos (by omega)] | rw [if_neg (by omega)] | rw [if_pos c_189]); exact hY)⟩)
            · skip
              refine z_iconst 1 O dX6_does_213 (by decide +kernel) ?_
              refine z_goto 218 O dX6_does_214 (by decide) ?_
              exact z_iretb O dX6_does_218 rfl (by omega) (by omega) hpo (by rw [show sDo K g = true from by unfold sDo gC gW gX gV; (repeat first | rw [if_pos (by omega)] | rw [if_neg (by omega)] | rw [if_pos c_189]); first | done | rfl | exact decide_eq_true (by omega) | exact decide_eq_false (by omega) | exact c_189 | (rw [decide_eq_true (by omega), c_189]; rfl) | (rw [decide_eq_true (by omega), c_189]) | (rw [decide_eq_false (by omega)]; rfl) | rw [decide_eq_false (by omega), Bool.false_and]]; rfl) (⟨zFr.rf, (by unfold sDn_ gC gW gX gV; (repeat first | rw [if_pos (by omega)] | rw [if_neg (by omega)] | rw [if_pos c_189]); exact hY)⟩)
      · skip
        refine z_tsw 6 219 O dX6_does_47 ⟨by omega, by omega⟩ (by omega) (by decide) rfl (by decide) ?_
        refine z_iload 1 O dX6_does_219 rfl ?_
        refine z_if_ne 241 O dX6_does_221 (by decide) ⟨by omega, by omega⟩ (fun c_221 => ?_) (fun c_221 => ?_)
        · skip
          refine z_iconst 0 O dX6_does_241 (by decide +kernel) ?_
          exact z_iretb O dX6_does_242 rfl (by omega) (by omega) hpo (by rw [show sDo K g = false from by unfold sDo gC gW gX gV; (repeat first | rw [if_pos (by omega)] | rw [if_neg (by omega)]); first | done | rfl | exact decide_eq_true (by omega) | exact decide_eq_false (by omega) | (rw [decide_eq_false (by omega)]; rfl) | rw [decide_eq_false (by omega), Bool.false_and]]; rfl) (⟨zFr.rf, (by unfold sDn_ gC gW gX gV; (repeat first | rw [if_pos (by omega)] | rw [if_neg (by omega)]); exact hY)⟩)
        · skip
          refine z_aload_n 4 O dX6_does_224 rfl ?_
          refine z_getf kF_X6_19 O dX6_does_225 hO.1 rfl ?_
          refine z_iload_n 2 O dX6_does_228 rfl ?_
          refine z_Si [.ref (Q 4), .int (iI ((g / 1000) % 10))] [] kM_X6_69 O dX6_does_229 (c_X6_many hst hY ⟨by omega, by omega⟩) rfl rfl (by decide) (Nat.le_of_ble_eq_true rfl) (by omega) (by omega) (Nat.le_of_ble_eq_true rfl) zNx ?_
          refine z_iload 0 O dX6_does_232 rfl ?_
          have hm7 := hG.m (w := g / 1000 % 10) ⟨by omega, by omega⟩
          refine z_icmp_ne 241 O dX6_does_234 (by decide) ⟨by omega, by omega⟩ ⟨by omega, by omega⟩ (fun c_234 => ?_) (fun c_234 => ?_)
          · skip
            refine z_iconst 0 O dX6_does_241 (by decide +kernel) ?_
            exact z_iretb O dX6_does_242 rfl (by omega) (by omega) hpo (by rw [show sDo K g = false from by unfold sDo gC gW gX gV; (repeat first | rw [if_pos (by omega)] | rw [if_neg (by omega)]); first | done | rfl | exact decide_eq_true (by omega) | exact decide_eq_false (by omega) | (rw [decide_eq_false (by omega)]; rfl) | rw [decide_eq_false (by omega), Bool.false_and]]; rfl) (⟨zFr.rf, (by unfold sDn_ gC gW gX gV; (repeat first | rw [if_pos (by omega)] | rw [if_neg (by omega)]); exact hY)⟩)
          · skip
            refine z_iconst 1 O dX6_does_237 (by decide +kernel) ?_
            refine z_goto 242 O dX6_does_238 (by decide) ?_
            exact z_iretb O dX6_does_242 rfl (by omega) (by omega) hpo (by rw [show sDo K g = true from by unfold sDo gC gW gX gV; (repeat first | rw [if_pos (by omega)] | rw [if_neg (by omega)]); first | done | rfl | exact decide_eq_true (by omega) | exact decide_eq_false (by omega) | (rw [decide_eq_false (by omega)]; rfl) | rw [decide_eq_false (by omega), Bool.false_and]]; rfl) (⟨zFr.rf, (by unfold sDn_ gC gW gX gV; (repeat first | rw [if_pos (by omega)] | rw [if_neg (by omega)]); exact hY)⟩)
      · skip
        refine z_tsw 7 243 O dX6_does_47 ⟨by omega, by omega⟩ (by omega) (by decide) rfl (by decide) ?_
        refine z_iload 1 O dX6_does_243 rfl ?_
        refine z_if_ne 268 O dX6_does_245 (by decide) ⟨by omega, by omega⟩ (fun c_245 => ?_) (fun c_245 => ?_)
        · skip
          refine z_iconst 0 O dX6_does_268 (by decide +kernel) ?_
          exact z_iretb O dX6_does_269 rfl (by omega) (by omega) hpo (by rw [show sDo K g = false from by unfold sDo gC gW gX gV; (repeat first | rw [if_pos (by omega)] | rw [if_neg (by omega)]); first | done | rfl | exact decide_eq_true (by omega) | exact decide_eq_false (by omega) | (rw [decide_eq_false (by omega)]; rfl) | rw [decide_eq_false (by omega), Bool.false_and]]; rfl) (⟨zFr.rf, (by unfold sDn_ gC gW gX gV; (repeat first | rw [if_pos (by omega)] | rw [if_neg (by omega)]); exact hY)⟩)
        · skip
          refine z_iload 0 O dX6_does_248 rfl ?_
          refine z_if_ne 268 O dX6_does_250 (by decide) ⟨by omega, by omega⟩ (fun c_250 => ?_) (fun c_250 => ?_)
          · skip
            refine z_iconst 0 O dX6_does_268 (by decide +kernel) ?_
            exact z_iretb O dX6_does_269 rfl (by omega) (by omega) hpo (by rw [show sDo K g = false from by unfold sDo gC gW gX gV; (repeat first | rw [if_pos (by omega)] | rw [if_neg (by omega)]); first | done | rfl | exact decide_eq_true (by omega) | exact decide_eq_false (by omega) | (rw [decide_eq_false (by omega)]; rfl) | rw [decide_eq_false (by omega), Bool.false_and]]; rfl) (⟨zFr.rf, (by unfold sDn_ gC gW gX gV; (repeat first | rw [if_pos (by omega)] | rw [if_neg (by omega)]); exact hY)⟩)
          · skip
            refine z_aload_n 4 O dX6_does_253 rfl ?_
            refine z_getf kF_X6_19 O dX6_does_254 hO.1 rfl ?_
            refine z_iload_n 2 O dX6_does_257 rfl ?_
            refine z_Si [.ref (Q 4), .int (iI ((g / 1000) % 10))] [] kM_X6_81 O dX6_does_258 (c_X6_isSpoiled hst hY hG ⟨by omega, by omega⟩) rfl rfl (by decide) (Nat.le_of_ble_eq_true rfl) (by omega) (by omega) (Nat.le_of_ble_eq_true rfl) zNx ?_
            refine z_ifb_eq 268 O dX6_does_261 (by decide) (fun c_261 => ?_) (fun c_261 => ?_)
            · skip
              have k_261 := sSp_f.mp c_261
              refine z_iconst 0 O dX6_does_268 (by decide +kernel) ?_
              exact z_iretb O dX6_does_269 rfl (by omega) (by omega) hpo (by rw [show sDo K g = false from by unfold sDo gC gW gX gV; (repeat first | rw [if_pos (by omega)] | rw [if_neg (by omega)] | rw [if_neg (by rw [c_261]; decide)]); first | done | rfl | exact decide_eq_true (by omega) | exact decide_eq_false (by omega) | exact c_261 | (rw [decide_eq_true (by omega), c_261]; rfl) | (rw [decide_eq_true (by omega), c_261]) | (rw [decide_eq_false (by omega)]; rfl) | rw [decide_eq_false (by omega), Bool.false_and]]; rfl) (⟨zFr.rf, (by unfold sDn_ gC gW gX gV; (repeat first | rw [if_pos (by omega)] | rw [if_neg (by omega)] | rw [if_neg (by rw [c_261]; decide)]); exact hY)⟩)
            · skip
              have k_261 := sSp_t.mp c_261
              refine z_iconst 1 O dX6_does_264 (by decide +kernel) ?_
              refine z_goto 269 O dX6_does_265 (by decide) ?_
              exact z_iretb O dX6_does_269 rfl (by omega) (by omega) hpo (by rw [show sDo K g = true from by unfold sDo gC gW gX gV; (repeat first | rw [if_pos (by omega)] | rw [if_neg (by omega)] | rw [if_pos c_261]); first | done | rfl | exact decide_eq_true (by omega) | exact decide_eq_false (by omega) | exact c_261 | (rw [decide_eq_true (by omega), c_261]; rfl) | (rw [decide_eq_true (by omega), c_261]) | (rw [decide_eq_false (by omega)]; rfl) | rw [decide_eq_false (by omega), Bool.false_and]]; rfl) (⟨zFr.rf, (by unfold sDn_ gC gW gX gV; (repeat first | rw [if_pos (by omega)] | rw [if_neg (by omega)] | rw [if_pos c_261]); exact hY)⟩)
      · skip
        refine z_tsw 8 270 O dX6_does_47 ⟨by omega, by omega⟩ (by omega) (by decide) rfl (by decide) ?_
        refine z_iload_n 5 O dX6_does_270 rfl ?_
        refine z_bipush 100 O dX6_does_271 (by decide +kernel) ?_
        refine z_idiv O dX6_does_273 ⟨by omega, by omega⟩ ⟨by omega, by omega⟩ (by omega) (by omega) ?_
        refine z_bipush 10 O dX6_does_274 (by decide +kernel) ?_
        refine z_irem O dX6_does_276 ⟨by omega, by omega⟩ ⟨by omega, by omega⟩ (by omega) (by omega) ?_
        refine z_if_ne 301 O dX6_does_277 (by decide) ⟨by omega, by omega⟩ (fun c_277 => ?_) (fun c_277 => ?_)
        · skip
          refine z_iconst 0 O dX6_does_301 (by decide +kernel) ?_
          exact z_iretb O dX6_does_302 rfl (by omega) (by omega) hpo (by rw [show sDo K g = false from by unfold sDo gC gW gX gV; (repeat first | rw [if_pos (by omega)] | rw [if_neg (by omega)]); first | done | rfl | exact decide_eq_true (by omega) | exact decide_eq_false (by omega) | (rw [decide_eq_false (by omega)]; rfl) | rw [decide_eq_false (by omega), Bool.false_and]]; rfl) (⟨zFr.rf, (by unfold sDn_ gC gW gX gV; (repeat first | rw [if_pos (by omega)] | rw [if_neg (by omega)]); exact hY)⟩)
        · skip
          refine z_aload_n 4 O dX6_does_280 rfl ?_
          refine z_getf kF_X6_19 O dX6_does_281 hO.1 rfl ?_
          refine z_iload_n 2 O dX6_does_284 rfl ?_
          refine z_iconst 1 O dX6_does_285 (by decide +kernel) ?_
          refine z_Si [.int (iI ((g / 1000) % 10)), .int (iI 1)] [.ref (Q 4)] kM_X6_65 O dX6_does_286 (c_X6_at hst) rfl rfl (by decide) (Nat.le_of_ble_eq_true rfl) (by omega) (by omega) (Nat.le_of_ble_eq_true rfl) zNx ?_
          have ea25 : at_ ((g / 1000) % 10) 1 = 36 + 1350 * ((g / 1000) % 10) + 1 := rfl
          refine z_iald O dX6_does_289 hY.1 ⟨by omega, by omega⟩ (by omega) (by omega) ?_
          refine z_iload_n 5 O dX6_does_290 rfl ?_
          refine z_bipush 100 O dX6_does_291 (by decide +kernel) ?_
          refine z_irem O dX6_does_293 ⟨by omega, by omega⟩ ⟨by omega, by omega⟩ (by omega) (by omega) ?_
          have hl9 := hG.l (w := g / 1000 % 10) ⟨by omega, by omega⟩
          refine z_icmp_gt 301 O dX6_does_294 (by decide) ⟨by omega, by omega⟩ ⟨by omega, by omega⟩ (fun c_294 => ?_) (fun c_294 => ?_)
          · skip
            refine z_iconst 0 O dX6_does_301 (by decide +kernel) ?_
            exact z_iretb O dX6_does_302 rfl (by omega) (by omega) hpo (by rw [show sDo K g = false from by unfold sDo gC gW gX gV; (repeat first | rw [if_pos (by omega)] | rw [if_neg (by omega)]); first | done | rfl | exact decide_eq_true (by omega) | exact decide_eq_false (by omega) | (rw [decide_eq_false (by omega)]; rfl) | rw [decide_eq_false (by omega), Bool.false_and]]; rfl) (⟨zFr.rf, (by unfold sDn_ gC gW gX gV; (repeat first | rw [if_pos (by omega)] | rw [if_neg (by omega)]); exact hY)⟩)
          · skip
            refine z_iconst 1 O dX6_does_297 (by decide +kernel) ?_
            refine z_goto 302 O dX6_does_298 (by decide) ?_
            exact z_iretb O dX6_does_302 rfl (by omega) (by omega) hpo (by rw [show sDo K g = true from by unfold sDo gC gW gX gV; (repeat first | rw [if_pos (by omega)] | rw [if_neg (by omega)]); first | done | rfl | exact decide_eq_true (by omega) | exact decide_eq_false (by omega) | (rw [decide_eq_false (by omega)]; rfl) | rw [decide_eq_false (by omega), Bool.false_and]]; rfl) (⟨zFr.rf, (by unfold sDn_ gC gW gX gV; (repeat first | rw [if_pos (by omega)] | rw [if_neg (by omega)]); exact hY)⟩)
      · skip
        refine z_tswO 303 O dX6_does_47 ⟨by omega, by omega⟩ c_47 (by decide) ?_
        refine z_iconst 0 O dX6_does_303 (by decide +kernel) ?_
        exact z_iretb O dX6_does_304 rfl (by omega) (by omega) hpo (by rw [show sDo K g = false from by unfold sDo gC gW gX gV; (repeat first | rw [if_pos (by omega)] | rw [if_neg (by omega)]); first | done | rfl | exact decide_eq_true (by omega) | exact decide_eq_false (by omega) | (rw [decide_eq_false (by omega)]; rfl) | rw [decide_eq_false (by omega), Bool.false_and]]; rfl) (⟨zFr.rf, (by unfold sDn_ gC gW gX gV; (repeat first | rw [if_pos (by omega)] | rw [if_neg (by omega)]); exact hY)⟩)
    · skip
      refine z_iload_n 2 O dX6_does_40 rfl ?_
      refine z_if_eq 46 O dX6_does_41 (by decide) ⟨by omega, by omega⟩ (fun c_41 => ?_) (fun c_41 => ?_)
      · skip
        refine z_iload_n 3 O dX6_does_46 rfl ?_
        rcases (show (g / 10000) = 1 ∨ (g / 10000) = 2 ∨ (g / 10000) = 3 ∨ (g / 10000) = 4 ∨ (g / 10000) = 5 ∨ (g / 10000) = 6 ∨ (g / 10000) = 7 ∨ (g / 10000) = 8 ∨ (g / 10000) = 9 ∨ ((g / 10000) < 1 ∨ 9 < (g / 10000)) by omega) with c_47 | c_47 | c_47 | c_47 | c_47 | c_47 | c_47 | c_47 | c_47 | c_47
        · exfalso; omega
        · exfalso; omega
        · exfalso; omega
        · exfalso; omega
        · skip
          refine z_tsw 4 158 O dX6_does_47 ⟨by omega, by omega⟩ (by omega) (by decide) rfl (by decide) ?_
          refine z_iload 1 O dX6_does_158 rfl ?_
          refine z_Si [.int (iI ((g / 10) % 100))] [] kM_X6_226 O dX6_does_160 (c_X6_isCell hst ⟨by omega, by omega⟩) rfl rfl (by decide) (Nat.le_of_ble_eq_true rfl) (by omega) (by omega) (Nat.le_of_ble_eq_true rfl) zNx ?_
          refine z_ifb_eq 182 O dX6_does_163 (by decide) (fun c_163 => ?_) (fun c_163 => ?_)
          · skip
            have k_163 := sBt_f.mp c_163
            refine z_iconst 0 O dX6_does_182 (by decide +kernel) ?_
            exact z_iretb O dX6_does_183 rfl (by omega) (by omega) hpo (by rw [show sDo K g = false from by unfold sDo gC gW gX gV; (repeat first | rw [if_pos (by omega)] | rw [if_neg (by omega)] | rw [if_neg (by rw [c_163]; decide)]); first | done | rfl | exact decide_eq_true (by omega) | exact decide_eq_false (by omega) | exact c_163 | (rw [decide_eq_true (by omega), c_163]; rfl) | (rw [decide_eq_true (by omega), c_163]) | (rw [decide_eq_false (by omega)]; rfl) | rw [decide_eq_false (by omega), Bool.false_and]]; rfl) (⟨zFr.rf, (by unfold sDn_ gC gW gX gV; (repeat first | rw [if_pos (by omega)] | rw [if_neg (by omega)] | rw [if_neg (by rw [c_163]; decide)]); exact hY)⟩)
          · skip
            have k_163 := sBt_t.mp c_163
            refine z_aload_n 4 O dX6_does_166 rfl ?_
            refine z_getf kF_X6_19 O dX6_does_167 hO.1 rfl ?_
            refine z_iload 1 O dX6_does_170 rfl ?_
            refine z_iald O dX6_does_172 hY.1 ⟨by omega, by omega⟩ (by omega) (by omega) ?_
            refine z_iload 0 O dX6_does_173 rfl ?_
            have hv5 := hG.2.1 (g / 10 % 100) (by omega) (by omega)
            refine z_icmp_ne 182 O dX6_does_175 (by decide) ⟨by omega, by omega⟩ ⟨by omega, by omega⟩ (fun c_175 => ?_) (fun c_175 => ?_)
            · skip
              refine z_iconst 0 O dX6_does_182 (by decide +kernel) ?_
              exact z_iretb O dX6_does_183 rfl (by omega) (by omega) hpo (by rw [show sDo K g = false from by unfold sDo gC gW gX gV; (repeat first | rw [if_pos (by omega)] | rw [if_neg (by omega)] | rw [if_pos c_163]); first | done | rfl | exact decide_eq_true (by omega) | exact decide_eq_false (by omega) | exact c_163 | (rw [decide_eq_true (by omega), c_163]; rfl) | (rw [decide_eq_true (by omega), c_163]) | (rw [decide_eq_false (by omega)]; rfl) | rw [decide_eq_false (by omega), Bool.false_and]]; rfl) (⟨zFr.rf, (by unfold sDn_ gC gW gX gV; (repeat first | rw [if_pos (by omega)] | rw [if_neg (by omega)] | rw [if_pos c_163]); exact hY)⟩)
            · skip
              refine z_iconst 1 O dX6_does_178 (by decide +kernel) ?_
              refine z_goto 183 O dX6_does_179 (by decide) ?_
              exact z_iretb O dX6_does_183 rfl (by omega) (by omega) hpo (by rw [show sDo K g = true from by unfold sDo gC gW gX gV; (repeat first | rw [if_pos (by omega)] | rw [if_neg (by omega)] | rw [if_pos c_163]); first | done | rfl | exact decide_eq_true (by omega) | exact decide_eq_false (by omega) | exact c_163 | (rw [decide_eq_true (by omega), c_163]; rfl) | (rw [decide_eq_true (by omega), c_163]) | (rw [decide_eq_false (by omega)]; rfl) | rw [decide_eq_false (by omega), Bool.false_and]]; rfl) (⟨zFr.rf, (by unfold sDn_ gC gW gX gV; (repeat first | rw [if_pos (by omega)] | rw [if_neg (by omega)] | rw [if_pos c_163]); exact hY)⟩)
        · exfalso; omega
        · exfalso; omega
        · exfalso; omega
        · exfalso; omega
        · exfalso; omega
      · skip
        refine z_iconst 0 O dX6_does_44 (by decide +kernel) ?_
        exact z_iretb O dX6_does_45 rfl (by omega) (by omega) hpo (by rw [show sDo K g = false from by unfold sDo gC gW gX gV; (repeat first | rw [if_pos (by omega)] | rw [if_neg (by omega)]); first | done | rfl | exact decide_eq_true (by omega) | exact decide_eq_false (by omega) | (rw [decide_eq_false (by omega)]; rfl) | rw [decide_eq_false (by omega), Bool.false_and]]; rfl) (⟨zFr.rf, (by unfold sDn_ gC gW gX gV; (repeat first | rw [if_pos (by omega)] | rw [if_neg (by omega)]); exact hY)⟩)
