/-! the class: a group, a step (written by program: wip/whole/gen/class20.py) -/
theorem c_X5_obeyGroup {E : zE} (hst : E.1.stackTraces = false) {H : Heap} {r : zH} {a : Nat → Nat} {K : Int → Int} {N : Int} {g : Int} (fO : zO E H r 1200 (a 1200) 5 [.ref (a 1202), .ref (a 0), .ref (a 64), .ref (a 1204), .ref (a 1206), .ref (a 1207)]) (fC : zSt E H r a 64 K) (hG : sW K N) (hN : N ≤ 639) (hg : 0 ≤ g ∧ g < 100000) : zC E yX5_obeyGroup cX5_obeyGroup 5 (some .boolean) 7 189 [.ref (a 1200), .int (iI g)] H 1024 20480 (zRi (zb (sDo K g)) (zUp E H r a 64 (sDn_ K g))) zN := by
  refine zC.of (by decide) (Nat.le_of_ble_eq_true rfl) hst ?_
  intro x O hE hpo hpx
  subst hE
  change zG x H 0 0 0 [(0, .ref (a 1200)), (1, .int (iI g))] []
  refine z_iload_n 1 O dX5_obeyGroup_0 rfl ?_
  refine z_sipush 1000 O dX5_obeyGroup_1 (by decide +kernel) ?_
  refine z_idiv O dX5_obeyGroup_4 ⟨by omega, by omega⟩ ⟨by omega, by omega⟩ (by omega) (by omega) ?_
  refine z_bipush 10 O dX5_obeyGroup_5 (by decide +kernel) ?_
  refine z_irem O dX5_obeyGroup_7 ⟨by omega, by omega⟩ ⟨by omega, by omega⟩ (by omega) (by omega) ?_
  refine z_istore_n [(2, .int (iI ((g / 1000) % 10))), (0, .ref (a 1200)), (1, .int (iI g))] O dX5_obeyGroup_8 (by decide) rfl ?_
  refine z_iload_n 2 O dX5_obeyGroup_9 rfl ?_
  refine z_bipush 10 O dX5_obeyGroup_10 (by decide +kernel) ?_
  refine z_idiv O dX5_obeyGroup_12 ⟨by omega, by omega⟩ ⟨by omega, by omega⟩ (by omega) (by omega) ?_
  refine z_bipush 100 O dX5_obeyGroup_13 (by decide +kernel) ?_
  refine z_irem O dX5_obeyGroup_15 ⟨by omega, by omega⟩ ⟨by omega, by omega⟩ (by omega) (by omega) ?_
  refine z_istore_n [(3, .int (iI ((g / 10) % 100))), (2, .int (iI ((g / 1000) % 10))), (0, .ref (a 1200)), (1, .int (iI g))] O dX5_obeyGroup_16 (by decide) rfl ?_
  refine z_iload_n 3 O dX5_obeyGroup_17 rfl ?_
  refine z_bipush 10 O dX5_obeyGroup_18 (by decide +kernel) ?_
  refine z_irem O dX5_obeyGroup_20 ⟨by omega, by omega⟩ ⟨by omega, by omega⟩ (by omega) (by omega) ?_
  refine z_istore [(4, .int (iI (g % 10))), (3, .int (iI ((g / 10) % 100))), (2, .int (iI ((g / 1000) % 10))), (0, .ref (a 1200)), (1, .int (iI g))] O dX5_obeyGroup_21 (by decide) rfl ?_
  refine z_iload_n 4 O dX5_obeyGroup_23 rfl ?_
  refine z_sipush 10000 O dX5_obeyGroup_24 (by decide +kernel) ?_
  refine z_idiv O dX5_obeyGroup_27 ⟨by omega, by omega⟩ ⟨by omega, by omega⟩ (by omega) (by omega) ?_
  rcases (show (g / 10000) = 1 ∨ (g / 10000) = 2 ∨ (g / 10000) = 3 ∨ (g / 10000) = 4 ∨ (g / 10000) = 5 ∨ ((g / 10000) < 1 ∨ 5 < (g / 10000)) by omega) with c_28 | c_28 | c_28 | c_28 | c_28 | c_28
  · skip
    refine z_tsw 0 64 O dX5_obeyGroup_28 ⟨by omega, by omega⟩ (by omega) (by decide) rfl (by decide) ?_
    refine z_iload_n 1 O dX5_obeyGroup_64 rfl ?_
    refine z_if_ne 93 O dX5_obeyGroup_65 (by decide) ⟨by omega, by omega⟩ (fun c_65 => ?_) (fun c_65 => ?_)
    · skip
      refine z_iconst 0 O dX5_obeyGroup_93 (by decide +kernel) ?_
      exact z_iretb O dX5_obeyGroup_94 rfl (by omega) (by omega) hpo (by rw [(grp_1n hg.1 (by omega) (by omega)).1]; rfl) (⟨r, zFr.rf, zGw.rf, by rw [(grp_1n hg.1 (by omega) (by omega)).2]; exact fC⟩)
    · skip
      refine z_iload 0 O dX5_obeyGroup_68 rfl ?_
      refine z_iconst 3 O dX5_obeyGroup_70 (by decide +kernel) ?_
      refine z_icmp_gt 93 O dX5_obeyGroup_71 (by decide) ⟨by omega, by omega⟩ ⟨by omega, by omega⟩ (fun c_71 => ?_) (fun c_71 => ?_)
      · skip
        refine z_iconst 0 O dX5_obeyGroup_93 (by decide +kernel) ?_
        exact z_iretb O dX5_obeyGroup_94 rfl (by omega) (by omega) hpo (by rw [(grp_1n hg.1 (by omega) (by omega)).1]; rfl) (⟨r, zFr.rf, zGw.rf, by rw [(grp_1n hg.1 (by omega) (by omega)).2]; exact fC⟩)
      · skip
        refine z_aload_n 3 O dX5_obeyGroup_74 rfl ?_
        refine z_getf kF_X5_25 O dX5_obeyGroup_75 fO.1 rfl ?_
        refine z_iload 0 O dX5_obeyGroup_78 rfl ?_
        refine z_iload_n 2 O dX5_obeyGroup_80 rfl ?_
        refine z_iconst 0 O dX5_obeyGroup_81 (by decide +kernel) ?_
        refine z_iconst 0 O dX5_obeyGroup_82 (by decide +kernel) ?_
        obtain ⟨hO1, _⟩ := id fC
        refine z_Vim [.int (iI (g % 10)), .int (iI ((g / 1000) % 10)), .int (iI 0), .int (iI 0)] [] kM_X5_224 O dX5_obeyGroup_83 (c_X2_attempt hst fC hG hN ⟨by omega, by omega⟩ (by omega) ⟨by omega, by omega⟩ ⟨by omega, by omega⟩) rfl rfl hO1.1 (by decide) (Nat.le_of_ble_eq_true rfl) (by omega) (by omega) (Nat.le_of_ble_eq_true rfl) zNx (fun H2 hp3 hz4 => ?_)
        obtain ⟨r5, hf6, hg7, fC8⟩ := hp3
        have fO9 := fO.fr hf6 (by first | exact (fun h => h) | exact zT1 (by omega) | (show ¬ (_ ∨ _); omega) | (show ¬ (_ ∧ _); omega))
        refine z_ifb_eq 93 O dX5_obeyGroup_86 (by decide) (fun c_86 => ?_) (fun c_86 => ?_)
        · skip
          refine z_iconst 0 O dX5_obeyGroup_93 (by decide +kernel) ?_
          exact z_iretb O dX5_obeyGroup_94 rfl (by omega) (by omega) hpo (by rw [(grp_1 hg.1 hg.2 (by omega) (by omega) (by omega)).1, c_86]; rfl) (⟨r5, hf6, hg7, by rw [(grp_1 hg.1 hg.2 (by omega) (by omega) (by omega)).2]; exact fC8⟩)
        · skip
          refine z_iconst 1 O dX5_obeyGroup_89 (by decide +kernel) ?_
          refine z_goto 94 O dX5_obeyGroup_90 (by decide) ?_
          exact z_iretb O dX5_obeyGroup_94 rfl (by omega) (by omega) hpo (by rw [(grp_1 hg.1 hg.2 (by omega) (by omega) (by omega)).1, c_86]; rfl) (⟨r5, hf6, hg7, by rw [(grp_1 hg.1 hg.2 (by omega) (by omega) (by omega)).2]; exact fC8⟩)
  · skip
    refine z_tsw 1 95 O dX5_obeyGroup_28 ⟨by omega, by omega⟩ (by omega) (by decide) rfl (by decide) ?_
    refine z_aload_n 3 O dX5_obeyGroup_95 rfl ?_
    refine z_getf kF_X5_25 O dX5_obeyGroup_96 fO.1 rfl ?_
    refine z_bipush 6 O dX5_obeyGroup_99 (by decide +kernel) ?_
    refine z_iload_n 2 O dX5_obeyGroup_101 rfl ?_
    refine z_iload_n 1 O dX5_obeyGroup_102 rfl ?_
    refine z_iload 0 O dX5_obeyGroup_103 rfl ?_
    obtain ⟨hO10, _⟩ := id fC
    refine z_Vim [.int (iI 6), .int (iI ((g / 1000) % 10)), .int (iI ((g / 10) % 100)), .int (iI (g % 10))] [] kM_X5_224 O dX5_obeyGroup_105 (c_X2_attempt hst fC hG hN ⟨by omega, by omega⟩ (by omega) ⟨by omega, by omega⟩ ⟨by omega, by omega⟩) rfl rfl hO10.1 (by decide) (Nat.le_of_ble_eq_true rfl) (by omega) (by omega) (Nat.le_of_ble_eq_true rfl) zNx (fun H11 hp12 hz13 => ?_)
    obtain ⟨r14, hf15, hg16, fC17⟩ := hp12
    have fO18 := fO.fr hf15 (by first | exact (fun h => h) | exact zT1 (by omega) | (show ¬ (_ ∨ _); omega) | (show ¬ (_ ∧ _); omega))
    exact z_iretb O dX5_obeyGroup_108 rfl (by omega) (by omega) hpo (by rw [(grp_2 hg.1 hg.2 (by omega)).1]) (⟨r14, hf15, hg16, by rw [(grp_2 hg.1 hg.2 (by omega)).2]; exact fC17⟩)
  · skip
    refine z_tsw 2 109 O dX5_obeyGroup_28 ⟨by omega, by omega⟩ (by omega) (by decide) rfl (by decide) ?_
    refine z_iload_n 1 O dX5_obeyGroup_109 rfl ?_
    refine z_if_ne 132 O dX5_obeyGroup_110 (by decide) ⟨by omega, by omega⟩ (fun c_110 => ?_) (fun c_110 => ?_)
    · skip
      refine z_iconst 0 O dX5_obeyGroup_132 (by decide +kernel) ?_
      exact z_iretb O dX5_obeyGroup_133 rfl (by omega) (by omega) hpo (by rw [(grp_3n hg.1 (by omega) (by omega)).1]; rfl) (⟨r, zFr.rf, zGw.rf, by rw [(grp_3n hg.1 (by omega) (by omega)).2]; exact fC⟩)
    · skip
      refine z_aload_n 3 O dX5_obeyGroup_113 rfl ?_
      refine z_getf kF_X5_25 O dX5_obeyGroup_114 fO.1 rfl ?_
      refine z_iconst 4 O dX5_obeyGroup_117 (by decide +kernel) ?_
      refine z_iload_n 2 O dX5_obeyGroup_118 rfl ?_
      refine z_iload 0 O dX5_obeyGroup_119 rfl ?_
      refine z_iconst 0 O dX5_obeyGroup_121 (by decide +kernel) ?_
      obtain ⟨hO19, _⟩ := id fC
      refine z_Vim [.int (iI 4), .int (iI ((g / 1000) % 10)), .int (iI (g % 10)), .int (iI 0)] [] kM_X5_224 O dX5_obeyGroup_122 (c_X2_attempt hst fC hG hN ⟨by omega, by omega⟩ (by omega) ⟨by omega, by omega⟩ ⟨by omega, by omega⟩) rfl rfl hO19.1 (by decide) (Nat.le_of_ble_eq_true rfl) (by omega) (by omega) (Nat.le_of_ble_eq_true rfl) zNx (fun H20 hp21 hz22 => ?_)
      obtain ⟨r23, hf24, hg25, fC26⟩ := hp21
      have fO27 := fO.fr hf24 (by first | exact (fun h => h) | exact zT1 (by omega) | (show ¬ (_ ∨ _); omega) | (show ¬ (_ ∧ _); omega))
      refine z_ifb_eq 132 O dX5_obeyGroup_125 (by decide) (fun c_125 => ?_) (fun c_125 => ?_)
      · skip
        refine z_iconst 0 O dX5_obeyGroup_132 (by decide +kernel) ?_
        exact z_iretb O dX5_obeyGroup_133 rfl (by omega) (by omega) hpo (by rw [(grp_3 hg.1 hg.2 (by omega) (by omega)).1, c_125]; rfl) (⟨r23, hf24, hg25, by rw [(grp_3 hg.1 hg.2 (by omega) (by omega)).2]; exact fC26⟩)
      · skip
        refine z_iconst 1 O dX5_obeyGroup_128 (by decide +kernel) ?_
        refine z_goto 133 O dX5_obeyGroup_129 (by decide) ?_
        exact z_iretb O dX5_obeyGroup_133 rfl (by omega) (by omega) hpo (by rw [(grp_3 hg.1 hg.2 (by omega) (by omega)).1, c_125]; rfl) (⟨r23, hf24, hg25, by rw [(grp_3 hg.1 hg.2 (by omega) (by omega)).2]; exact fC26⟩)
  · skip
    refine z_tsw 3 134 O dX5_obeyGroup_28 ⟨by omega, by omega⟩ (by omega) (by decide) rfl (by decide) ?_
    refine z_aload_n 3 O dX5_obeyGroup_134 rfl ?_
    refine z_getf kF_X5_25 O dX5_obeyGroup_135 fO.1 rfl ?_
    refine z_iconst 5 O dX5_obeyGroup_138 (by decide +kernel) ?_
    refine z_iload_n 2 O dX5_obeyGroup_139 rfl ?_
    refine z_iload_n 1 O dX5_obeyGroup_140 rfl ?_
    refine z_iload 0 O dX5_obeyGroup_141 rfl ?_
    obtain ⟨hO28, _⟩ := id fC
    refine z_Vim [.int (iI 5), .int (iI ((g / 1000) % 10)), .int (iI ((g / 10) % 100)), .int (iI (g % 10))] [] kM_X5_224 O dX5_obeyGroup_143 (c_X2_attempt hst fC hG hN ⟨by omega, by omega⟩ (by omega) ⟨by omega, by omega⟩ ⟨by omega, by omega⟩) rfl rfl hO28.1 (by decide) (Nat.le_of_ble_eq_true rfl) (by omega) (by omega) (Nat.le_of_ble_eq_true rfl) zNx (fun H29 hp30 hz31 => ?_)
    obtain ⟨r32, hf33, hg34, fC35⟩ := hp30
    have fO36 := fO.fr hf33 (by first | exact (fun h => h) | exact zT1 (by omega) | (show ¬ (_ ∨ _); omega) | (show ¬ (_ ∧ _); omega))
    exact z_iretb O dX5_obeyGroup_146 rfl (by omega) (by omega) hpo (by rw [(grp_4 hg.1 hg.2 (by omega)).1]) (⟨r32, hf33, hg34, by rw [(grp_4 hg.1 hg.2 (by omega)).2]; exact fC35⟩)
  · skip
    refine z_tsw 4 147 O dX5_obeyGroup_28 ⟨by omega, by omega⟩ (by omega) (by decide) rfl (by decide) ?_
    refine z_iload_n 2 O dX5_obeyGroup_147 rfl ?_
    refine z_if_ne 178 O dX5_obeyGroup_148 (by decide) ⟨by omega, by omega⟩ (fun c_148 => ?_) (fun c_148 => ?_)
    · skip
      refine z_iconst 0 O dX5_obeyGroup_178 (by decide +kernel) ?_
      exact z_iretb O dX5_obeyGroup_179 rfl (by omega) (by omega) hpo (by rw [show sDo K g = false from by unfold sDo gC gW gX gV; by_cases hw9 : 3 ≤ g / 1000 % 10; (exact if_pos hw9); (repeat first | rw [if_pos (by omega)] | rw [if_neg (by omega)]); first | done | rfl | (rw [decide_eq_true (by omega)]; first | done | rfl | (rw [hq]; rfl)) | (rw [decide_eq_false (by omega)]; first | done | rfl | exact Bool.false_and _)]; rfl) (⟨r, zFr.rf, zGw.rf, by rw [(grp_o (by omega))]; exact fC⟩)
    · skip
      refine z_iload_n 1 O dX5_obeyGroup_151 rfl ?_
      refine z_Si [.int (iI ((g / 10) % 100))] [] kM_X5_280 O dX5_obeyGroup_152 (c_X5_isCell hst ⟨by omega, by omega⟩) rfl rfl (by decide) (Nat.le_of_ble_eq_true rfl) (by omega) (by omega) (Nat.le_of_ble_eq_true rfl) zNx ?_
      refine z_ifb_eq 178 O dX5_obeyGroup_155 (by decide) (fun c_155 => ?_) (fun c_155 => ?_)
      · skip
        refine z_iconst 0 O dX5_obeyGroup_178 (by decide +kernel) ?_
        have hcb := sBt_f.mp c_155
        exact z_iretb O dX5_obeyGroup_179 rfl (by omega) (by omega) hpo (by rw [show sDo K g = false from by unfold sDo gC gW gX gV; by_cases hw9 : 3 ≤ g / 1000 % 10; (exact if_pos hw9); (repeat first | rw [if_pos (by omega)] | rw [if_neg (by omega)]); first | done | rfl | (rw [decide_eq_true (by omega)]; first | done | rfl | (rw [hq]; rfl)) | (rw [decide_eq_false (by omega)]; first | done | rfl | exact Bool.false_and _)]; rfl) (⟨r, zFr.rf, zGw.rf, by rw [(grp_o (by omega))]; exact fC⟩)
      · skip
        have hcb := sBt_t.mp c_155
        have hcv := hG.2.1 (g / 10 % 100) (by omega) (by omega)
        refine z_aload_n 3 O dX5_obeyGroup_158 rfl ?_
        refine z_getf kF_X5_25 O dX5_obeyGroup_159 fO.1 rfl ?_
        obtain ⟨hO37, _⟩ := id fC
        refine z_getf kF_X5_129 O dX5_obeyGroup_162 hO37.1 rfl ?_
        refine z_iload_n 1 O dX5_obeyGroup_165 rfl ?_
        obtain ⟨it38, hRo39⟩ := fC.2.2.1.o
        refine z_Vi [.int (iI ((g / 10) % 100))] [] kM_X5_66 O dX5_obeyGroup_166 (c_X1_get hst fC.2.2.1 ⟨by omega, by omega⟩) rfl rfl hRo39.1 (by decide) (Nat.le_of_ble_eq_true rfl) (by omega) (by omega) (Nat.le_of_ble_eq_true rfl) zNx ?_
        rw [show zRg 16 K ((g / 10) % 100) = K ((g / 10) % 100) from (by unfold zRg; exact if_pos ⟨by omega, by omega⟩)]
        refine z_iload 0 O dX5_obeyGroup_169 rfl ?_
        refine z_icmp_ne 178 O dX5_obeyGroup_171 (by decide) ⟨by omega, by omega⟩ ⟨by omega, by omega⟩ (fun c_171 => ?_) (fun c_171 => ?_)
        · skip
          refine z_iconst 0 O dX5_obeyGroup_178 (by decide +kernel) ?_
          have hcb := sBt_t.mp c_155
          exact z_iretb O dX5_obeyGroup_179 rfl (by omega) (by omega) hpo (by rw [show sDo K g = false from by unfold sDo gC gW gX gV; by_cases hw9 : 3 ≤ g / 1000 % 10; (exact if_pos hw9); (repeat first | rw [if_pos (by omega)] | rw [if_neg (by omega)]); first | done | rfl | (rw [decide_eq_true (by omega)]; first | done | rfl | (rw [hq]; rfl)) | (rw [decide_eq_false (by omega)]; first | done | rfl | exact Bool.false_and _)]; rfl) (⟨r, zFr.rf, zGw.rf, by rw [(grp_o (by omega))]; exact fC⟩)
        · skip
          refine z_iconst 1 O dX5_obeyGroup_174 (by decide +kernel) ?_
          refine z_goto 179 O dX5_obeyGroup_175 (by decide) ?_
          have hcb := sBt_t.mp c_155
          exact z_iretb O dX5_obeyGroup_179 rfl (by omega) (by omega) hpo (by rw [show sDo K g = true from by unfold sDo gC gW gX gV; (repeat first | rw [if_pos (by omega)] | rw [if_neg (by omega)]); first | done | rfl | (rw [decide_eq_true (by omega)]; first | done | rfl | (rw [hq]; rfl)) | (rw [decide_eq_false (by omega)]; first | done | rfl | exact Bool.false_and _)]; rfl) (⟨r, zFr.rf, zGw.rf, by rw [(grp_o (by omega))]; exact fC⟩)
  · skip
    refine z_tswO 180 O dX5_obeyGroup_28 ⟨by omega, by omega⟩ c_28 (by decide) ?_
    refine z_aload_n 3 O dX5_obeyGroup_180 rfl ?_
    refine z_iload_n 4 O dX5_obeyGroup_181 rfl ?_
    refine z_sipush 10000 O dX5_obeyGroup_182 (by decide +kernel) ?_
    refine z_idiv O dX5_obeyGroup_185 ⟨by omega, by omega⟩ ⟨by omega, by omega⟩ (by omega) (by omega) ?_
    refine z_iload_n 2 O dX5_obeyGroup_186 rfl ?_
    refine z_iload_n 1 O dX5_obeyGroup_187 rfl ?_
    refine z_iload 0 O dX5_obeyGroup_188 rfl ?_
    refine z_Vi [.int (iI (g / 10000)), .int (iI ((g / 1000) % 10)), .int (iI ((g / 10) % 100)), .int (iI (g % 10))] [] kM_X5_327 O dX5_obeyGroup_190 (c_X5_isTrueOfWorker hst fO fC hG hg rfl rfl rfl rfl (by omega)) rfl rfl fO.1 (by decide) (Nat.le_of_ble_eq_true rfl) (by omega) (by omega) (Nat.le_of_ble_eq_true rfl) zNx ?_
    exact z_iretb O dX5_obeyGroup_193 rfl (by omega) (by omega) hpo (by rfl) (⟨r, zFr.rf, zGw.rf, by rw [(grp_o (by omega))]; exact fC⟩)

theorem c_X5_simulateStep {E : zE} (hst : E.1.stackTraces = false) {H : Heap} {r : zH} {a : Nat → Nat} {K : Int → Int} {N : Int} {v : Int} (fO : zO E H r 1200 (a 1200) 5 [.ref (a 1202), .ref (a 0), .ref (a 64), .ref (a 1204), .ref (a 1206), .ref (a 1207)]) (fC : zSt E H r a 64 K) (hG : sW K N) (hN : N ≤ 639) (hv : 0 ≤ v ∧ v < 2147483648) : zC E yX5_simulateStep cX5_simulateStep 4 none 7 189 [.ref (a 1200), .int (iI v)] H 1024 20480 (zRv (zUp E H r a 64 (sSt K v))) zN := by
  refine zC.of (by decide) (Nat.le_of_ble_eq_true rfl) hst ?_
  intro x O hE hpo hpx
  subst hE
  change zG x H 0 0 0 [(0, .ref (a 1200)), (1, .int (iI v))] []
  refine z_iload_n 1 O dX5_simulateStep_0 rfl ?_
  refine z_bipush 16 O dX5_simulateStep_1 (by decide +kernel) ?_
  refine z_idiv O dX5_simulateStep_3 ⟨by omega, by omega⟩ ⟨by omega, by omega⟩ (by omega) (by omega) ?_
  refine z_iconst 3 O dX5_simulateStep_4 (by decide +kernel) ?_
  refine z_irem O dX5_simulateStep_5 ⟨by omega, by omega⟩ ⟨by omega, by omega⟩ (by omega) (by omega) ?_
  refine z_istore_n [(2, .int (iI ((v / 16) % 3))), (0, .ref (a 1200)), (1, .int (iI v))] O dX5_simulateStep_6 (by decide) rfl ?_
  refine z_iload_n 2 O dX5_simulateStep_7 rfl ?_
  refine z_bipush 64 O dX5_simulateStep_8 (by decide +kernel) ?_
  refine z_idiv O dX5_simulateStep_10 ⟨by omega, by omega⟩ ⟨by omega, by omega⟩ (by omega) (by omega) ?_
  refine z_bipush 16 O dX5_simulateStep_11 (by decide +kernel) ?_
  refine z_irem O dX5_simulateStep_13 ⟨by omega, by omega⟩ ⟨by omega, by omega⟩ (by omega) (by omega) ?_
  refine z_istore_n [(3, .int (iI ((v / 64) % 16))), (2, .int (iI ((v / 16) % 3))), (0, .ref (a 1200)), (1, .int (iI v))] O dX5_simulateStep_14 (by decide) rfl ?_
  refine z_iload_n 3 O dX5_simulateStep_15 rfl ?_
  refine z_bipush 16 O dX5_simulateStep_16 (by decide +kernel) ?_
  refine z_irem O dX5_simulateStep_18 ⟨by omega, by omega⟩ ⟨by omega, by omega⟩ (by omega) (by omega) ?_
  rcases (show (v % 16) = 0 ∨ (v % 16) = 1 ∨ (v % 16) = 2 ∨ (v % 16) = 3 ∨ (v % 16) = 4 ∨ (v % 16) = 5 ∨ (v % 16) = 6 ∨ (v % 16) = 7 ∨ (v % 16) = 8 ∨ (v % 16) = 9 ∨ ((v % 16) < 0 ∨ 9 < (v % 16)) by omega) with c_19 | c_19 | c_19 | c_19 | c_19 | c_19 | c_19 | c_19 | c_19 | c_19 | c_19
  · skip
    refine z_tsw 0 72 O dX5_simulateStep_19 ⟨by omega, by omega⟩ (by omega) (by decide) rfl (by decide) ?_
    refine z_aload_n 2 O dX5_simulateStep_72 rfl ?_
    refine z_getf kF_X5_25 O dX5_simulateStep_73 fO.1 rfl ?_
    refine z_iconst 0 O dX5_simulateStep_76 (by decide +kernel) ?_
    refine z_iload_n 1 O dX5_simulateStep_77 rfl ?_
    refine z_iconst 0 O dX5_simulateStep_78 (by decide +kernel) ?_
    refine z_iconst 0 O dX5_simulateStep_79 (by decide +kernel) ?_
    obtain ⟨hO1, _⟩ := id fC
    refine z_Vim [.int (iI 0), .int (iI ((v / 16) % 3)), .int (iI 0), .int (iI 0)] [] kM_X5_224 O dX5_simulateStep_80 (c_X2_attempt hst fC hG hN ⟨by omega, by omega⟩ (by omega) ⟨by omega, by omega⟩ ⟨by omega, by omega⟩) rfl rfl hO1.1 (by decide) (Nat.le_of_ble_eq_true rfl) (by omega) (by omega) (Nat.le_of_ble_eq_true rfl) zNx (fun H2 hp3 hz4 => ?_)
    obtain ⟨r5, hf6, hg7, fC8⟩ := hp3
    have fO9 := fO.fr hf6 (by first | exact (fun h => h) | exact zT1 (by omega) | (show ¬ (_ ∨ _); omega) | (show ¬ (_ ∧ _); omega))
    refine z_pop O dX5_simulateStep_83 rfl ?_
    refine z_goto 196 O dX5_simulateStep_84 (by decide) ?_
    exact z_iretv O dX5_simulateStep_196 rfl (by omega) (by omega) hpo (⟨r5, hf6, hg7, by rw [show sSt K v = (atR K 0 ((v / 16) % 3) 0 0) from stp hv.1 (by unfold sSt; (repeat first | rw [if_pos (by omega)] | rw [if_neg (by omega)]); rfl)]; exact fC8⟩)
  · skip
    refine z_tsw 1 72 O dX5_simulateStep_19 ⟨by omega, by omega⟩ (by omega) (by decide) rfl (by decide) ?_
    refine z_aload_n 2 O dX5_simulateStep_72 rfl ?_
    refine z_getf kF_X5_25 O dX5_simulateStep_73 fO.1 rfl ?_
    refine z_iconst 0 O dX5_simulateStep_76 (by decide +kernel) ?_
    refine z_iload_n 1 O dX5_simulateStep_77 rfl ?_
    refine z_iconst 0 O dX5_simulateStep_78 (by decide +kernel) ?_
    refine z_iconst 0 O dX5_simulateStep_79 (by decide +kernel) ?_
    obtain ⟨hO10, _⟩ := id fC
    refine z_Vim [.int (iI 0), .int (iI ((v / 16) % 3)), .int (iI 0), .int (iI 0)] [] kM_X5_224 O dX5_simulateStep_80 (c_X2_attempt hst fC hG hN ⟨by omega, by omega⟩ (by omega) ⟨by omega, by omega⟩ ⟨by omega, by omega⟩) rfl rfl hO10.1 (by decide) (Nat.le_of_ble_eq_true rfl) (by omega) (by omega) (Nat.le_of_ble_eq_true rfl) zNx (fun H11 hp12 hz13 => ?_)
    obtain ⟨r14, hf15, hg16, fC17⟩ := hp12
    have fO18 := fO.fr hf15 (by first | exact (fun h => h) | exact zT1 (by omega) | (show ¬ (_ ∨ _); omega) | (show ¬ (_ ∧ _); omega))
    refine z_pop O dX5_simulateStep_83 rfl ?_
    refine z_goto 196 O dX5_simulateStep_84 (by decide) ?_
    exact z_iretv O dX5_simulateStep_196 rfl (by omega) (by omega) hpo (⟨r14, hf15, hg16, by rw [show sSt K v = (atR K 0 ((v / 16) % 3) 0 0) from stp hv.1 (by unfold sSt; (repeat first | rw [if_pos (by omega)] | rw [if_neg (by omega)]); rfl)]; exact fC17⟩)
  · skip
    refine z_tsw 2 72 O dX5_simulateStep_19 ⟨by omega, by omega⟩ (by omega) (by decide) rfl (by decide) ?_
    refine z_aload_n 2 O dX5_simulateStep_72 rfl ?_
    refine z_getf kF_X5_25 O dX5_simulateStep_73 fO.1 rfl ?_
    refine z_iconst 0 O dX5_simulateStep_76 (by decide +kernel) ?_
    refine z_iload_n 1 O dX5_simulateStep_77 rfl ?_
    refine z_iconst 0 O dX5_simulateStep_78 (by decide +kernel) ?_
    refine z_iconst 0 O dX5_simulateStep_79 (by decide +kernel) ?_
    obtain ⟨hO19, _⟩ := id fC
    refine z_Vim [.int (iI 0), .int (iI ((v / 16) % 3)), .int (iI 0), .int (iI 0)] [] kM_X5_224 O dX5_simulateStep_80 (c_X2_attempt hst fC hG hN ⟨by omega, by omega⟩ (by omega) ⟨by omega, by omega⟩ ⟨by omega, by omega⟩) rfl rfl hO19.1 (by decide) (Nat.le_of_ble_eq_true rfl) (by omega) (by omega) (Nat.le_of_ble_eq_true rfl) zNx (fun H20 hp21 hz22 => ?_)
    obtain ⟨r23, hf24, hg25, fC26⟩ := hp21
    have fO27 := fO.fr hf24 (by first | exact (fun h => h) | exact zT1 (by omega) | (show ¬ (_ ∨ _); omega) | (show ¬ (_ ∧ _); omega))
    refine z_pop O dX5_simulateStep_83 rfl ?_
    refine z_goto 196 O dX5_simulateStep_84 (by decide) ?_
    exact z_iretv O dX5_simulateStep_196 rfl (by omega) (by omega) hpo (⟨r23, hf24, hg25, by rw [show sSt K v = (atR K 0 ((v / 16) % 3) 0 0) from stp hv.1 (by unfold sSt; (repeat first | rw [if_pos (by omega)] | rw [if_neg (by omega)]); rfl)]; exact fC26⟩)
  · skip
    refine z_tsw 3 87 O dX5_simulateStep_19 ⟨by omega, by omega⟩ (by omega) (by decide) rfl (by decide) ?_
    refine z_aload_n 2 O dX5_simulateStep_87 rfl ?_
    refine z_getf kF_X5_25 O dX5_simulateStep_88 fO.1 rfl ?_
    refine z_iconst 1 O dX5_simulateStep_91 (by decide +kernel) ?_
    refine z_iload_n 1 O dX5_simulateStep_92 rfl ?_
    refine z_iconst 0 O dX5_simulateStep_93 (by decide +kernel) ?_
    refine z_iconst 0 O dX5_simulateStep_94 (by decide +kernel) ?_
    obtain ⟨hO28, _⟩ := id fC
    refine z_Vim [.int (iI 1), .int (iI ((v / 16) % 3)), .int (iI 0), .int (iI 0)] [] kM_X5_224 O dX5_simulateStep_95 (c_X2_attempt hst fC hG hN ⟨by omega, by omega⟩ (by omega) ⟨by omega, by omega⟩ ⟨by omega, by omega⟩) rfl rfl hO28.1 (by decide) (Nat.le_of_ble_eq_true rfl) (by omega) (by omega) (Nat.le_of_ble_eq_true rfl) zNx (fun H29 hp30 hz31 => ?_)
    obtain ⟨r32, hf33, hg34, fC35⟩ := hp30
    have fO36 := fO.fr hf33 (by first | exact (fun h => h) | exact zT1 (by omega) | (show ¬ (_ ∨ _); omega) | (show ¬ (_ ∧ _); omega))
    refine z_pop O dX5_simulateStep_98 rfl ?_
    refine z_goto 196 O dX5_simulateStep_99 (by decide) ?_
    exact z_iretv O dX5_simulateStep_196 rfl (by omega) (by omega) hpo (⟨r32, hf33, hg34, by rw [show sSt K v = (atR K 1 ((v / 16) % 3) 0 0) from stp hv.1 (by unfold sSt; (repeat first | rw [if_pos (by omega)] | rw [if_neg (by omega)]); rfl)]; exact fC35⟩)
  · skip
    refine z_tsw 4 87 O dX5_simulateStep_19 ⟨by omega, by omega⟩ (by omega) (by decide) rfl (by decide) ?_
    refine z_aload_n 2 O dX5_simulateStep_87 rfl ?_
    refine z_getf kF_X5_25 O dX5_simulateStep_88 fO.1 rfl ?_
    refine z_iconst 1 O dX5_simulateStep_91 (by decide +kernel) ?_
    refine z_iload_n 1 O dX5_simulateStep_92 rfl ?_
    refine z_iconst 0 O dX5_simulateStep_93 (by decide +kernel) ?_
    refine z_iconst 0 O dX5_simulateStep_94 (by decide +kernel) ?_
    obtain ⟨hO37, _⟩ := id fC
    refine z_Vim [.int (iI 1), .int (iI ((v / 16) % 3)), .int (iI 0), .int (iI 0)] [] kM_X5_224 O dX5_simulateStep_95 (c_X2_attempt hst fC hG hN ⟨by omega, by omega⟩ (by omega) ⟨by omega, by omega⟩ ⟨by omega, by omega⟩) rfl rfl hO37.1 (by decide) (Nat.le_of_ble_eq_true rfl) (by omega) (by omega) (Nat.le_of_ble_eq_true rfl) zNx (fun H38 hp39 hz40 => ?_)
    obtain ⟨r41, hf42, hg43, fC44⟩ := hp39
    have fO45 := fO.fr hf42 (by first | exact (fun h => h) | exact zT1 (by omega) | (show ¬ (_ ∨ _); omega) | (show ¬ (_ ∧ _); omega))
    refine z_pop O dX5_simulateStep_98 rfl ?_
    refine z_goto 196 O dX5_simulateStep_99 (by decide) ?_
    exact z_iretv O dX5_simulateStep_196 rfl (by omega) (by omega) hpo (⟨r41, hf42, hg43, by rw [show sSt K v = (atR K 1 ((v / 16) % 3) 0 0) from stp hv.1 (by unfold sSt; (repeat first | rw [if_pos (by omega)] | rw [if_neg (by omega)]); rfl)]; exact fC44⟩)
  · skip
    refine z_tsw 5 102 O dX5_simulateStep_19 ⟨by omega, by omega⟩ (by omega) (by decide) rfl (by decide) ?_
    refine z_aload_n 2 O dX5_simulateStep_102 rfl ?_
    refine z_getf kF_X5_25 O dX5_simulateStep_103 fO.1 rfl ?_
    refine z_iconst 2 O dX5_simulateStep_106 (by decide +kernel) ?_
    refine z_iload_n 1 O dX5_simulateStep_107 rfl ?_
    refine z_iconst 0 O dX5_simulateStep_108 (by decide +kernel) ?_
    refine z_iconst 0 O dX5_simulateStep_109 (by decide +kernel) ?_
    obtain ⟨hO46, _⟩ := id fC
    refine z_Vim [.int (iI 2), .int (iI ((v / 16) % 3)), .int (iI 0), .int (iI 0)] [] kM_X5_224 O dX5_simulateStep_110 (c_X2_attempt hst fC hG hN ⟨by omega, by omega⟩ (by omega) ⟨by omega, by omega⟩ ⟨by omega, by omega⟩) rfl rfl hO46.1 (by decide) (Nat.le_of_ble_eq_true rfl) (by omega) (by omega) (Nat.le_of_ble_eq_true rfl) zNx (fun H47 hp48 hz49 => ?_)
    obtain ⟨r50, hf51, hg52, fC53⟩ := hp48
    have fO54 := fO.fr hf51 (by first | exact (fun h => h) | exact zT1 (by omega) | (show ¬ (_ ∨ _); omega) | (show ¬ (_ ∧ _); omega))
    refine z_pop O dX5_simulateStep_113 rfl ?_
    refine z_goto 196 O dX5_simulateStep_114 (by decide) ?_
    exact z_iretv O dX5_simulateStep_196 rfl (by omega) (by omega) hpo (⟨r50, hf51, hg52, by rw [show sSt K v = (atR K 2 ((v / 16) % 3) 0 0) from stp hv.1 (by unfold sSt; (repeat first | rw [if_pos (by omega)] | rw [if_neg (by omega)]); rfl)]; exact fC53⟩)
  · skip
    refine z_tsw 6 102 O dX5_simulateStep_19 ⟨by omega, by omega⟩ (by omega) (by decide) rfl (by decide) ?_
    refine z_aload_n 2 O dX5_simulateStep_102 rfl ?_
    refine z_getf kF_X5_25 O dX5_simulateStep_103 fO.1 rfl ?_
    refine z_iconst 2 O dX5_simulateStep_106 (by decide +kernel) ?_
    refine z_iload_n 1 O dX5_simulateStep_107 rfl ?_
    refine z_iconst 0 O dX5_simulateStep_108 (by decide +kernel) ?_
    refine z_iconst 0 O dX5_simulateStep_109 (by decide +kernel) ?_
    obtain ⟨hO55, _⟩ := id fC
    refine z_Vim [.int (iI 2), .int (iI ((v / 16) % 3)), .int (iI 0), .int (iI 0)] [] kM_X5_224 O dX5_simulateStep_110 (c_X2_attempt hst fC hG hN ⟨by omega, by omega⟩ (by omega) ⟨by omega, by omega⟩ ⟨by omega, by omega⟩) rfl rfl hO55.1 (by decide) (Nat.le_of_ble_eq_true rfl) (by omega) (by omega) (Nat.le_of_ble_eq_true rfl) zNx (fun H56 hp57 hz58 => ?_)
    obtain ⟨r59, hf60, hg61, fC62⟩ := hp57
    have fO63 := fO.fr hf60 (by first | exact (fun h => h) | exact zT1 (by omega) | (show ¬ (_ ∨ _); omega) | (show ¬ (_ ∧ _); omega))
    refine z_pop O dX5_simulateStep_113 rfl ?_
    refine z_goto 196 O dX5_simulateStep_114 (by decide) ?_
    exact z_iretv O dX5_simulateStep_196 rfl (by omega) (by omega) hpo (⟨r59, hf60, hg61, by rw [show sSt K v = (atR K 2 ((v / 16) % 3) 0 0) from stp hv.1 (by unfold sSt; (repeat first | rw [if_pos (by omega)] | rw [if_neg (by omega)]); rfl)]; exact fC62⟩)
  · skip
    refine z_tsw 7 117 O dX5_simulateStep_19 ⟨by omega, by omega⟩ (by omega) (by decide) rfl (by decide) ?_
    refine z_aload_n 2 O dX5_simulateStep_117 rfl ?_
    refine z_getf kF_X5_25 O dX5_simulateStep_118 fO.1 rfl ?_
    refine z_iconst 3 O dX5_simulateStep_121 (by decide +kernel) ?_
    refine z_iload_n 1 O dX5_simulateStep_122 rfl ?_
    refine z_iconst 0 O dX5_simulateStep_123 (by decide +kernel) ?_
    refine z_iconst 0 O dX5_simulateStep_124 (by decide +kernel) ?_
    obtain ⟨hO64, _⟩ := id fC
    refine z_Vim [.int (iI 3), .int (iI ((v / 16) % 3)), .int (iI 0), .int (iI 0)] [] kM_X5_224 O dX5_simulateStep_125 (c_X2_attempt hst fC hG hN ⟨by omega, by omega⟩ (by omega) ⟨by omega, by omega⟩ ⟨by omega, by omega⟩) rfl rfl hO64.1 (by decide) (Nat.le_of_ble_eq_true rfl) (by omega) (by omega) (Nat.le_of_ble_eq_true rfl) zNx (fun H65 hp66 hz67 => ?_)
    obtain ⟨r68, hf69, hg70, fC71⟩ := hp66
    have fO72 := fO.fr hf69 (by first | exact (fun h => h) | exact zT1 (by omega) | (show ¬ (_ ∨ _); omega) | (show ¬ (_ ∧ _); omega))
    refine z_pop O dX5_simulateStep_128 rfl ?_
    refine z_goto 196 O dX5_simulateStep_129 (by decide) ?_
    exact z_iretv O dX5_simulateStep_196 rfl (by omega) (by omega) hpo (⟨r68, hf69, hg70, by rw [show sSt K v = (atR K 3 ((v / 16) % 3) 0 0) from stp hv.1 (by unfold sSt; (repeat first | rw [if_pos (by omega)] | rw [if_neg (by omega)]); rfl)]; exact fC71⟩)
  · skip
    refine z_tsw 8 132 O dX5_simulateStep_19 ⟨by omega, by omega⟩ (by omega) (by decide) rfl (by decide) ?_
    refine z_aload_n 2 O dX5_simulateStep_132 rfl ?_
    refine z_getf kF_X5_25 O dX5_simulateStep_133 fO.1 rfl ?_
    refine z_iconst 4 O dX5_simulateStep_136 (by decide +kernel) ?_
    refine z_iload_n 1 O dX5_simulateStep_137 rfl ?_
    refine z_iload_n 3 O dX5_simulateStep_138 rfl ?_
    refine z_bipush 64 O dX5_simulateStep_139 (by decide +kernel) ?_
    refine z_idiv O dX5_simulateStep_141 ⟨by omega, by omega⟩ ⟨by omega, by omega⟩ (by omega) (by omega) ?_
    refine z_iconst 4 O dX5_simulateStep_142 (by decide +kernel) ?_
    refine z_irem O dX5_simulateStep_143 ⟨by omega, by omega⟩ ⟨by omega, by omega⟩ (by omega) (by omega) ?_
    refine z_iconst 0 O dX5_simulateStep_144 (by decide +kernel) ?_
    obtain ⟨hO73, _⟩ := id fC
    refine z_Vim [.int (iI 4), .int (iI ((v / 16) % 3)), .int (iI ((v / 64) % 4)), .int (iI 0)] [] kM_X5_224 O dX5_simulateStep_145 (c_X2_attempt hst fC hG hN ⟨by omega, by omega⟩ (by omega) ⟨by omega, by omega⟩ ⟨by omega, by omega⟩) rfl rfl hO73.1 (by decide) (Nat.le_of_ble_eq_true rfl) (by omega) (by omega) (Nat.le_of_ble_eq_true rfl) zNx (fun H74 hp75 hz76 => ?_)
    obtain ⟨r77, hf78, hg79, fC80⟩ := hp75
    have fO81 := fO.fr hf78 (by first | exact (fun h => h) | exact zT1 (by omega) | (show ¬ (_ ∨ _); omega) | (show ¬ (_ ∧ _); omega))
    refine z_pop O dX5_simulateStep_148 rfl ?_
    refine z_goto 196 O dX5_simulateStep_149 (by decide) ?_
    exact z_iretv O dX5_simulateStep_196 rfl (by omega) (by omega) hpo (⟨r77, hf78, hg79, by rw [show sSt K v = (atR K 4 ((v / 16) % 3) ((v / 64) % 4) 0) from stp hv.1 (by unfold sSt; (repeat first | rw [if_pos (by omega)] | rw [if_neg (by omega)]); rfl)]; exact fC80⟩)
  · skip
    refine z_tsw 9 152 O dX5_simulateStep_19 ⟨by omega, by omega⟩ (by omega) (by decide) rfl (by decide) ?_
    refine z_aload_n 2 O dX5_simulateStep_152 rfl ?_
    refine z_getf kF_X5_25 O dX5_simulateStep_153 fO.1 rfl ?_
    refine z_iconst 5 O dX5_simulateStep_156 (by decide +kernel) ?_
    refine z_iload_n 1 O dX5_simulateStep_157 rfl ?_
    refine z_iload_n 0 O dX5_simulateStep_158 rfl ?_
    refine z_iconst 1 O dX5_simulateStep_159 (by decide +kernel) ?_
    refine z_iload_n 3 O dX5_simulateStep_160 rfl ?_
    refine z_sipush 1024 O dX5_simulateStep_161 (by decide +kernel) ?_
    refine z_idiv O dX5_simulateStep_164 ⟨by omega, by omega⟩ ⟨by omega, by omega⟩ (by omega) (by omega) ?_
    refine z_bipush 99 O dX5_simulateStep_165 (by decide +kernel) ?_
    refine z_irem O dX5_simulateStep_167 ⟨by omega, by omega⟩ ⟨by omega, by omega⟩ (by omega) (by omega) ?_
    refine z_iadd O dX5_simulateStep_168 ?_
    obtain ⟨hO82, _⟩ := id fC
    refine z_Vim [.int (iI 5), .int (iI ((v / 16) % 3)), .int (iI ((v / 64) % 16)), .int (iI (1 + ((v / 1024) % 99)))] [] kM_X5_224 O dX5_simulateStep_169 (c_X2_attempt hst fC hG hN ⟨by omega, by omega⟩ (by omega) ⟨by omega, by omega⟩ ⟨by omega, by omega⟩) rfl rfl hO82.1 (by decide) (Nat.le_of_ble_eq_true rfl) (by omega) (by omega) (Nat.le_of_ble_eq_true rfl) zNx (fun H83 hp84 hz85 => ?_)
    obtain ⟨r86, hf87, hg88, fC89⟩ := hp84
    have fO90 := fO.fr hf87 (by first | exact (fun h => h) | exact zT1 (by omega) | (show ¬ (_ ∨ _); omega) | (show ¬ (_ ∧ _); omega))
    refine z_pop O dX5_simulateStep_172 rfl ?_
    refine z_goto 196 O dX5_simulateStep_173 (by decide) ?_
    exact z_iretv O dX5_simulateStep_196 rfl (by omega) (by omega) hpo (⟨r86, hf87, hg88, by rw [show sSt K v = (atR K 5 ((v / 16) % 3) ((v / 64) % 16) (1 + ((v / 1024) % 99))) from stp hv.1 (by unfold sSt; (repeat first | rw [if_pos (by omega)] | rw [if_neg (by omega)]); rw [rT_a (by omega)]; rfl)]; exact fC89⟩)
  · skip
    refine z_tswO 176 O dX5_simulateStep_19 ⟨by omega, by omega⟩ c_19 (by decide) ?_
    refine z_aload_n 2 O dX5_simulateStep_176 rfl ?_
    refine z_getf kF_X5_25 O dX5_simulateStep_177 fO.1 rfl ?_
    refine z_bipush 6 O dX5_simulateStep_180 (by decide +kernel) ?_
    refine z_iload_n 1 O dX5_simulateStep_182 rfl ?_
    refine z_iload_n 0 O dX5_simulateStep_183 rfl ?_
    refine z_iload_n 3 O dX5_simulateStep_184 rfl ?_
    refine z_sipush 1024 O dX5_simulateStep_185 (by decide +kernel) ?_
    refine z_idiv O dX5_simulateStep_188 ⟨by omega, by omega⟩ ⟨by omega, by omega⟩ (by omega) (by omega) ?_
    refine z_bipush 100 O dX5_simulateStep_189 (by decide +kernel) ?_
    refine z_irem O dX5_simulateStep_191 ⟨by omega, by omega⟩ ⟨by omega, by omega⟩ (by omega) (by omega) ?_
    obtain ⟨hO91, _⟩ := id fC
    refine z_Vim [.int (iI 6), .int (iI ((v / 16) % 3)), .int (iI ((v / 64) % 16)), .int (iI ((v / 1024) % 100))] [] kM_X5_224 O dX5_simulateStep_192 (c_X2_attempt hst fC hG hN ⟨by omega, by omega⟩ (by omega) ⟨by omega, by omega⟩ ⟨by omega, by omega⟩) rfl rfl hO91.1 (by decide) (Nat.le_of_ble_eq_true rfl) (by omega) (by omega) (Nat.le_of_ble_eq_true rfl) zNx (fun H92 hp93 hz94 => ?_)
    obtain ⟨r95, hf96, hg97, fC98⟩ := hp93
    have fO99 := fO.fr hf96 (by first | exact (fun h => h) | exact zT1 (by omega) | (show ¬ (_ ∨ _); omega) | (show ¬ (_ ∧ _); omega))
    refine z_pop O dX5_simulateStep_195 rfl ?_
    exact z_iretv O dX5_simulateStep_196 rfl (by omega) (by omega) hpo (⟨r95, hf96, hg97, by rw [show sSt K v = (atR K 6 ((v / 16) % 3) ((v / 64) % 16) ((v / 1024) % 100)) from stp hv.1 (by unfold sSt; (repeat first | rw [if_pos (by omega)] | rw [if_neg (by omega)]); rw [uT_a (by omega)]; rfl)]; exact fC98⟩)

