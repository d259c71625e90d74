/-! the reference: runScript, simulate (written by program: wip/whole/gen/model6.py) -/
theorem c_X6_stir {E : zE} (hst : E.1.stackTraces = false) {H : Heap} {r : zH} {q : Nat} {Q : Nat → Nat} {rf n sp : Int} {gd : Bool} {lo fi ac : Int} {K : Int → Int} {N : Int} {v : Int} (hO : zMo E H r q Q rf n sp gd lo fi ac) (hY : zA E H r 100004 (Q 4) 4086 K) (hG : sW K N) (hN : N ≤ 639) (hv : 0 ≤ v ∧ v < 2147483648) : zC E yX6_stir cX6_stir 4 none 7 154 [.ref q, .int (iI v)] H 0 0 (zRv (fun H1 => zFr H r H1 r (fun s => s = 100004) ∧ zA E H1 r 100004 (Q 4) 4086 (sSt K v))) zN := by
  refine zC.of (by decide) (Nat.le_of_ble_eq_true rfl) hst ?_
  intro x O hE hpo hpx
  subst hE
  change zG x H 0 0 0 [(0, .ref q), (1, .int (iI v))] []
  refine z_iload_n 1 O dX6_stir_0 rfl ?_
  refine z_bipush 16 O dX6_stir_1 (by decide +kernel) ?_
  refine z_idiv O dX6_stir_3 ⟨by omega, by omega⟩ ⟨by omega, by omega⟩ (by omega) (by omega) ?_
  refine z_iconst 3 O dX6_stir_4 (by decide +kernel) ?_
  refine z_irem O dX6_stir_5 ⟨by omega, by omega⟩ ⟨by omega, by omega⟩ (by omega) (by omega) ?_
  refine z_istore_n [(2, .int (iI ((v / 16) % 3))), (0, .ref q), (1, .int (iI v))] O dX6_stir_6 (by decide) rfl ?_
  refine z_iload_n 2 O dX6_stir_7 rfl ?_
  refine z_bipush 64 O dX6_stir_8 (by decide +kernel) ?_
  refine z_idiv O dX6_stir_10 ⟨by omega, by omega⟩ ⟨by omega, by omega⟩ (by omega) (by omega) ?_
  refine z_bipush 16 O dX6_stir_11 (by decide +kernel) ?_
  refine z_irem O dX6_stir_13 ⟨by omega, by omega⟩ ⟨by omega, by omega⟩ (by omega) (by omega) ?_
  refine z_istore_n [(3, .int (iI ((v / 64) % 16))), (2, .int (iI ((v / 16) % 3))), (0, .ref q), (1, .int (iI v))] O dX6_stir_14 (by decide) rfl ?_
  refine z_iload_n 3 O dX6_stir_15 rfl ?_
  refine z_bipush 16 O dX6_stir_16 (by decide +kernel) ?_
  refine z_irem O dX6_stir_18 ⟨by omega, by omega⟩ ⟨by omega, by omega⟩ (by omega) (by omega) ?_
  rcases (show (v % 16) = 0 ∨ (v % 16) = 1 ∨ (v % 16) = 2 ∨ (v % 16) = 3 ∨ (v % 16) = 4 ∨ (v % 16) = 5 ∨ (v % 16) = 6 ∨ (v % 16) = 7 ∨ (v % 16) = 8 ∨ (v % 16) = 9 ∨ ((v % 16) < 0 ∨ 9 < (v % 16)) by omega) with c_19 | c_19 | c_19 | c_19 | c_19 | c_19 | c_19 | c_19 | c_19 | c_19 | c_19
  · skip
    refine z_tsw 0 72 O dX6_stir_19 ⟨by omega, by omega⟩ (by omega) (by decide) rfl (by decide) ?_
    refine z_aload_n 2 O dX6_stir_72 rfl ?_
    refine z_iload_n 1 O dX6_stir_73 rfl ?_
    refine z_iconst 0 O dX6_stir_74 (by decide +kernel) ?_
    refine z_Vim [.int (iI ((v / 16) % 3)), .int (iI 0)] [] kM_X6_255 O dX6_stir_75 (c_X6_bare hst hO hY hG hN ⟨by omega, by omega⟩ ⟨by omega, by omega⟩) rfl rfl hO.1 (by decide) (Nat.le_of_ble_eq_true rfl) (by omega) (by omega) (Nat.le_of_ble_eq_true rfl) zNx (fun H1 hp2 hz3 => ?_)
    obtain ⟨hf4, hz5⟩ := hp2
    have hO6 := hO.fr hf4 (by first | exact zT1 (by omega) | (show ¬ (_ ∨ _); omega) | (show ¬ (_ ∧ _); omega))
    refine z_pop O dX6_stir_78 rfl ?_
    refine z_goto 162 O dX6_stir_79 (by decide) ?_
    exact z_iretv O dX6_stir_162 rfl (by omega) (by omega) hpo (⟨(hf4.up (fun s h => by first | exact h.elim | omega | (simp at h ⊢; omega))), (by unfold sSt; (repeat first | rw [if_pos (by omega)] | rw [if_neg (by omega)]); exact hz5)⟩)
  · skip
    refine z_tsw 1 72 O dX6_stir_19 ⟨by omega, by omega⟩ (by omega) (by decide) rfl (by decide) ?_
    refine z_aload_n 2 O dX6_stir_72 rfl ?_
    refine z_iload_n 1 O dX6_stir_73 rfl ?_
    refine z_iconst 0 O dX6_stir_74 (by decide +kernel) ?_
    refine z_Vim [.int (iI ((v / 16) % 3)), .int (iI 0)] [] kM_X6_255 O dX6_stir_75 (c_X6_bare hst hO hY hG hN ⟨by omega, by omega⟩ ⟨by omega, by omega⟩) rfl rfl hO.1 (by decide) (Nat.le_of_ble_eq_true rfl) (by omega) (by omega) (Nat.le_of_ble_eq_true rfl) zNx (fun H7 hp8 hz9 => ?_)
    obtain ⟨hf10, hz11⟩ := hp8
    have hO12 := hO.fr hf10 (by first | exact zT1 (by omega) | (show ¬ (_ ∨ _); omega) | (show ¬ (_ ∧ _); omega))
    refine z_pop O dX6_stir_78 rfl ?_
    refine z_goto 162 O dX6_stir_79 (by decide) ?_
    exact z_iretv O dX6_stir_162 rfl (by omega) (by omega) hpo (⟨(hf10.up (fun s h => by first | exact h.elim | omega | (simp at h ⊢; omega))), (by unfold sSt; (repeat first | rw [if_pos (by omega)] | rw [if_neg (by omega)]); exact hz11)⟩)
  · skip
    refine z_tsw 2 72 O dX6_stir_19 ⟨by omega, by omega⟩ (by omega) (by decide) rfl (by decide) ?_
    refine z_aload_n 2 O dX6_stir_72 rfl ?_
    refine z_iload_n 1 O dX6_stir_73 rfl ?_
    refine z_iconst 0 O dX6_stir_74 (by decide +kernel) ?_
    refine z_Vim [.int (iI ((v / 16) % 3)), .int (iI 0)] [] kM_X6_255 O dX6_stir_75 (c_X6_bare hst hO hY hG hN ⟨by omega, by omega⟩ ⟨by omega, by omega⟩) rfl rfl hO.1 (by decide) (Nat.le_of_ble_eq_true rfl) (by omega) (by omega) (Nat.le_of_ble_eq_true rfl) zNx (fun H13 hp14 hz15 => ?_)
    obtain ⟨hf16, hz17⟩ := hp14
    have hO18 := hO.fr hf16 (by first | exact zT1 (by omega) | (show ¬ (_ ∨ _); omega) | (show ¬ (_ ∧ _); omega))
    refine z_pop O dX6_stir_78 rfl ?_
    refine z_goto 162 O dX6_stir_79 (by decide) ?_
    exact z_iretv O dX6_stir_162 rfl (by omega) (by omega) hpo (⟨(hf16.up (fun s h => by first | exact h.elim | omega | (simp at h ⊢; omega))), (by unfold sSt; (repeat first | rw [if_pos (by omega)] | rw [if_neg (by omega)]); exact hz17)⟩)
  · skip
    refine z_tsw 3 82 O dX6_stir_19 ⟨by omega, by omega⟩ (by omega) (by decide) rfl (by decide) ?_
    refine z_aload_n 2 O dX6_stir_82 rfl ?_
    refine z_iload_n 1 O dX6_stir_83 rfl ?_
    refine z_iconst 1 O dX6_stir_84 (by decide +kernel) ?_
    refine z_Vim [.int (iI ((v / 16) % 3)), .int (iI 1)] [] kM_X6_255 O dX6_stir_85 (c_X6_bare hst hO hY hG hN ⟨by omega, by omega⟩ ⟨by omega, by omega⟩) rfl rfl hO.1 (by decide) (Nat.le_of_ble_eq_true rfl) (by omega) (by omega) (Nat.le_of_ble_eq_true rfl) zNx (fun H19 hp20 hz21 => ?_)
    obtain ⟨hf22, hz23⟩ := hp20
    have hO24 := hO.fr hf22 (by first | exact zT1 (by omega) | (show ¬ (_ ∨ _); omega) | (show ¬ (_ ∧ _); omega))
    refine z_pop O dX6_stir_88 rfl ?_
    refine z_goto 162 O dX6_stir_89 (by decide) ?_
    exact z_iretv O dX6_stir_162 rfl (by omega) (by omega) hpo (⟨(hf22.up (fun s h => by first | exact h.elim | omega | (simp at h ⊢; omega))), (by unfold sSt; (repeat first | rw [if_pos (by omega)] | rw [if_neg (by omega)]); exact hz23)⟩)
  · skip
    refine z_tsw 4 82 O dX6_stir_19 ⟨by omega, by omega⟩ (by omega) (by decide) rfl (by decide) ?_
    refine z_aload_n 2 O dX6_stir_82 rfl ?_
    refine z_iload_n 1 O dX6_stir_83 rfl ?_
    refine z_iconst 1 O dX6_stir_84 (by decide +kernel) ?_
    refine z_Vim [.int (iI ((v / 16) % 3)), .int (iI 1)] [] kM_X6_255 O dX6_stir_85 (c_X6_bare hst hO hY hG hN ⟨by omega, by omega⟩ ⟨by omega, by omega⟩) rfl rfl hO.1 (by decide) (Nat.le_of_ble_eq_true rfl) (by omega) (by omega) (Nat.le_of_ble_eq_true rfl) zNx (fun H25 hp26 hz27 => ?_)
    obtain ⟨hf28, hz29⟩ := hp26
    have hO30 := hO.fr hf28 (by first | exact zT1 (by omega) | (show ¬ (_ ∨ _); omega) | (show ¬ (_ ∧ _); omega))
    refine z_pop O dX6_stir_88 rfl ?_
    refine z_goto 162 O dX6_stir_89 (by decide) ?_
    exact z_iretv O dX6_stir_162 rfl (by omega) (by omega) hpo (⟨(hf28.up (fun s h => by first | exact h.elim | omega | (simp at h ⊢; omega))), (by unfold sSt; (repeat first | rw [if_pos (by omega)] | rw [if_neg (by omega)]); exact hz29)⟩)
  · skip
    refine z_tsw 5 92 O dX6_stir_19 ⟨by omega, by omega⟩ (by omega) (by decide) rfl (by decide) ?_
    refine z_aload_n 2 O dX6_stir_92 rfl ?_
    refine z_iload_n 1 O dX6_stir_93 rfl ?_
    refine z_iconst 2 O dX6_stir_94 (by decide +kernel) ?_
    refine z_Vim [.int (iI ((v / 16) % 3)), .int (iI 2)] [] kM_X6_255 O dX6_stir_95 (c_X6_bare hst hO hY hG hN ⟨by omega, by omega⟩ ⟨by omega, by omega⟩) rfl rfl hO.1 (by decide) (Nat.le_of_ble_eq_true rfl) (by omega) (by omega) (Nat.le_of_ble_eq_true rfl) zNx (fun H31 hp32 hz33 => ?_)
    obtain ⟨hf34, hz35⟩ := hp32
    have hO36 := hO.fr hf34 (by first | exact zT1 (by omega) | (show ¬ (_ ∨ _); omega) | (show ¬ (_ ∧ _); omega))
    refine z_pop O dX6_stir_98 rfl ?_
    refine z_goto 162 O dX6_stir_99 (by decide) ?_
    exact z_iretv O dX6_stir_162 rfl (by omega) (by omega) hpo (⟨(hf34.up (fun s h => by first | exact h.elim | omega | (simp at h ⊢; omega))), (by unfold sSt; (repeat first | rw [if_pos (by omega)] | rw [if_neg (by omega)]); exact hz35)⟩)
  · skip
    refine z_tsw 6 92 O dX6_stir_19 ⟨by omega, by omega⟩ (by omega) (by decide) rfl (by decide) ?_
    refine z_aload_n 2 O dX6_stir_92 rfl ?_
    refine z_iload_n 1 O dX6_stir_93 rfl ?_
    refine z_iconst 2 O dX6_stir_94 (by decide +kernel) ?_
    refine z_Vim [.int (iI ((v / 16) % 3)), .int (iI 2)] [] kM_X6_255 O dX6_stir_95 (c_X6_bare hst hO hY hG hN ⟨by omega, by omega⟩ ⟨by omega, by omega⟩) rfl rfl hO.1 (by decide) (Nat.le_of_ble_eq_true rfl) (by omega) (by omega) (Nat.le_of_ble_eq_true rfl) zNx (fun H37 hp38 hz39 => ?_)
    obtain ⟨hf40, hz41⟩ := hp38
    have hO42 := hO.fr hf40 (by first | exact zT1 (by omega) | (show ¬ (_ ∨ _); omega) | (show ¬ (_ ∧ _); omega))
    refine z_pop O dX6_stir_98 rfl ?_
    refine z_goto 162 O dX6_stir_99 (by decide) ?_
    exact z_iretv O dX6_stir_162 rfl (by omega) (by omega) hpo (⟨(hf40.up (fun s h => by first | exact h.elim | omega | (simp at h ⊢; omega))), (by unfold sSt; (repeat first | rw [if_pos (by omega)] | rw [if_neg (by omega)]); exact hz41)⟩)
  · skip
    refine z_tsw 7 102 O dX6_stir_19 ⟨by omega, by omega⟩ (by omega) (by decide) rfl (by decide) ?_
    refine z_aload_n 2 O dX6_stir_102 rfl ?_
    refine z_iload_n 1 O dX6_stir_103 rfl ?_
    refine z_iconst 3 O dX6_stir_104 (by decide +kernel) ?_
    refine z_Vim [.int (iI ((v / 16) % 3)), .int (iI 3)] [] kM_X6_255 O dX6_stir_105 (c_X6_bare hst hO hY hG hN ⟨by omega, by omega⟩ ⟨by omega, by omega⟩) rfl rfl hO.1 (by decide) (Nat.le_of_ble_eq_true rfl) (by omega) (by omega) (Nat.le_of_ble_eq_true rfl) zNx (fun H43 hp44 hz45 => ?_)
    obtain ⟨hf46, hz47⟩ := hp44
    have hO48 := hO.fr hf46 (by first | exact zT1 (by omega) | (show ¬ (_ ∨ _); omega) | (show ¬ (_ ∧ _); omega))
    refine z_pop O dX6_stir_108 rfl ?_
    refine z_goto 162 O dX6_stir_109 (by decide) ?_
    exact z_iretv O dX6_stir_162 rfl (by omega) (by omega) hpo (⟨(hf46.up (fun s h => by first | exact h.elim | omega | (simp at h ⊢; omega))), (by unfold sSt; (repeat first | rw [if_pos (by omega)] | rw [if_neg (by omega)]); exact hz47)⟩)
  · skip
    refine z_tsw 8 112 O dX6_stir_19 ⟨by omega, by omega⟩ (by omega) (by decide) rfl (by decide) ?_
    refine z_aload_n 2 O dX6_stir_112 rfl ?_
    refine z_iload_n 1 O dX6_stir_113 rfl ?_
    refine z_iload_n 3 O dX6_stir_114 rfl ?_
    refine z_bipush 64 O dX6_stir_115 (by decide +kernel) ?_
    refine z_idiv O dX6_stir_117 ⟨by omega, by omega⟩ ⟨by omega, by omega⟩ (by omega) (by omega) ?_
    refine z_iconst 4 O dX6_stir_118 (by decide +kernel) ?_
    refine z_irem O dX6_stir_119 ⟨by omega, by omega⟩ ⟨by omega, by omega⟩ (by omega) (by omega) ?_
    refine z_Vim [.int (iI ((v / 16) % 3)), .int (iI ((v / 64) % 4))] [] kM_X6_263 O dX6_stir_120 (c_X6_goesBack hst hO hY hG hN ⟨by omega, by omega⟩ ⟨by omega, by omega⟩) rfl rfl hO.1 (by decide) (Nat.le_of_ble_eq_true rfl) (by omega) (by omega) (Nat.le_of_ble_eq_true rfl) zNx (fun H49 hp50 hz51 => ?_)
    obtain ⟨hf52, hz53⟩ := hp50
    have hO54 := hO.fr hf52 (by first | exact zT1 (by omega) | (show ¬ (_ ∨ _); omega) | (show ¬ (_ ∧ _); omega))
    refine z_pop O dX6_stir_123 rfl ?_
    refine z_goto 162 O dX6_stir_124 (by decide) ?_
    exact z_iretv O dX6_stir_162 rfl (by omega) (by omega) hpo (⟨(hf52.up (fun s h => by first | exact h.elim | omega | (simp at h ⊢; omega))), (by unfold sSt; (repeat first | rw [if_pos (by omega)] | rw [if_neg (by omega)]); exact hz53)⟩)
  · skip
    refine z_tsw 9 127 O dX6_stir_19 ⟨by omega, by omega⟩ (by omega) (by decide) rfl (by decide) ?_
    refine z_aload_n 2 O dX6_stir_127 rfl ?_
    refine z_iload_n 1 O dX6_stir_128 rfl ?_
    refine z_iload_n 0 O dX6_stir_129 rfl ?_
    refine z_iconst 1 O dX6_stir_130 (by decide +kernel) ?_
    refine z_iload_n 3 O dX6_stir_131 rfl ?_
    refine z_sipush 1024 O dX6_stir_132 (by decide +kernel) ?_
    refine z_idiv O dX6_stir_135 ⟨by omega, by omega⟩ ⟨by omega, by omega⟩ (by omega) (by omega) ?_
    refine z_bipush 99 O dX6_stir_136 (by decide +kernel) ?_
    refine z_irem O dX6_stir_138 ⟨by omega, by omega⟩ ⟨by omega, by omega⟩ (by omega) (by omega) ?_
    refine z_iadd O dX6_stir_139 ?_
    refine z_Vim [.int (iI ((v / 16) % 3)), .int (iI ((v / 64) % 16)), .int (iI (1 + ((v / 1024) % 99)))] [] kM_X6_266 O dX6_stir_140 (c_X6_regrets hst hO hY hG hN ⟨by omega, by omega⟩ ⟨by omega, by omega⟩ ⟨by omega, by omega⟩) rfl rfl hO.1 (by decide) (Nat.le_of_ble_eq_true rfl) (by omega) (by omega) (Nat.le_of_ble_eq_true rfl) zNx (fun H55 hp56 hz57 => ?_)
    obtain ⟨hf58, hz59⟩ := hp56
    have hO60 := hO.fr hf58 (by first | exact zT1 (by omega) | (show ¬ (_ ∨ _); omega) | (show ¬ (_ ∧ _); omega))
    refine z_pop O dX6_stir_143 rfl ?_
    refine z_goto 162 O dX6_stir_144 (by decide) ?_
    exact z_iretv O dX6_stir_162 rfl (by omega) (by omega) hpo (⟨(hf58.up (fun s h => by first | exact h.elim | omega | (simp at h ⊢; omega))), (by unfold sSt; (repeat first | rw [if_pos (by omega)] | rw [if_neg (by omega)]); exact hz59)⟩)
  · skip
    refine z_tswO 147 O dX6_stir_19 ⟨by omega, by omega⟩ c_19 (by decide) ?_
    refine z_aload_n 2 O dX6_stir_147 rfl ?_
    refine z_iload_n 1 O dX6_stir_148 rfl ?_
    refine z_iload_n 0 O dX6_stir_149 rfl ?_
    refine z_iload_n 3 O dX6_stir_150 rfl ?_
    refine z_sipush 1024 O dX6_stir_151 (by decide +kernel) ?_
    refine z_idiv O dX6_stir_154 ⟨by omega, by omega⟩ ⟨by omega, by omega⟩ (by omega) (by omega) ?_
    refine z_bipush 100 O dX6_stir_155 (by decide +kernel) ?_
    refine z_irem O dX6_stir_157 ⟨by omega, by omega⟩ ⟨by omega, by omega⟩ (by omega) (by omega) ?_
    refine z_Vim [.int (iI ((v / 16) % 3)), .int (iI ((v / 64) % 16)), .int (iI ((v / 1024) % 100))] [] kM_X6_259 O dX6_stir_158 (c_X6_writes hst hO hY hG hN ⟨by omega, by omega⟩ ⟨by omega, by omega⟩) rfl rfl hO.1 (by decide) (Nat.le_of_ble_eq_true rfl) (by omega) (by omega) (Nat.le_of_ble_eq_true rfl) zNx (fun H61 hp62 hz63 => ?_)
    obtain ⟨hf64, hz65⟩ := hp62
    have hO66 := hO.fr hf64 (by first | exact zT1 (by omega) | (show ¬ (_ ∨ _); omega) | (show ¬ (_ ∧ _); omega))
    refine z_pop O dX6_stir_161 rfl ?_
    exact z_iretv O dX6_stir_162 rfl (by omega) (by omega) hpo (⟨(hf64.up (fun s h => by first | exact h.elim | omega | (simp at h ⊢; omega))), (by unfold sSt; (repeat first | rw [if_pos (by omega)] | rw [if_neg (by omega)]); exact hz65)⟩)

theorem c_X6_runScript {E : zE} (hst : E.1.stackTraces = false) {H : Heap} {r : zH} {q : Nat} {Q : Nat → Nat} {n : Int} {tx G : Int → Int} {fi ac : Int} {dd : Nat → Int → Int} {kp ik : Int → Int} {rf N : Int} {n0 s0 : Int} (hM : zMs E H r q Q n tx G fi ac dd kp ik rf) (hOK : mOK n tx G fi ac ik N) (hn0 : zR n0) (hs0 : zRL s0) (hN6 : N ≤ 630) : zC E yX6_runScript cX6_runScript 6 (some .int) 8 179 [.ref q, .int (iI n0), .long (iL s0)] H 0 0 (zRi (if (cRs n0 s0) = 0 then (sRu n0.toNat s0 0 G) else 0) (fun H1 => zFr H r H1 r (fun s => 100000 ≤ s) ∧ (((cRs n0 s0) ≠ 0 ∧ zMs E H1 r q Q n tx G fi ac dd kp ik (cRs n0 s0)) ∨ ((cRs n0 s0) = 0 ∧ zMs E H1 r q Q n tx G fi ac dd kp ik 0)))) zN := by
  refine zC.of (by decide) (Nat.le_of_ble_eq_true rfl) hst ?_
  intro x O hE hpo hpx
  subst hE
  change zG x H 0 0 0 [(0, .ref q), (1, .int (iI n0)), (2, .long (iL s0))] []
  obtain ⟨sp, gd, lo, rd, tr, hO, hT, hR, hA, hY, hD, hK, hI⟩ := hM
  obtain ⟨hn, hx, hG, hN, hfi, hac, hik⟩ := hOK
  refine z_iload_n 1 O dX6_runScript_0 rfl ?_
  refine z_i2l O dX6_runScript_1 ⟨by omega, by omega⟩ ?_
  refine z_lconst 1 O dX6_runScript_2 (by decide +kernel) ?_
  refine z_ldc2 (iL 3) O dX6_runScript_3 (List.mem_of_getElem? (i := 1209) (by decide +kernel)) ?_
  refine z_Si [.long (iL n0), .long (iL 1), .long (iL 3)] [] kM_X6_92 O dX6_runScript_6 (c_X6_in hst ⟨by omega, by omega⟩ ⟨by omega, by omega⟩ ⟨by omega, by omega⟩) rfl rfl (by decide) (Nat.le_of_ble_eq_true rfl) (by omega) (by omega) (Nat.le_of_ble_eq_true rfl) zNx ?_
  refine z_istore [(4, .int (iI (zb (sBt n0 1 3)))), (0, .ref q), (1, .int (iI n0)), (2, .long (iL s0))] O dX6_runScript_9 (by decide) rfl ?_
  refine z_aload_n 1 O dX6_runScript_11 rfl ?_
  refine z_iload 0 O dX6_runScript_12 rfl ?_
  refine z_ifb_eq 46 O dX6_runScript_14 (by decide) (fun c_14 => ?_) (fun c_14 => ?_)
  · skip
    have k_14 := sBt_f.mp c_14
    refine z_iconst 1 O dX6_runScript_46 (by decide +kernel) ?_
    refine z_Vim [.int (iI 1)] [] kM_X6_118 O dX6_runScript_47 (c_X6_refused hst hO ⟨by omega, by omega⟩) rfl rfl hO.1 (by decide) (Nat.le_of_ble_eq_true rfl) (by omega) (by omega) (Nat.le_of_ble_eq_true rfl) zNx (fun H1 hp2 hz3 => ?_)
    obtain ⟨hf4, hz5⟩ := hp2
    have hT6 := hT.fr hf4 (by first | exact zT1 (by omega) | (show ¬ (_ ∨ _); omega) | (show ¬ (_ ∧ _); omega))
    have hR7 := hR.fr hf4 (by first | exact zT1 (by omega) | (show ¬ (_ ∨ _); omega) | (show ¬ (_ ∧ _); omega))
    have hA8 := hA.fr hf4 (by first | exact zT1 (by omega) | (show ¬ (_ ∨ _); omega) | (show ¬ (_ ∧ _); omega))
    have hY9 := hY.fr hf4 (by first | exact zT1 (by omega) | (show ¬ (_ ∨ _); omega) | (show ¬ (_ ∧ _); omega))
    have hD10 := hD.fr hf4 (by first | exact zT1 (by omega) | (show ¬ (_ ∨ _); omega) | (show ¬ (_ ∧ _); omega)) (by first | exact zT1 (by omega) | (show ¬ (_ ∨ _); omega) | (show ¬ (_ ∧ _); omega)) (by first | exact zT1 (by omega) | (show ¬ (_ ∨ _); omega) | (show ¬ (_ ∧ _); omega)) (by first | exact zT1 (by omega) | (show ¬ (_ ∨ _); omega) | (show ¬ (_ ∧ _); omega))
    have hK11 := hK.fr hf4 (by first | exact zT1 (by omega) | (show ¬ (_ ∨ _); omega) | (show ¬ (_ ∧ _); omega))
    have hI12 := hI.fr hf4 (by first | exact zT1 (by omega) | (show ¬ (_ ∨ _); omega) | (show ¬ (_ ∧ _); omega))
    rw [show zb (decide ((0 : Int) < 1)) = 1 from rfl]
    refine z_if_eq 55 O dX6_runScript_50 (by decide) ⟨by omega, by omega⟩ (fun c_50 => ?_) (fun c_50 => ?_)
    · exfalso; omega
    · skip
      refine z_iconst 0 O dX6_runScript_53 (by decide +kernel) ?_
      exact z_ireti O dX6_runScript_54 rfl (by omega) (by omega) hpo (by rw [if_neg (by rw [show (cRs n0 s0) = 1 from by unfold cRs; (repeat first | rw [if_pos (by omega)] | rw [if_neg (by omega)] | rw [if_neg (by rw [c_14]; decide)])]; decide)]) (⟨(hf4.up (fun s h => by first | exact h.elim | omega | (simp at h ⊢; omega))), Or.inl ⟨(by rw [show (cRs n0 s0) = 1 from by unfold cRs; (repeat first | rw [if_pos (by omega)] | rw [if_neg (by omega)] | rw [if_neg (by rw [c_14]; decide)])]; decide), (by rw [show (cRs n0 s0) = 1 from by unfold cRs; (repeat first | rw [if_pos (by omega)] | rw [if_neg (by omega)] | rw [if_neg (by rw [c_14]; decide)])]; exact ⟨_, _, _, _, _, hz5, hT6, hR7, hA8, hY9, hD10, hK11, hI12⟩)⟩⟩)
  · skip
    have k_14 := sBt_t.mp c_14
    refine z_lload_n 3 O dX6_runScript_17 rfl ?_
    refine z_lconst 0 O dX6_runScript_18 (by decide +kernel) ?_
    refine z_iload 0 O dX6_runScript_19 rfl ?_
    refine z_ifb_eq 30 O dX6_runScript_21 (by decide) (fun c_21 => ?_) (fun c_21 => ?_)
    · exfalso; exact absurd (c_14.symm.trans c_21) (by decide)
    · skip
      have k_21 := sBt_t.mp c_21
      refine z_iconst 5 O dX6_runScript_24 (by decide +kernel) ?_
      refine z_iload_n 2 O dX6_runScript_25 rfl ?_
      refine z_imul O dX6_runScript_26 ?_
      refine z_goto 31 O dX6_runScript_27 (by decide) ?_
      refine z_Sl [.int (iI (5 * n0))] [.long (iL 0), .long (iL s0), .ref q] kM_X6_269 O dX6_runScript_31 (c_X6_tenToI hst (5 * n0.toNat) (by omega) (by omega)) rfl rfl (by decide) (Nat.le_of_ble_eq_true rfl) (by omega) (by omega) (Nat.le_of_ble_eq_true rfl) zNx ?_
      have ht13 := zTen_R (5 * n0.toNat) (by omega)
      refine z_lconst 1 O dX6_runScript_34 (by decide +kernel) ?_
      refine z_lsubI O dX6_runScript_35 ?_
      refine z_Si [.long (iL s0), .long (iL 0), .long (iL ((zTen (5 * n0.toNat)) - 1))] [.ref q] kM_X6_92 O dX6_runScript_36 (c_X6_in hst ⟨by omega, by omega⟩ ⟨by omega, by omega⟩ ⟨by omega, by omega⟩) rfl rfl (by decide) (Nat.le_of_ble_eq_true rfl) (by omega) (by omega) (Nat.le_of_ble_eq_true rfl) zNx ?_
      refine z_ifb_eq 46 O dX6_runScript_39 (by decide) (fun c_39 => ?_) (fun c_39 => ?_)
      · skip
        have k_39 := sBt_f.mp c_39
        refine z_iconst 1 O dX6_runScript_46 (by decide +kernel) ?_
        refine z_Vim [.int (iI 1)] [] kM_X6_118 O dX6_runScript_47 (c_X6_refused hst hO ⟨by omega, by omega⟩) rfl rfl hO.1 (by decide) (Nat.le_of_ble_eq_true rfl) (by omega) (by omega) (Nat.le_of_ble_eq_true rfl) zNx (fun H14 hp15 hz16 => ?_)
        obtain ⟨hf17, hz18⟩ := hp15
        have hT19 := hT.fr hf17 (by first | exact zT1 (by omega) | (show ¬ (_ ∨ _); omega) | (show ¬ (_ ∧ _); omega))
        have hR20 := hR.fr hf17 (by first | exact zT1 (by omega) | (show ¬ (_ ∨ _); omega) | (show ¬ (_ ∧ _); omega))
        have hA21 := hA.fr hf17 (by first | exact zT1 (by omega) | (show ¬ (_ ∨ _); omega) | (show ¬ (_ ∧ _); omega))
        have hY22 := hY.fr hf17 (by first | exact zT1 (by omega) | (show ¬ (_ ∨ _); omega) | (show ¬ (_ ∧ _); omega))
        have hD23 := hD.fr hf17 (by first | exact zT1 (by omega) | (show ¬ (_ ∨ _); omega) | (show ¬ (_ ∧ _); omega)) (by first | exact zT1 (by omega) | (show ¬ (_ ∨ _); omega) | (show ¬ (_ ∧ _); omega)) (by first | exact zT1 (by omega) | (show ¬ (_ ∨ _); omega) | (show ¬ (_ ∧ _); omega)) (by first | exact zT1 (by omega) | (show ¬ (_ ∨ _); omega) | (show ¬ (_ ∧ _); omega))
        have hK24 := hK.fr hf17 (by first | exact zT1 (by omega) | (show ¬ (_ ∨ _); omega) | (show ¬ (_ ∧ _); omega))
        have hI25 := hI.fr hf17 (by first | exact zT1 (by omega) | (show ¬ (_ ∨ _); omega) | (show ¬ (_ ∧ _); omega))
        rw [show zb (decide ((0 : Int) < 1)) = 1 from rfl]
        refine z_if_eq 55 O dX6_runScript_50 (by decide) ⟨by omega, by omega⟩ (fun c_50 => ?_) (fun c_50 => ?_)
        · exfalso; omega
        · skip
          refine z_iconst 0 O dX6_runScript_53 (by decide +kernel) ?_
          exact z_ireti O dX6_runScript_54 rfl (by omega) (by omega) hpo (by rw [if_neg (by rw [show (cRs n0 s0) = 1 from by unfold cRs; (repeat first | rw [if_pos (by omega)] | rw [if_neg (by omega)] | rw [if_pos c_21] | rw [if_neg (by rw [c_39]; decide)])]; decide)]) (⟨(hf17.up (fun s h => by first | exact h.elim | omega | (simp at h ⊢; omega))), Or.inl ⟨(by rw [show (cRs n0 s0) = 1 from by unfold cRs; (repeat first | rw [if_pos (by omega)] | rw [if_neg (by omega)] | rw [if_pos c_21] | rw [if_neg (by rw [c_39]; decide)])]; decide), (by rw [show (cRs n0 s0) = 1 from by unfold cRs; (repeat first | rw [if_pos (by omega)] | rw [if_neg (by omega)] | rw [if_pos c_21] | rw [if_neg (by rw [c_39]; decide)])]; exact ⟨_, _, _, _, _, hz18, hT19, hR20, hA21, hY22, hD23, hK24, hI25⟩)⟩⟩)
      · skip
        have k_39 := sBt_t.mp c_39
        refine z_iconst 0 O dX6_runScript_42 (by decide +kernel) ?_
        refine z_goto 47 O dX6_runScript_43 (by decide) ?_
        refine z_Vim [.int (iI 0)] [] kM_X6_118 O dX6_runScript_47 (c_X6_refused hst hO ⟨by omega, by omega⟩) rfl rfl hO.1 (by decide) (Nat.le_of_ble_eq_true rfl) (by omega) (by omega) (Nat.le_of_ble_eq_true rfl) zNx (fun H26 hp27 hz28 => ?_)
        obtain ⟨hf29, hz30⟩ := hp27
        have hT31 := hT.fr hf29 (by first | exact zT1 (by omega) | (show ¬ (_ ∨ _); omega) | (show ¬ (_ ∧ _); omega))
        have hR32 := hR.fr hf29 (by first | exact zT1 (by omega) | (show ¬ (_ ∨ _); omega) | (show ¬ (_ ∧ _); omega))
        have hA33 := hA.fr hf29 (by first | exact zT1 (by omega) | (show ¬ (_ ∨ _); omega) | (show ¬ (_ ∧ _); omega))
        have hY34 := hY.fr hf29 (by first | exact zT1 (by omega) | (show ¬ (_ ∨ _); omega) | (show ¬ (_ ∧ _); omega))
        have hD35 := hD.fr hf29 (by first | exact zT1 (by omega) | (show ¬ (_ ∨ _); omega) | (show ¬ (_ ∧ _); omega)) (by first | exact zT1 (by omega) | (show ¬ (_ ∨ _); omega) | (show ¬ (_ ∧ _); omega)) (by first | exact zT1 (by omega) | (show ¬ (_ ∨ _); omega) | (show ¬ (_ ∧ _); omega)) (by first | exact zT1 (by omega) | (show ¬ (_ ∨ _); omega) | (show ¬ (_ ∧ _); omega))
        have hK36 := hK.fr hf29 (by first | exact zT1 (by omega) | (show ¬ (_ ∨ _); omega) | (show ¬ (_ ∧ _); omega))
        have hI37 := hI.fr hf29 (by first | exact zT1 (by omega) | (show ¬ (_ ∨ _); omega) | (show ¬ (_ ∧ _); omega))
        rw [show zb (decide ((0 : Int) < 0)) = 0 from rfl]
        refine z_if_eq 55 O dX6_runScript_50 (by decide) ⟨by omega, by omega⟩ (fun c_50 => ?_) (fun c_50 => ?_)
        · skip
          refine z_aload_n 1 O dX6_runScript_55 rfl ?_
          refine z_Vvm [] [] kM_X6_249 O dX6_runScript_56 (c_X6_tryIt hst hz30 hA33 hY34) rfl rfl hz30.1 (by decide) (Nat.le_of_ble_eq_true rfl) (by omega) (by omega) (Nat.le_of_ble_eq_true rfl) zNx (fun H38 hp39 hz40 => ?_)
          obtain ⟨hf41, hz42⟩ := hp39
          have hz43 := hz30.fr hf41 (by first | exact zT1 (by omega) | (show ¬ (_ ∨ _); omega) | (show ¬ (_ ∧ _); omega))
          have hT44 := hT31.fr hf41 (by first | exact zT1 (by omega) | (show ¬ (_ ∨ _); omega) | (show ¬ (_ ∧ _); omega))
          have hR45 := hR32.fr hf41 (by first | exact zT1 (by omega) | (show ¬ (_ ∨ _); omega) | (show ¬ (_ ∧ _); omega))
          have hA46 := hA33.fr hf41 (by first | exact zT1 (by omega) | (show ¬ (_ ∨ _); omega) | (show ¬ (_ ∧ _); omega))
          have hD47 := hD35.fr hf41 (by first | exact zT1 (by omega) | (show ¬ (_ ∨ _); omega) | (show ¬ (_ ∧ _); omega)) (by first | exact zT1 (by omega) | (show ¬ (_ ∨ _); omega) | (show ¬ (_ ∧ _); omega)) (by first | exact zT1 (by omega) | (show ¬ (_ ∨ _); omega) | (show ¬ (_ ∧ _); omega)) (by first | exact zT1 (by omega) | (show ¬ (_ ∨ _); omega) | (show ¬ (_ ∧ _); omega))
          have hK48 := hK36.fr hf41 (by first | exact zT1 (by omega) | (show ¬ (_ ∨ _); omega) | (show ¬ (_ ∧ _); omega))
          have hI49 := hI37.fr hf41 (by first | exact zT1 (by omega) | (show ¬ (_ ∨ _); omega) | (show ¬ (_ ∧ _); omega))
          refine z_iconst 0 O dX6_runScript_59 (by decide +kernel) ?_
          refine z_istore [(5, .int (iI 0)), (4, .int (iI (zb (sBt n0 1 3)))), (0, .ref q), (1, .int (iI n0)), (2, .long (iL s0))] O dX6_runScript_60 (by decide) rfl ?_
          have loop : ∀ (d : Nat) (i : Int) (K : Int → Int) (H' : Heap), (0 ≤ i) → (i + (d : Int) = n0) → (sW K (N + i)) → (sRu d s0 i K = sRu n0.toNat s0 0 G) → (zFr H r H' r (fun s => 100000 ≤ s)) → (zMo (zEn x) H' r q Q 0 n sp gd lo fi ac) → (zA (zEn x) H' r 100001 (Q 1) 120 tx) → (zA (zEn x) H' r 100002 (Q 2) 4086 rd) → (zA (zEn x) H' r 100003 (Q 3) 4086 G) → (zA (zEn x) H' r 100004 (Q 4) 4086 K) → (zDy (zEn x) H' r Q dd) → (zA (zEn x) H' r 100009 (Q 9) 8172 kp) → (zZ (zEn x) H' r 100010 (Q 10) 2 ik) → zG x H' 0 0 62 [(5, .int (iI i)), (0, .ref q), (1, .int (iI n0)), (2, .long (iL s0))] [] := by
            intro d
            induction d with
            | zero =>
              intro i K H' hi0 hid hKG hRR hf' hO' hT' hR' hA' hY' hD' hK' hI'
              refine z_iload 0 O dX6_runScript_62 rfl ?_
              refine z_iload_n 2 O dX6_runScript_64 rfl ?_
              refine z_icmp_ge 102 O dX6_runScript_65 (by decide) ⟨by omega, by omega⟩ ⟨by omega, by omega⟩ (fun c_65 => ?_) (fun c_65 => ?_)
              · skip
                refine z_iconst (-1) O dX6_runScript_102 (by decide +kernel) ?_
                exact z_ireti O dX6_runScript_103 rfl (by omega) (by omega) hpo (by rw [if_pos (show (cRs n0 s0) = 0 from by unfold cRs; (repeat first | rw [if_pos (by omega)] | rw [if_neg (by omega)] | rw [if_pos c_21] | rw [if_pos c_39]))]; rw [← hRR]; rfl) (⟨(hf'.up (fun s h => by first | exact h.elim | omega | (simp at h ⊢; omega))), Or.inr ⟨(show (cRs n0 s0) = 0 from by unfold cRs; (repeat first | rw [if_pos (by omega)] | rw [if_neg (by omega)] | rw [if_pos c_21] | rw [if_pos c_39])), ⟨_, _, _, _, _, hO', hT', hR', hA', hY', hD', hK', hI'⟩⟩⟩)
              · exfalso; omega
            | succ d ih =>
              intro i K H' hi0 hid hKG hRR hf' hO' hT' hR' hA' hY' hD' hK' hI'
              refine z_iload 0 O dX6_runScript_62 rfl ?_
              refine z_iload_n 2 O dX6_runScript_64 rfl ?_
              refine z_icmp_ge 102 O dX6_runScript_65 (by decide) ⟨by omega, by omega⟩ ⟨by omega, by omega⟩ (fun c_65 => ?_) (fun c_65 => ?_)
              · exfalso; omega
              · skip
                refine z_aload_n 1 O dX6_runScript_68 rfl ?_
                refine z_lload_n 3 O dX6_runScript_69 rfl ?_
                refine z_iconst 5 O dX6_runScript_70 (by decide +kernel) ?_
                refine z_iload_n 2 O dX6_runScript_71 rfl ?_
                refine z_iconst 1 O dX6_runScript_72 (by decide +kernel) ?_
                refine z_isub O dX6_runScript_73 ?_
                refine z_iload 0 O dX6_runScript_74 rfl ?_
                refine z_isub O dX6_runScript_76 ?_
                refine z_imul O dX6_runScript_77 ?_
                refine z_Sl [.int (iI (5 * ((n0 - 1) - i)))] [.long (iL s0), .ref q] kM_X6_269 O dX6_runScript_78 (c_X6_tenToI hst (5 * d) (by omega) (by omega)) rfl rfl (by decide) (Nat.le_of_ble_eq_true rfl) (by omega) (by omega) (Nat.le_of_ble_eq_true rfl) zNx ?_
                have ht50 := zTen_R (5 * d) (by omega)
                refine z_ldiv O dX6_runScript_81 ⟨by omega, by omega⟩ ⟨by omega, by omega⟩ (by omega) (by omega) ?_
                have hdv := zDv (s := s0) (t := zTen (5 * d)) (by omega) (by omega)
                refine z_ldc2 (iL 100000) O dX6_runScript_82 (List.mem_of_getElem? (i := 1254) (by decide +kernel)) ?_
                refine z_lrem O dX6_runScript_85 ⟨by omega, by omega⟩ ⟨by omega, by omega⟩ (by omega) (by omega) ?_
                refine z_l2i O dX6_runScript_86 ?_
                refine z_Vim [.int (iI ((s0 / (zTen (5 * d))) % 100000))] [] kM_X6_275 O dX6_runScript_87 (c_X6_does hst hO' hY' hKG (by omega) ⟨by omega, by omega⟩) rfl rfl hO'.1 (by decide) (Nat.le_of_ble_eq_true rfl) (by omega) (by omega) (Nat.le_of_ble_eq_true rfl) zNx (fun H51 hp52 hz53 => ?_)
                obtain ⟨hf54, hz55⟩ := hp52
                have hO'56 := hO'.fr hf54 (by first | exact zT1 (by omega) | (show ¬ (_ ∨ _); omega) | (show ¬ (_ ∧ _); omega))
                have hT'57 := hT'.fr hf54 (by first | exact zT1 (by omega) | (show ¬ (_ ∨ _); omega) | (show ¬ (_ ∧ _); omega))
                have hR'58 := hR'.fr hf54 (by first | exact zT1 (by omega) | (show ¬ (_ ∨ _); omega) | (show ¬ (_ ∧ _); omega))
                have hA'59 := hA'.fr hf54 (by first | exact zT1 (by omega) | (show ¬ (_ ∨ _); omega) | (show ¬ (_ ∧ _); omega))
                have hD'60 := hD'.fr hf54 (by first | exact zT1 (by omega) | (show ¬ (_ ∨ _); omega) | (show ¬ (_ ∧ _); omega)) (by first | exact zT1 (by omega) | (show ¬ (_ ∨ _); omega) | (show ¬ (_ ∧ _); omega)) (by first | exact zT1 (by omega) | (show ¬ (_ ∨ _); omega) | (show ¬ (_ ∧ _); omega)) (by first | exact zT1 (by omega) | (show ¬ (_ ∨ _); omega) | (show ¬ (_ ∧ _); omega))
                have hK'61 := hK'.fr hf54 (by first | exact zT1 (by omega) | (show ¬ (_ ∨ _); omega) | (show ¬ (_ ∧ _); omega))
                have hI'62 := hI'.fr hf54 (by first | exact zT1 (by omega) | (show ¬ (_ ∨ _); omega) | (show ¬ (_ ∧ _); omega))
                refine z_ifb_ne 96 O dX6_runScript_90 (by decide) (fun c_90 => ?_) (fun c_90 => ?_)
                · skip
                  refine z_iinc 0 [(5, .int (iI (i + 1))), (0, .ref q), (1, .int (iI n0)), (2, .long (iL s0))] O dX6_runScript_96 (by decide) rfl rfl ?_
                  refine z_goto 62 O dX6_runScript_99 (by decide) ?_
                  have hR2 : sRu d s0 (i + 1) (sDn_ K (s0 / zTen (5 * d) % 100000)) = sRu n0.toNat s0 0 G := by rw [← hRR]; show _ = if _ then _ else _; rw [if_pos c_90]
                  have hI2 := sDn_I hKG (by omega) (g := s0 / zTen (5 * d) % 100000) (by omega); rw [show N + i + 1 = N + (i + 1) by omega] at hI2
                  exact ih (i + 1) (sDn_ K (s0 / zTen (5 * d) % 100000)) H51 (by omega) (by omega) hI2 hR2 (((hf'.up (fun s h => by first | exact h.elim | omega | (simp at h ⊢; omega)))).tr (hf54.up (fun s h => by first | exact h.elim | omega | (simp at h ⊢; omega)))) hO'56 hT'57 hR'58 hA'59 hz55 hD'60 hK'61 hI'62
                · skip
                  refine z_iload 0 O dX6_runScript_93 rfl ?_
                  exact z_ireti O dX6_runScript_95 rfl (by omega) (by omega) hpo (by rw [if_pos (show (cRs n0 s0) = 0 from by unfold cRs; (repeat first | rw [if_pos (by omega)] | rw [if_neg (by omega)] | rw [if_pos c_21] | rw [if_pos c_39] | rw [if_neg (by rw [c_90]; decide)]))]; rw [← hRR]; show _ = if _ then _ else _; rw [if_neg (by rw [c_90]; decide)]) (⟨(((hf'.up (fun s h => by first | exact h.elim | omega | (simp at h ⊢; omega)))).tr (hf54.up (fun s h => by first | exact h.elim | omega | (simp at h ⊢; omega)))), Or.inr ⟨(show (cRs n0 s0) = 0 from by unfold cRs; (repeat first | rw [if_pos (by omega)] | rw [if_neg (by omega)] | rw [if_pos c_21] | rw [if_pos c_39] | rw [if_neg (by rw [c_90]; decide)])), ⟨_, _, _, _, _, hO'56, hT'57, hR'58, hA'59, hz55, hD'60, hK'61, hI'62⟩⟩⟩)
          refine z_locs [0, 2, 3, 4] rfl ?_
          exact loop n0.toNat 0 G H38 (by omega) (by omega) (hG.up (by omega) (by omega)) rfl (((hf29.up (fun s h => by first | exact h.elim | omega | (simp at h ⊢; omega)))).tr (hf41.up (fun s h => by first | exact h.elim | omega | (simp at h ⊢; omega)))) hz43 hT44 hR45 hA46 hz42 hD47 hK48 hI49
        · exfalso; omega
