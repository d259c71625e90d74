/-! the class: workers, what they do (written by program: wip/whole/gen/class2.py) -/
theorem c_X4_setPoint {E : zE} (hst : E.1.stackTraces = false) {H : Heap} {r : zH} {a : Nat → Nat} {t : Nat} {w : Int} {G : Int → Int} {N : Int} {ts : Nat} (h : zWkr E H r a t w G) (hG : sW G N) (hw : 0 ≤ w ∧ w ≤ 2) (hd : 0 < G (at_ w 0)) (hp : G (sIn G w 2) < 4) (hts : t = ts + 6 + 16 * w.toNat) : zC E yX4_setPoint cX4_setPoint 1 (some .int) 3 91 [.ref (a t)] H 40 800 (zRi (G (sIn G w 2)) (fun H1 => ∃ r1, zFr H r H1 r1 (fun s => t ≤ s ∧ s < t + 16) ∧ zWkr E H1 r1 a t w (sPoint G w) ∧ zGw ts H r H1 r1)) zN := by
  refine zC.of2 (by decide) (Nat.le_of_ble_eq_true rfl) hst ?_
  intro x O hE hpo hpx hH
  subst hE
  change zG x H 0 0 0 [(0, .ref (a t))] []
  obtain ⟨np, f1, f2, V, hO, hQ, hLg, hRg, hPL, hPR, hWs, hRl⟩ := id h
  have hm := hG.m hw
  have hl := hG.l hw
  have hin := (hG.in hw hd).2.2.1
  obtain ⟨b0, bi, bt, c2, c5, c9⟩ := sPoint_at (G := G) hw.1 ⟨hd, hm.2⟩ ⟨hin.1, hp⟩
  have hrel := hRl.point hw.1 hd ⟨hin.1, hp⟩ (fun i a b => (hG.k hw a b).2.2.1)
  have hnp := hrel.2
  refine z_aload_n 0 O dX4_setPoint_0 rfl ?_
  refine z_getf kF_X4_29 O dX4_setPoint_1 hO.1 rfl ?_
  refine z_aload_n 0 O dX4_setPoint_4 rfl ?_
  refine z_getf kF_X4_22 O dX4_setPoint_5 hO.1 rfl ?_
  obtain ⟨it1, hRo2⟩ := hLg.o
  refine z_getf kF_X4_79 O dX4_setPoint_8 hRo2.1 rfl ?_
  obtain ⟨it3, hRo4⟩ := hPL.o
  have hcap5 := hPL.cap
  have hrn7 := hPL.n
  have hpc6 := zPc_R (n := np) hcap5.1 hrn7.1
  refine z_Vvm [.int (iI (G (at_ w 1)))] [] kM_X4_98 O dX4_setPoint_11 (c_X1_push hst hPL (by omega) (Or.inr (by decide))) rfl rfl hRo4.1 (by decide) (Nat.le_of_ble_eq_true rfl) (by omega) (by omega) (Nat.le_of_ble_eq_true rfl) zNx (fun H8 hp9 hz10 => ?_)
  obtain ⟨r11, hf12, hr13, hc14⟩ := hp9
  have hO15 := hO.fr hf12 (by first | exact (fun h => h) | exact zT1 (by omega) | (show ¬ (_ ∨ _); omega) | (show ¬ (_ ∧ _); omega))
  have hQ16 := hQ.fr hf12 (by first | exact (fun h => h) | exact zT1 (by omega) | (show ¬ (_ ∨ _); omega) | (show ¬ (_ ∧ _); omega))
  have hLg17 := hLg.fr hf12 (by first | exact (fun h => h) | exact zT1 (by omega) | (show ¬ (_ ∨ _); omega) | (show ¬ (_ ∧ _); omega)) (by first | exact (fun h => h) | exact zT1 (by omega) | (show ¬ (_ ∨ _); omega) | (show ¬ (_ ∧ _); omega))
  have hRg18 := hRg.fr hf12 (by first | exact (fun h => h) | exact zT1 (by omega) | (show ¬ (_ ∨ _); omega) | (show ¬ (_ ∧ _); omega)) (by first | exact (fun h => h) | exact zT1 (by omega) | (show ¬ (_ ∨ _); omega) | (show ¬ (_ ∧ _); omega))
  have hPR19 := hPR.fr hf12 (by first | exact (fun h => h) | exact zT1 (by omega) | (show ¬ (_ ∨ _); omega) | (show ¬ (_ ∧ _); omega)) (by first | exact (fun h => h) | exact zT1 (by omega) | (show ¬ (_ ∨ _); omega) | (show ¬ (_ ∧ _); omega))
  have hWs20 := hWs.fr hf12 (fun s h1 h2 => by first | exact (fun h => h) | exact zT1 (by omega) | (show ¬ (_ ∨ _); omega) | (show ¬ (_ ∧ _); omega))
  refine z_aload_n 0 O dX4_setPoint_14 rfl ?_
  refine z_getf kF_X4_32 O dX4_setPoint_15 hO15.1 rfl ?_
  refine z_aload_n 0 O dX4_setPoint_18 rfl ?_
  refine z_getf kF_X4_26 O dX4_setPoint_19 hO15.1 rfl ?_
  obtain ⟨it21, hRo22⟩ := hRg18.o
  refine z_getf kF_X4_79 O dX4_setPoint_22 hRo22.1 rfl ?_
  obtain ⟨it23, hRo24⟩ := hPR19.o
  have hcap25 := hPR19.cap
  have hrn27 := hPR19.n
  have hpc26 := zPc_R (n := np) hcap25.1 hrn27.1
  refine z_Vvm [.int (iI (G (at_ w 2)))] [] kM_X4_98 O dX4_setPoint_25 (c_X1_push hst hPR19 (by omega) (Or.inr (by decide))) rfl rfl hRo24.1 (by decide) (Nat.le_of_ble_eq_true rfl) (by omega) (by omega) (Nat.le_of_ble_eq_true rfl) zNx (fun H28 hp29 hz30 => ?_)
  obtain ⟨r31, hf32, hr33, hc34⟩ := hp29
  have hO35 := hO15.fr hf32 (by first | exact (fun h => h) | exact zT1 (by omega) | (show ¬ (_ ∨ _); omega) | (show ¬ (_ ∧ _); omega))
  have hQ36 := hQ16.fr hf32 (by first | exact (fun h => h) | exact zT1 (by omega) | (show ¬ (_ ∨ _); omega) | (show ¬ (_ ∧ _); omega))
  have hLg37 := hLg17.fr hf32 (by first | exact (fun h => h) | exact zT1 (by omega) | (show ¬ (_ ∨ _); omega) | (show ¬ (_ ∧ _); omega)) (by first | exact (fun h => h) | exact zT1 (by omega) | (show ¬ (_ ∨ _); omega) | (show ¬ (_ ∧ _); omega))
  have hRg38 := hRg18.fr hf32 (by first | exact (fun h => h) | exact zT1 (by omega) | (show ¬ (_ ∨ _); omega) | (show ¬ (_ ∧ _); omega)) (by first | exact (fun h => h) | exact zT1 (by omega) | (show ¬ (_ ∨ _); omega) | (show ¬ (_ ∧ _); omega))
  have hr39 := hr13.fr hf32 (by first | exact (fun h => h) | exact zT1 (by omega) | (show ¬ (_ ∨ _); omega) | (show ¬ (_ ∧ _); omega)) (by first | exact (fun h => h) | exact zT1 (by omega) | (show ¬ (_ ∨ _); omega) | (show ¬ (_ ∧ _); omega))
  have hWs40 := hWs20.fr hf32 (fun s h1 h2 => by first | exact (fun h => h) | exact zT1 (by omega) | (show ¬ (_ ∨ _); omega) | (show ¬ (_ ∧ _); omega))
  refine z_aload_n 0 O dX4_setPoint_28 rfl ?_
  refine z_aload_n 0 O dX4_setPoint_29 rfl ?_
  refine z_getf kF_X4_40 O dX4_setPoint_30 hO35.1 rfl ?_
  refine z_iconst 1 O dX4_setPoint_33 (by decide +kernel) ?_
  refine z_isub O dX4_setPoint_34 ?_
  have h41 : zWkr (zEn x) H28 r31 a t w (sPoint G w) := zWkr.mk hO35 hQ36 hLg37 hRg38 hr39 hr33 hWs40 (b0 0 (by omega)) (b0 3 (by omega)) (b0 4 (by omega)) (b0 1 (by omega)) (b0 2 (by omega)) (fun k k0 k1 => (b0 (70 + k) (by omega)).symm) (fun k k0 k1 => (b0 (710 + k) (by omega)).symm) hrel.1
  refine z_Vi [.int (iI ((G (at_ w 0)) - 1))] [] kM_X4_88 O dX4_setPoint_35 (by have c := c_X4_countPoints hst h41 (hG.point hw hd hp) hw (i := (G (at_ w 0)) - 1) (by omega); rw [(b0 0 (by omega)), if_pos (by omega), c2] at c; exact c) rfl rfl hO35.1 (by decide) (Nat.le_of_ble_eq_true rfl) (by omega) (by omega) (Nat.le_of_ble_eq_true rfl) zNx ?_
  refine z_iconst 1 O dX4_setPoint_38 (by decide +kernel) ?_
  refine z_isub O dX4_setPoint_39 ?_
  refine z_meter (fun hm1 hm2 => ?_)
  rw [hH] at hm1 hm2
  have p1 := zPh_up (t := ts) (w := w.toNat) (d := 2) hc14 (by omega) (by omega) (by omega)
  have p2 := zPh_up (t := ts) (w := w.toNat) (d := 3) hc34 (by omega) (by omega) (by omega)
  have hgw : zGw ts H r H28 r31 := ⟨by omega, by omega⟩
  exact z_ireti O dX4_setPoint_40 rfl (by omega) (by omega) hpo (by omega) (⟨r31, (((hf12.up (fun s h => by first | exact h.elim | omega | (simp at h ⊢; omega)))).tr (hf32.up (fun s h => by first | exact h.elim | omega | (simp at h ⊢; omega)))), h41, hgw⟩)

theorem c_X4_leaveWork {E : zE} (hst : E.1.stackTraces = false) {H : Heap} {r : zH} {a : Nat → Nat} {t : Nat} {w : Int} {G : Int → Int} (h : zWkr E H r a t w G) (hw : 0 ≤ w) (hd : 0 < G (at_ w 0)) (hN4 : ∀ i : Int, 0 ≤ i → i < G (at_ w 0) → 0 ≤ G (wA w i 2) ∧ G (wA w i 2) ≤ 4) : zC E yX4_leaveWork cX4_leaveWork 2 none 2 42 [.ref (a t)] H 0 0 (zRv (fun H1 => zFr H r H1 r (fun s => t ≤ s ∧ s < t + 16) ∧ zWkr E H1 r a t w (zU G (at_ w 0) (G (at_ w 0) - 1)))) zN := by
  refine zC.of (by decide) (Nat.le_of_ble_eq_true rfl) hst ?_
  intro x O hE hpo hpx
  subst hE
  change zG x H 0 0 0 [(0, .ref (a t))] []
  obtain ⟨np, f1, f2, V, hO, hQ, hLg, hRg, hPL, hPR, hWs, hRl⟩ := id h
  have hm := hRl.1
  have hz : ∀ k : Int, k ≠ 0 → zU G (at_ w 0) (G (at_ w 0) - 1) (at_ w k) = G (at_ w k) := fun k q => zU_n (by rw [at_e, at_e]; omega)
  refine z_aload_n 0 O dX4_leaveWork_0 rfl ?_
  refine z_Vr [] [] kM_X4_67 O dX4_leaveWork_1 (by have c := c_X4_innermost hst h; rw [if_pos hd] at c; exact c) rfl rfl hO.1 (by decide) (Nat.le_of_ble_eq_true rfl) (by omega) (by omega) (Nat.le_of_ble_eq_true rfl) zNx ?_
  refine z_astore_n [(1, .ref (a (t + 10 + (G (at_ w 0) - 1).toNat))), (0, .ref (a t))] O dX4_leaveWork_4 (by decide) rfl ?_
  refine z_aload_n 0 O dX4_leaveWork_5 rfl ?_
  refine z_ifnull O dX4_leaveWork_6 ?_
  refine z_aload_n 1 O dX4_leaveWork_9 rfl ?_
  refine z_aload_n 0 O dX4_leaveWork_10 rfl ?_
  have hWo1 := hWs.at (e := (G (at_ w 0) - 1)) (by omega) (by omega)
  refine z_getf kF_X4_82 O dX4_leaveWork_11 hWo1.1 rfl ?_
  have htop := hRl.2.2.2.2 (G (at_ w 0) - 1) (by omega) (by omega)
  have htop0 := (hRl.2.2.1 (G (at_ w 0) - 1) (by omega) (by omega)).2.2.2.2.2.1
  have hnp := hPL.n
  refine z_Vvm [.int (iI (V (G (at_ w 0) - 1) 2))] [] kM_X4_47 O dX4_leaveWork_14 (c_X4_cutPoints hst hO hPL hPR ⟨by omega, by omega⟩) rfl rfl hO.1 (by decide) (Nat.le_of_ble_eq_true rfl) (by omega) (by omega) (Nat.le_of_ble_eq_true rfl) zNx (fun H2 hp3 hz4 => ?_)
  obtain ⟨hf5, hr6, hr7⟩ := hp3
  rw [show zRc np (V (G (at_ w 0) - 1) 2) = V (G (at_ w 0) - 1) 2 from (by unfold zRc; split <;> omega)] at hr6 hr7
  have hO8 := hO.fr hf5 (by first | exact (fun h => h) | exact zT1 (by omega) | (show ¬ (_ ∨ _); omega) | (show ¬ (_ ∧ _); omega))
  have hQ9 := hQ.fr hf5 (by first | exact (fun h => h) | exact zT1 (by omega) | (show ¬ (_ ∨ _); omega) | (show ¬ (_ ∧ _); omega))
  have hLg10 := hLg.fr hf5 (by first | exact (fun h => h) | exact zT1 (by omega) | (show ¬ (_ ∨ _); omega) | (show ¬ (_ ∧ _); omega)) (by first | exact (fun h => h) | exact zT1 (by omega) | (show ¬ (_ ∨ _); omega) | (show ¬ (_ ∧ _); omega))
  have hRg11 := hRg.fr hf5 (by first | exact (fun h => h) | exact zT1 (by omega) | (show ¬ (_ ∨ _); omega) | (show ¬ (_ ∧ _); omega)) (by first | exact (fun h => h) | exact zT1 (by omega) | (show ¬ (_ ∨ _); omega) | (show ¬ (_ ∧ _); omega))
  have hWs12 := hWs.fr hf5 (fun s h1 h2 => by first | exact (fun h => h) | exact zT1 (by omega) | (show ¬ (_ ∨ _); omega) | (show ¬ (_ ∧ _); omega))
  refine z_aload_n 1 O dX4_leaveWork_17 rfl ?_
  refine z_dup O dX4_leaveWork_18 rfl ?_
  refine z_getf kF_X4_40 O dX4_leaveWork_19 hO8.1 rfl ?_
  refine z_iconst 1 O dX4_leaveWork_22 (by decide +kernel) ?_
  refine z_isub O dX4_leaveWork_23 ?_
  refine z_putf kP_X4_40 O (fun h => nomatch h) dX4_leaveWork_24 hO8.1 rfl rfl (Nat.le_of_ble_eq_true rfl) (fun H13 hO14 hC15 => ?_)
  have hf16 := hO8.ch hC15
  have ho17 : zO (zEn x) H13 r t (a t) 4 [.int (iI w), .ref (a (t + 1)), .ref (a (t + 2)), .ref (a (t + 4)), .ref (a (t + 6)), .ref (a (t + 8)), .int (iI ((G (at_ w 0)) - 1)), .int (iI (G (at_ w 3))), .int (iI (G (at_ w 4)))] := ⟨hO14, hO8.2⟩
  have hQ18 := hQ9.fr hf16 (by first | exact (fun h => h) | exact zT1 (by omega) | (show ¬ (_ ∨ _); omega) | (show ¬ (_ ∧ _); omega))
  have hLg19 := hLg10.fr hf16 (by first | exact (fun h => h) | exact zT1 (by omega) | (show ¬ (_ ∨ _); omega) | (show ¬ (_ ∧ _); omega)) (by first | exact (fun h => h) | exact zT1 (by omega) | (show ¬ (_ ∨ _); omega) | (show ¬ (_ ∧ _); omega))
  have hRg20 := hRg11.fr hf16 (by first | exact (fun h => h) | exact zT1 (by omega) | (show ¬ (_ ∨ _); omega) | (show ¬ (_ ∧ _); omega)) (by first | exact (fun h => h) | exact zT1 (by omega) | (show ¬ (_ ∨ _); omega) | (show ¬ (_ ∧ _); omega))
  have hr21 := hr6.fr hf16 (by first | exact (fun h => h) | exact zT1 (by omega) | (show ¬ (_ ∨ _); omega) | (show ¬ (_ ∧ _); omega)) (by first | exact (fun h => h) | exact zT1 (by omega) | (show ¬ (_ ∨ _); omega) | (show ¬ (_ ∧ _); omega))
  have hr22 := hr7.fr hf16 (by first | exact (fun h => h) | exact zT1 (by omega) | (show ¬ (_ ∨ _); omega) | (show ¬ (_ ∧ _); omega)) (by first | exact (fun h => h) | exact zT1 (by omega) | (show ¬ (_ ∨ _); omega) | (show ¬ (_ ∧ _); omega))
  have hWs23 := hWs12.fr hf16 (fun s h1 h2 => by first | exact (fun h => h) | exact zT1 (by omega) | (show ¬ (_ ∨ _); omega) | (show ¬ (_ ∧ _); omega))
  exact z_iretv O dX4_leaveWork_27 rfl (by omega) (by omega) hpo (⟨(((hf5.up (fun s h => by first | exact h.elim | omega | (simp at h ⊢; omega)))).tr (hf16.up (fun s h => by first | exact h.elim | omega | (simp at h ⊢; omega)))), zWkr.mk ho17 hQ18 hLg19 hRg20 hr21 hr22 hWs23 zU_s (hz 3 (by decide)) (hz 4 (by decide)) (hz 1 (by decide)) (hz 2 (by decide)) (fun k k0 k1 => (hz (70 + k) (by omega)).symm) (fun k k0 k1 => (hz (710 + k) (by omega)).symm) (hRl.leave hd hN4 zU_s (fun i k a b c d => zU_n (by rw [wA_e, at_e]; omega)))⟩)

theorem c_X4_clear {E : zE} (hst : E.1.stackTraces = false) {H : Heap} {r : zH} {a : Nat → Nat} {t : Nat} {w : Int} {G : Int → Int} {N : Int} (h : zWkr E H r a t w G) (hG : sW G N) (hw : 0 ≤ w ∧ w ≤ 2) : zC E yX4_clear cX4_clear 1 none 2 42 [.ref (a t)] H 0 0 (zRv (fun H1 => zFr H r H1 r (fun s => t ≤ s ∧ s < t + 16) ∧ zWkr E H1 r a t w sClean)) zN := by
  refine zC.of (by decide) (Nat.le_of_ble_eq_true rfl) hst ?_
  intro x O hE hpo hpx
  subst hE
  change zG x H 0 0 0 [(0, .ref (a t))] []
  obtain ⟨np, f1, f2, V, hO, hQ, hLg, hRg, hPL, hPR, hWs, hRl⟩ := id h
  have hm := hG.m hw
  have hl := hG.l hw
  have hz : ∀ k : Int, 0 ≤ k → sClean (at_ w k) = 0 := fun k q => if_neg (by rw [at_e]; omega)
  refine z_aload_n 0 O dX4_clear_0 rfl ?_
  refine z_iconst 0 O dX4_clear_1 (by decide +kernel) ?_
  refine z_putf kP_X4_40 O (fun h => nomatch h) dX4_clear_2 hO.1 rfl rfl (Nat.le_of_ble_eq_true rfl) (fun H1 hO2 hC3 => ?_)
  have hf4 := hO.ch hC3
  have ho5 : zO (zEn x) H1 r t (a t) 4 [.int (iI w), .ref (a (t + 1)), .ref (a (t + 2)), .ref (a (t + 4)), .ref (a (t + 6)), .ref (a (t + 8)), .int (iI 0), .int (iI (G (at_ w 3))), .int (iI (G (at_ w 4)))] := ⟨hO2, hO.2⟩
  have hQ6 := hQ.fr hf4 (by first | exact (fun h => h) | exact zT1 (by omega) | (show ¬ (_ ∨ _); omega) | (show ¬ (_ ∧ _); omega))
  have hLg7 := hLg.fr hf4 (by first | exact (fun h => h) | exact zT1 (by omega) | (show ¬ (_ ∨ _); omega) | (show ¬ (_ ∧ _); omega)) (by first | exact (fun h => h) | exact zT1 (by omega) | (show ¬ (_ ∨ _); omega) | (show ¬ (_ ∧ _); omega))
  have hRg8 := hRg.fr hf4 (by first | exact (fun h => h) | exact zT1 (by omega) | (show ¬ (_ ∨ _); omega) | (show ¬ (_ ∧ _); omega)) (by first | exact (fun h => h) | exact zT1 (by omega) | (show ¬ (_ ∨ _); omega) | (show ¬ (_ ∧ _); omega))
  have hPL9 := hPL.fr hf4 (by first | exact (fun h => h) | exact zT1 (by omega) | (show ¬ (_ ∨ _); omega) | (show ¬ (_ ∧ _); omega)) (by first | exact (fun h => h) | exact zT1 (by omega) | (show ¬ (_ ∨ _); omega) | (show ¬ (_ ∧ _); omega))
  have hPR10 := hPR.fr hf4 (by first | exact (fun h => h) | exact zT1 (by omega) | (show ¬ (_ ∨ _); omega) | (show ¬ (_ ∧ _); omega)) (by first | exact (fun h => h) | exact zT1 (by omega) | (show ¬ (_ ∨ _); omega) | (show ¬ (_ ∧ _); omega))
  have hWs11 := hWs.fr hf4 (fun s h1 h2 => by first | exact (fun h => h) | exact zT1 (by omega) | (show ¬ (_ ∨ _); omega) | (show ¬ (_ ∧ _); omega))
  refine z_aload_n 0 O dX4_clear_5 rfl ?_
  refine z_getf kF_X4_22 O dX4_clear_6 ho5.1 rfl ?_
  refine z_iconst 0 O dX4_clear_9 (by decide +kernel) ?_
  obtain ⟨it12, hRo13⟩ := hLg7.o
  refine z_Vvm [.int (iI 0)] [] kM_X4_43 O dX4_clear_10 (c_X1_cutTo hst hLg7 ⟨by omega, by omega⟩) rfl rfl hRo13.1 (by decide) (Nat.le_of_ble_eq_true rfl) (by omega) (by omega) (Nat.le_of_ble_eq_true rfl) zNx (fun H14 hp15 hz16 => ?_)
  obtain ⟨hf17, hr18⟩ := hp15
  have hR19 : zRow (zEn x) H14 r (t + 2) (a (t + 2)) 1024 0 (fun k => G (at_ w (70 + k))) := by rw [show zRc (G (at_ w 1)) 0 = 0 from (by unfold zRc; split <;> omega)] at hr18; exact hr18
  have ho20 := ho5.fr hf17 (by first | exact (fun h => h) | exact zT1 (by omega) | (show ¬ (_ ∨ _); omega) | (show ¬ (_ ∧ _); omega))
  have hQ21 := hQ6.fr hf17 (by first | exact (fun h => h) | exact zT1 (by omega) | (show ¬ (_ ∨ _); omega) | (show ¬ (_ ∧ _); omega))
  have hRg22 := hRg8.fr hf17 (by first | exact (fun h => h) | exact zT1 (by omega) | (show ¬ (_ ∨ _); omega) | (show ¬ (_ ∧ _); omega)) (by first | exact (fun h => h) | exact zT1 (by omega) | (show ¬ (_ ∨ _); omega) | (show ¬ (_ ∧ _); omega))
  have hPL23 := hPL9.fr hf17 (by first | exact (fun h => h) | exact zT1 (by omega) | (show ¬ (_ ∨ _); omega) | (show ¬ (_ ∧ _); omega)) (by first | exact (fun h => h) | exact zT1 (by omega) | (show ¬ (_ ∨ _); omega) | (show ¬ (_ ∧ _); omega))
  have hPR24 := hPR10.fr hf17 (by first | exact (fun h => h) | exact zT1 (by omega) | (show ¬ (_ ∨ _); omega) | (show ¬ (_ ∧ _); omega)) (by first | exact (fun h => h) | exact zT1 (by omega) | (show ¬ (_ ∨ _); omega) | (show ¬ (_ ∧ _); omega))
  have hWs25 := hWs11.fr hf17 (fun s h1 h2 => by first | exact (fun h => h) | exact zT1 (by omega) | (show ¬ (_ ∨ _); omega) | (show ¬ (_ ∧ _); omega))
  refine z_aload_n 0 O dX4_clear_13 rfl ?_
  refine z_getf kF_X4_26 O dX4_clear_14 ho20.1 rfl ?_
  refine z_iconst 0 O dX4_clear_17 (by decide +kernel) ?_
  obtain ⟨it26, hRo27⟩ := hRg22.o
  refine z_Vvm [.int (iI 0)] [] kM_X4_43 O dX4_clear_18 (c_X1_cutTo hst hRg22 ⟨by omega, by omega⟩) rfl rfl hRo27.1 (by decide) (Nat.le_of_ble_eq_true rfl) (by omega) (by omega) (Nat.le_of_ble_eq_true rfl) zNx (fun H28 hp29 hz30 => ?_)
  obtain ⟨hf31, hr32⟩ := hp29
  have hR33 : zRow (zEn x) H28 r (t + 4) (a (t + 4)) 1024 0 (fun k => G (at_ w (710 + k))) := by rw [show zRc (G (at_ w 2)) 0 = 0 from (by unfold zRc; split <;> omega)] at hr32; exact hr32
  have ho34 := ho20.fr hf31 (by first | exact (fun h => h) | exact zT1 (by omega) | (show ¬ (_ ∨ _); omega) | (show ¬ (_ ∧ _); omega))
  have hQ35 := hQ21.fr hf31 (by first | exact (fun h => h) | exact zT1 (by omega) | (show ¬ (_ ∨ _); omega) | (show ¬ (_ ∧ _); omega))
  have hR36 := hR19.fr hf31 (by first | exact (fun h => h) | exact zT1 (by omega) | (show ¬ (_ ∨ _); omega) | (show ¬ (_ ∧ _); omega)) (by first | exact (fun h => h) | exact zT1 (by omega) | (show ¬ (_ ∨ _); omega) | (show ¬ (_ ∧ _); omega))
  have hPL37 := hPL23.fr hf31 (by first | exact (fun h => h) | exact zT1 (by omega) | (show ¬ (_ ∨ _); omega) | (show ¬ (_ ∧ _); omega)) (by first | exact (fun h => h) | exact zT1 (by omega) | (show ¬ (_ ∨ _); omega) | (show ¬ (_ ∧ _); omega))
  have hPR38 := hPR24.fr hf31 (by first | exact (fun h => h) | exact zT1 (by omega) | (show ¬ (_ ∨ _); omega) | (show ¬ (_ ∧ _); omega)) (by first | exact (fun h => h) | exact zT1 (by omega) | (show ¬ (_ ∨ _); omega) | (show ¬ (_ ∧ _); omega))
  have hWs39 := hWs25.fr hf31 (fun s h1 h2 => by first | exact (fun h => h) | exact zT1 (by omega) | (show ¬ (_ ∨ _); omega) | (show ¬ (_ ∧ _); omega))
  refine z_aload_n 0 O dX4_clear_21 rfl ?_
  refine z_iconst 0 O dX4_clear_22 (by decide +kernel) ?_
  have hnp := hPL.n
  refine z_Vvm [.int (iI 0)] [] kM_X4_47 O dX4_clear_23 (c_X4_cutPoints hst ho34 hPL37 hPR38 ⟨by omega, by omega⟩) rfl rfl ho34.1 (by decide) (Nat.le_of_ble_eq_true rfl) (by omega) (by omega) (Nat.le_of_ble_eq_true rfl) zNx (fun H40 hp41 hz42 => ?_)
  obtain ⟨hf43, hr44, hr45⟩ := hp41
  rw [show zRc np 0 = 0 from (by unfold zRc; split <;> omega)] at hr44 hr45
  have ho46 := ho34.fr hf43 (by first | exact (fun h => h) | exact zT1 (by omega) | (show ¬ (_ ∨ _); omega) | (show ¬ (_ ∧ _); omega))
  have hQ47 := hQ35.fr hf43 (by first | exact (fun h => h) | exact zT1 (by omega) | (show ¬ (_ ∨ _); omega) | (show ¬ (_ ∧ _); omega))
  have hR48 := hR36.fr hf43 (by first | exact (fun h => h) | exact zT1 (by omega) | (show ¬ (_ ∨ _); omega) | (show ¬ (_ ∧ _); omega)) (by first | exact (fun h => h) | exact zT1 (by omega) | (show ¬ (_ ∨ _); omega) | (show ¬ (_ ∧ _); omega))
  have hR49 := hR33.fr hf43 (by first | exact (fun h => h) | exact zT1 (by omega) | (show ¬ (_ ∨ _); omega) | (show ¬ (_ ∧ _); omega)) (by first | exact (fun h => h) | exact zT1 (by omega) | (show ¬ (_ ∨ _); omega) | (show ¬ (_ ∧ _); omega))
  have hWs50 := hWs39.fr hf43 (fun s h1 h2 => by first | exact (fun h => h) | exact zT1 (by omega) | (show ¬ (_ ∨ _); omega) | (show ¬ (_ ∧ _); omega))
  refine z_aload_n 0 O dX4_clear_26 rfl ?_
  refine z_iconst 0 O dX4_clear_27 (by decide +kernel) ?_
  refine z_putf kP_X4_50 O (fun h => nomatch h) dX4_clear_28 ho46.1 rfl rfl (Nat.le_of_ble_eq_true rfl) (fun H51 hO52 hC53 => ?_)
  have hf54 := ho46.ch hC53
  have ho55 : zO (zEn x) H51 r t (a t) 4 [.int (iI w), .ref (a (t + 1)), .ref (a (t + 2)), .ref (a (t + 4)), .ref (a (t + 6)), .ref (a (t + 8)), .int (iI 0), .int (iI 0), .int (iI (G (at_ w 4)))] := ⟨hO52, ho46.2⟩
  have hQ56 := hQ47.fr hf54 (by first | exact (fun h => h) | exact zT1 (by omega) | (show ¬ (_ ∨ _); omega) | (show ¬ (_ ∧ _); omega))
  have hR57 := hR48.fr hf54 (by first | exact (fun h => h) | exact zT1 (by omega) | (show ¬ (_ ∨ _); omega) | (show ¬ (_ ∧ _); omega)) (by first | exact (fun h => h) | exact zT1 (by omega) | (show ¬ (_ ∨ _); omega) | (show ¬ (_ ∧ _); omega))
  have hR58 := hR49.fr hf54 (by first | exact (fun h => h) | exact zT1 (by omega) | (show ¬ (_ ∨ _); omega) | (show ¬ (_ ∧ _); omega)) (by first | exact (fun h => h) | exact zT1 (by omega) | (show ¬ (_ ∨ _); omega) | (show ¬ (_ ∧ _); omega))
  have hr59 := hr44.fr hf54 (by first | exact (fun h => h) | exact zT1 (by omega) | (show ¬ (_ ∨ _); omega) | (show ¬ (_ ∧ _); omega)) (by first | exact (fun h => h) | exact zT1 (by omega) | (show ¬ (_ ∨ _); omega) | (show ¬ (_ ∧ _); omega))
  have hr60 := hr45.fr hf54 (by first | exact (fun h => h) | exact zT1 (by omega) | (show ¬ (_ ∨ _); omega) | (show ¬ (_ ∧ _); omega)) (by first | exact (fun h => h) | exact zT1 (by omega) | (show ¬ (_ ∨ _); omega) | (show ¬ (_ ∧ _); omega))
  have hWs61 := hWs50.fr hf54 (fun s h1 h2 => by first | exact (fun h => h) | exact zT1 (by omega) | (show ¬ (_ ∨ _); omega) | (show ¬ (_ ∧ _); omega))
  refine z_aload_n 0 O dX4_clear_31 rfl ?_
  refine z_iconst 0 O dX4_clear_32 (by decide +kernel) ?_
  refine z_putf kP_X4_53 O (fun h => nomatch h) dX4_clear_33 ho55.1 rfl rfl (Nat.le_of_ble_eq_true rfl) (fun H62 hO63 hC64 => ?_)
  have hf65 := ho55.ch hC64
  have ho66 : zO (zEn x) H62 r t (a t) 4 [.int (iI w), .ref (a (t + 1)), .ref (a (t + 2)), .ref (a (t + 4)), .ref (a (t + 6)), .ref (a (t + 8)), .int (iI 0), .int (iI 0), .int (iI 0)] := ⟨hO63, ho55.2⟩
  have hQ67 := hQ56.fr hf65 (by first | exact (fun h => h) | exact zT1 (by omega) | (show ¬ (_ ∨ _); omega) | (show ¬ (_ ∧ _); omega))
  have hR68 := hR57.fr hf65 (by first | exact (fun h => h) | exact zT1 (by omega) | (show ¬ (_ ∨ _); omega) | (show ¬ (_ ∧ _); omega)) (by first | exact (fun h => h) | exact zT1 (by omega) | (show ¬ (_ ∨ _); omega) | (show ¬ (_ ∧ _); omega))
  have hR69 := hR58.fr hf65 (by first | exact (fun h => h) | exact zT1 (by omega) | (show ¬ (_ ∨ _); omega) | (show ¬ (_ ∧ _); omega)) (by first | exact (fun h => h) | exact zT1 (by omega) | (show ¬ (_ ∨ _); omega) | (show ¬ (_ ∧ _); omega))
  have hr70 := hr59.fr hf65 (by first | exact (fun h => h) | exact zT1 (by omega) | (show ¬ (_ ∨ _); omega) | (show ¬ (_ ∧ _); omega)) (by first | exact (fun h => h) | exact zT1 (by omega) | (show ¬ (_ ∨ _); omega) | (show ¬ (_ ∧ _); omega))
  have hr71 := hr60.fr hf65 (by first | exact (fun h => h) | exact zT1 (by omega) | (show ¬ (_ ∨ _); omega) | (show ¬ (_ ∧ _); omega)) (by first | exact (fun h => h) | exact zT1 (by omega) | (show ¬ (_ ∨ _); omega) | (show ¬ (_ ∧ _); omega))
  have hWs72 := hWs61.fr hf65 (fun s h1 h2 => by first | exact (fun h => h) | exact zT1 (by omega) | (show ¬ (_ ∨ _); omega) | (show ¬ (_ ∧ _); omega))
  exact z_iretv O dX4_clear_36 rfl (by omega) (by omega) hpo (⟨(((((((((((hf4.up (fun s h => by first | exact h.elim | omega | (simp at h ⊢; omega)))).tr (hf17.up (fun s h => by first | exact h.elim | omega | (simp at h ⊢; omega))))).tr (hf31.up (fun s h => by first | exact h.elim | omega | (simp at h ⊢; omega))))).tr (hf43.up (fun s h => by first | exact h.elim | omega | (simp at h ⊢; omega))))).tr (hf54.up (fun s h => by first | exact h.elim | omega | (simp at h ⊢; omega))))).tr (hf65.up (fun s h => by first | exact h.elim | omega | (simp at h ⊢; omega)))), zWkr.mk ho66 hQ67 hR68 hR69 hr70 hr71 hWs72 (hz 0 (by decide)) (hz 3 (by decide)) (hz 4 (by decide)) (hz 1 (by decide)) (hz 2 (by decide)) (fun k k0 k1 => by omega) (fun k k0 k1 => by omega) (gRl.clear (hz 0 (by decide)))⟩)

theorem c_X3_copyFrom {E : zE} (hst : E.1.stackTraces = false) {H : Heap} {r : zH} {t q t2 q2 : Nat} {x0 x1 x2 x3 x4 : Value} {v0 v1 v2 v3 v4 : Int} (hO : zO E H r t q 3 [x0, x1, x2, x3, x4]) (h2 : zO E H r t2 q2 3 [.int (iI v0), .int (iI v1), .int (iI v2), .int (iI v3), .int (iI v4)]) (hn : t2 ≠ t) (hb : v4 = 0 ∨ v4 = 1) : zC E yX3_copyFrom cX3_copyFrom 2 none 0 0 [.ref q, .ref q2] H 0 0 (zRv (fun H1 => zFr H r H1 r (fun s => s = t) ∧ zO E H1 r t q 3 [.int (iI v0), .int (iI v1), .int (iI v2), .int (iI v3), .int (iI v4)])) zN := by
  refine zC.of (by decide) (Nat.le_of_ble_eq_true rfl) hst ?_
  intro x O hE hpo hpx
  subst hE
  change zG x H 0 0 0 [(0, .ref q), (1, .ref q2)] []
  refine z_aload_n 0 O dX3_copyFrom_0 rfl ?_
  refine z_aload_n 1 O dX3_copyFrom_1 rfl ?_
  refine z_getf kF_X3_7 O dX3_copyFrom_2 h2.1 rfl ?_
  refine z_putf kP_X3_7 O (fun h => nomatch h) dX3_copyFrom_5 hO.1 rfl rfl (Nat.le_of_ble_eq_true rfl) (fun H1 hO2 hC3 => ?_)
  have hf4 := hO.ch hC3
  have ho5 : zO (zEn x) H1 r t q 3 [.int (iI v0), x1, x2, x3, x4] := ⟨hO2, hO.2⟩
  have h6 := h2.fr hf4 (by first | exact (fun h => h) | exact zT1 (by omega) | (show ¬ (_ ∨ _); omega) | (show ¬ (_ ∧ _); omega))
  refine z_aload_n 0 O dX3_copyFrom_8 rfl ?_
  refine z_aload_n 1 O dX3_copyFrom_9 rfl ?_
  refine z_getf kF_X3_13 O dX3_copyFrom_10 h6.1 rfl ?_
  refine z_putf kP_X3_13 O (fun h => nomatch h) dX3_copyFrom_13 ho5.1 rfl rfl (Nat.le_of_ble_eq_true rfl) (fun H7 hO8 hC9 => ?_)
  have hf10 := ho5.ch hC9
  have ho11 : zO (zEn x) H7 r t q 3 [.int (iI v0), .int (iI v1), x2, x3, x4] := ⟨hO8, ho5.2⟩
  have h12 := h6.fr hf10 (by first | exact (fun h => h) | exact zT1 (by omega) | (show ¬ (_ ∨ _); omega) | (show ¬ (_ ∧ _); omega))
  refine z_aload_n 0 O dX3_copyFrom_16 rfl ?_
  refine z_aload_n 1 O dX3_copyFrom_17 rfl ?_
  refine z_getf kF_X3_16 O dX3_copyFrom_18 h12.1 rfl ?_
  refine z_putf kP_X3_16 O (fun h => nomatch h) dX3_copyFrom_21 ho11.1 rfl rfl (Nat.le_of_ble_eq_true rfl) (fun H13 hO14 hC15 => ?_)
  have hf16 := ho11.ch hC15
  have ho17 : zO (zEn x) H13 r t q 3 [.int (iI v0), .int (iI v1), .int (iI v2), x3, x4] := ⟨hO14, ho11.2⟩
  have h18 := h12.fr hf16 (by first | exact (fun h => h) | exact zT1 (by omega) | (show ¬ (_ ∨ _); omega) | (show ¬ (_ ∧ _); omega))
  refine z_aload_n 0 O dX3_copyFrom_24 rfl ?_
  refine z_aload_n 1 O dX3_copyFrom_25 rfl ?_
  refine z_getf kF_X3_19 O dX3_copyFrom_26 h18.1 rfl ?_
  refine z_putf kP_X3_19 O (fun h => nomatch h) dX3_copyFrom_29 ho17.1 rfl rfl (Nat.le_of_ble_eq_true rfl) (fun H19 hO20 hC21 => ?_)
  have hf22 := ho17.ch hC21
  have ho23 : zO (zEn x) H19 r t q 3 [.int (iI v0), .int (iI v1), .int (iI v2), .int (iI v3), x4] := ⟨hO20, ho17.2⟩
  have h24 := h18.fr hf22 (by first | exact (fun h => h) | exact zT1 (by omega) | (show ¬ (_ ∨ _); omega) | (show ¬ (_ ∧ _); omega))
  refine z_aload_n 0 O dX3_copyFrom_32 rfl ?_
  refine z_aload_n 1 O dX3_copyFrom_33 rfl ?_
  refine z_getf kF_X3_22 O dX3_copyFrom_34 h24.1 rfl ?_
  refine z_putf kP_X3_22 O (fun h => nomatch h) dX3_copyFrom_37 ho23.1 (by rcases hb with e | e <;> rw [e] <;> decide +kernel) (by rcases hb with e | e <;> rw [e] <;> decide +kernel) (Nat.le_of_ble_eq_true rfl) (fun H25 hO26 hC27 => ?_)
  have hf28 := ho23.ch hC27
  have ho29 : zO (zEn x) H25 r t q 3 [.int (iI v0), .int (iI v1), .int (iI v2), .int (iI v3), .int (iI v4)] := ⟨hO26, ho23.2⟩
  have h30 := h24.fr hf28 (by first | exact (fun h => h) | exact zT1 (by omega) | (show ¬ (_ ∨ _); omega) | (show ¬ (_ ∧ _); omega))
  exact z_iretv O dX3_copyFrom_40 rfl (by omega) (by omega) hpo (⟨(((((((((hf4.up (fun s h => by first | exact h.elim | omega | (simp at h ⊢; omega)))).tr (hf10.up (fun s h => by first | exact h.elim | omega | (simp at h ⊢; omega))))).tr (hf16.up (fun s h => by first | exact h.elim | omega | (simp at h ⊢; omega))))).tr (hf22.up (fun s h => by first | exact h.elim | omega | (simp at h ⊢; omega))))).tr (hf28.up (fun s h => by first | exact h.elim | omega | (simp at h ⊢; omega)))), ho29⟩)

