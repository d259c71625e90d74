/-! the class: a worker is copied (written by program: wip/whole/gen/class2.py) -/
theorem zCap_le {r r1 : zH} {t m : Nat} (h : r.2 t ≤ m) (e : r1.2 = (zCap r t m).2) (s : Nat) : r.2 s ≤ r1.2 s := by
  rw [e]
  show r.2 s ≤ if s = t then m else r.2 s
  split
  · next q => rw [q]; exact h
  · exact Nat.le_refl _
theorem gRl.V {G : Int → Int} {w np : Int} {f1 f2 : Int → Int} {V V1 : Int → Int → Int} (h : gRl G w np f1 f2 V) (e : ∀ j k : Int, 0 ≤ j → j < G (at_ w 0) → 0 ≤ k → k ≤ 4 → V1 j k = V j k) : gRl G w np f1 f2 V1 := by
  obtain ⟨h0, hn, hk, hm, hq⟩ := h
  refine ⟨h0, hn, fun i i0 i1 => ?_, fun i i' a b c => by rw [e i 2 a (by omega) (by omega) (by omega), e i' 2 (by omega) c (by omega) (by omega)]; exact hm i i' a b c, fun i a b => by rw [e i 2 a b (by omega) (by omega)]; exact hq i a b⟩
  have k := hk i i0 i1
  unfold gWk at k ⊢
  rw [e i 0 i0 i1 (by omega) (by omega), e i 1 i0 i1 (by omega) (by omega), e i 2 i0 i1 (by omega) (by omega), e i 3 i0 i1 (by omega) (by omega), e i 4 i0 i1 (by omega) (by omega)]
  by_cases q : i + 1 < G (at_ w 0)
  · rw [if_pos q, e (i + 1) 2 (by omega) q (by omega) (by omega)]
    rw [if_pos q] at k
    exact k
  · rw [if_neg q]
    rw [if_neg q] at k
    exact k
theorem c_X4_copyFrom {E : zE} (hst : E.1.stackTraces = false) {H : Heap} {r : zH} {a : Nat → Nat} {t t2 : Nat} {w : Int} {G G2 : Int → Int} {N : Int} (h : zWkr E H r a t w G) (h2 : zWkr E H r a t2 w G2) (hG2 : sW G2 N) (hw : 0 ≤ w ∧ w ≤ 2) (hdd : t + 16 ≤ t2 ∨ t2 + 16 ≤ t) : zC E yX4_copyFrom cX4_copyFrom 5 none 2 69 [.ref (a t), .ref (a t2)] H 4 2088 (zRv (fun H1 => ∃ r1, zFr H r H1 r1 (fun s => t ≤ s ∧ s < t + 16) ∧ zWkr E H1 r1 a t w G2 ∧ ∀ s, r.2 s ≤ r1.2 s)) zN := by
  refine zC.of (by decide) (Nat.le_of_ble_eq_true rfl) hst ?_
  intro x O hE hpo hpx
  subst hE
  change zG x H 0 0 0 [(0, .ref (a t)), (1, .ref (a t2))] []
  obtain ⟨np, f1, f2, V, hO, hQ, hLg, hRg, hPL, hPR, hWs, hRl⟩ := id h
  obtain ⟨np2, k1, k2, V2, gO, gQ, gLg, gRg, gPL, gPR, gWs, gRl⟩ := id h2
  have hm2 := hG2.m hw
  refine z_aload_n 0 O dX4_copyFrom_0 rfl ?_
  refine z_aload_n 1 O dX4_copyFrom_1 rfl ?_
  refine z_getf kF_X4_40 O dX4_copyFrom_2 gO.1 rfl ?_
  refine z_putf kP_X4_40 O (fun h => nomatch h) dX4_copyFrom_5 hO.1 rfl rfl (Nat.le_of_ble_eq_true rfl) (fun H1 hO2 hC3 => ?_)
  have hf4 := hO.ch hC3
  have ho5 : zO (zEn x) H1 r t (a t) 4 [.int (iI w), .ref (a (t + 1)), .ref (a (t + 2)), .ref (a (t + 4)), .ref (a (t + 6)), .ref (a (t + 8)), .int (iI (G2 (at_ w 0))), .int (iI (G (at_ w 3))), .int (iI (G (at_ w 4)))] := ⟨hO2, hO.2⟩
  have hQ6 := hQ.fr hf4 (by first | exact (fun h => h) | exact zT1 (by omega) | (show ¬ (_ ∨ _); omega) | (show ¬ (_ ∧ _); omega))
  have hLg7 := hLg.fr hf4 (by first | exact (fun h => h) | exact zT1 (by omega) | (show ¬ (_ ∨ _); omega) | (show ¬ (_ ∧ _); omega)) (by first | exact (fun h => h) | exact zT1 (by omega) | (show ¬ (_ ∨ _); omega) | (show ¬ (_ ∧ _); omega))
  have hRg8 := hRg.fr hf4 (by first | exact (fun h => h) | exact zT1 (by omega) | (show ¬ (_ ∨ _); omega) | (show ¬ (_ ∧ _); omega)) (by first | exact (fun h => h) | exact zT1 (by omega) | (show ¬ (_ ∨ _); omega) | (show ¬ (_ ∧ _); omega))
  have hPL9 := hPL.fr hf4 (by first | exact (fun h => h) | exact zT1 (by omega) | (show ¬ (_ ∨ _); omega) | (show ¬ (_ ∧ _); omega)) (by first | exact (fun h => h) | exact zT1 (by omega) | (show ¬ (_ ∨ _); omega) | (show ¬ (_ ∧ _); omega))
  have hPR10 := hPR.fr hf4 (by first | exact (fun h => h) | exact zT1 (by omega) | (show ¬ (_ ∨ _); omega) | (show ¬ (_ ∧ _); omega)) (by first | exact (fun h => h) | exact zT1 (by omega) | (show ¬ (_ ∨ _); omega) | (show ¬ (_ ∧ _); omega))
  have hWs11 := hWs.fr hf4 (fun s h1 h2 => by first | exact (fun h => h) | exact zT1 (by omega) | (show ¬ (_ ∨ _); omega) | (show ¬ (_ ∧ _); omega))
  have gO12 := gO.fr hf4 (by first | exact (fun h => h) | exact zT1 (by omega) | (show ¬ (_ ∨ _); omega) | (show ¬ (_ ∧ _); omega))
  have gLg13 := gLg.fr hf4 (by first | exact (fun h => h) | exact zT1 (by omega) | (show ¬ (_ ∨ _); omega) | (show ¬ (_ ∧ _); omega)) (by first | exact (fun h => h) | exact zT1 (by omega) | (show ¬ (_ ∨ _); omega) | (show ¬ (_ ∧ _); omega))
  have gRg14 := gRg.fr hf4 (by first | exact (fun h => h) | exact zT1 (by omega) | (show ¬ (_ ∨ _); omega) | (show ¬ (_ ∧ _); omega)) (by first | exact (fun h => h) | exact zT1 (by omega) | (show ¬ (_ ∨ _); omega) | (show ¬ (_ ∧ _); omega))
  have gPL15 := gPL.fr hf4 (by first | exact (fun h => h) | exact zT1 (by omega) | (show ¬ (_ ∨ _); omega) | (show ¬ (_ ∧ _); omega)) (by first | exact (fun h => h) | exact zT1 (by omega) | (show ¬ (_ ∨ _); omega) | (show ¬ (_ ∧ _); omega))
  have gPR16 := gPR.fr hf4 (by first | exact (fun h => h) | exact zT1 (by omega) | (show ¬ (_ ∨ _); omega) | (show ¬ (_ ∧ _); omega)) (by first | exact (fun h => h) | exact zT1 (by omega) | (show ¬ (_ ∨ _); omega) | (show ¬ (_ ∧ _); omega))
  have gWs17 := gWs.fr hf4 (fun s h1 h2 => by first | exact (fun h => h) | exact zT1 (by omega) | (show ¬ (_ ∨ _); omega) | (show ¬ (_ ∧ _); omega))
  have h18 := h2.fr hf4 (fun s h1 h2 => by first | exact (fun h => h) | exact zT1 (by omega) | (show ¬ (_ ∨ _); omega) | (show ¬ (_ ∧ _); omega))
  refine z_aload_n 0 O dX4_copyFrom_8 rfl ?_
  refine z_aload_n 1 O dX4_copyFrom_9 rfl ?_
  refine z_getf kF_X4_50 O dX4_copyFrom_10 gO12.1 rfl ?_
  refine z_putf kP_X4_50 O (fun h => nomatch h) dX4_copyFrom_13 ho5.1 rfl rfl (Nat.le_of_ble_eq_true rfl) (fun H19 hO20 hC21 => ?_)
  have hf22 := ho5.ch hC21
  have ho23 : zO (zEn x) H19 r t (a t) 4 [.int (iI w), .ref (a (t + 1)), .ref (a (t + 2)), .ref (a (t + 4)), .ref (a (t + 6)), .ref (a (t + 8)), .int (iI (G2 (at_ w 0))), .int (iI (G2 (at_ w 3))), .int (iI (G (at_ w 4)))] := ⟨hO20, ho5.2⟩
  have hQ24 := hQ6.fr hf22 (by first | exact (fun h => h) | exact zT1 (by omega) | (show ¬ (_ ∨ _); omega) | (show ¬ (_ ∧ _); omega))
  have hLg25 := hLg7.fr hf22 (by first | exact (fun h => h) | exact zT1 (by omega) | (show ¬ (_ ∨ _); omega) | (show ¬ (_ ∧ _); omega)) (by first | exact (fun h => h) | exact zT1 (by omega) | (show ¬ (_ ∨ _); omega) | (show ¬ (_ ∧ _); omega))
  have hRg26 := hRg8.fr hf22 (by first | exact (fun h => h) | exact zT1 (by omega) | (show ¬ (_ ∨ _); omega) | (show ¬ (_ ∧ _); omega)) (by first | exact (fun h => h) | exact zT1 (by omega) | (show ¬ (_ ∨ _); omega) | (show ¬ (_ ∧ _); omega))
  have hPL27 := hPL9.fr hf22 (by first | exact (fun h => h) | exact zT1 (by omega) | (show ¬ (_ ∨ _); omega) | (show ¬ (_ ∧ _); omega)) (by first | exact (fun h => h) | exact zT1 (by omega) | (show ¬ (_ ∨ _); omega) | (show ¬ (_ ∧ _); omega))
  have hPR28 := hPR10.fr hf22 (by first | exact (fun h => h) | exact zT1 (by omega) | (show ¬ (_ ∨ _); omega) | (show ¬ (_ ∧ _); omega)) (by first | exact (fun h => h) | exact zT1 (by omega) | (show ¬ (_ ∨ _); omega) | (show ¬ (_ ∧ _); omega))
  have hWs29 := hWs11.fr hf22 (fun s h1 h2 => by first | exact (fun h => h) | exact zT1 (by omega) | (show ¬ (_ ∨ _); omega) | (show ¬ (_ ∧ _); omega))
  have gO30 := gO12.fr hf22 (by first | exact (fun h => h) | exact zT1 (by omega) | (show ¬ (_ ∨ _); omega) | (show ¬ (_ ∧ _); omega))
  have gLg31 := gLg13.fr hf22 (by first | exact (fun h => h) | exact zT1 (by omega) | (show ¬ (_ ∨ _); omega) | (show ¬ (_ ∧ _); omega)) (by first | exact (fun h => h) | exact zT1 (by omega) | (show ¬ (_ ∨ _); omega) | (show ¬ (_ ∧ _); omega))
  have gRg32 := gRg14.fr hf22 (by first | exact (fun h => h) | exact zT1 (by omega) | (show ¬ (_ ∨ _); omega) | (show ¬ (_ ∧ _); omega)) (by first | exact (fun h => h) | exact zT1 (by omega) | (show ¬ (_ ∨ _); omega) | (show ¬ (_ ∧ _); omega))
  have gPL33 := gPL15.fr hf22 (by first | exact (fun h => h) | exact zT1 (by omega) | (show ¬ (_ ∨ _); omega) | (show ¬ (_ ∧ _); omega)) (by first | exact (fun h => h) | exact zT1 (by omega) | (show ¬ (_ ∨ _); omega) | (show ¬ (_ ∧ _); omega))
  have gPR34 := gPR16.fr hf22 (by first | exact (fun h => h) | exact zT1 (by omega) | (show ¬ (_ ∨ _); omega) | (show ¬ (_ ∧ _); omega)) (by first | exact (fun h => h) | exact zT1 (by omega) | (show ¬ (_ ∨ _); omega) | (show ¬ (_ ∧ _); omega))
  have gWs35 := gWs17.fr hf22 (fun s h1 h2 => by first | exact (fun h => h) | exact zT1 (by omega) | (show ¬ (_ ∨ _); omega) | (show ¬ (_ ∧ _); omega))
  have h36 := h18.fr hf22 (fun s h1 h2 => by first | exact (fun h => h) | exact zT1 (by omega) | (show ¬ (_ ∨ _); omega) | (show ¬ (_ ∧ _); omega))
  refine z_aload_n 0 O dX4_copyFrom_16 rfl ?_
  refine z_aload_n 1 O dX4_copyFrom_17 rfl ?_
  refine z_getf kF_X4_53 O dX4_copyFrom_18 gO30.1 rfl ?_
  refine z_putf kP_X4_53 O (fun h => nomatch h) dX4_copyFrom_21 ho23.1 rfl rfl (Nat.le_of_ble_eq_true rfl) (fun H37 hO38 hC39 => ?_)
  have hf40 := ho23.ch hC39
  have ho41 : zO (zEn x) H37 r t (a t) 4 [.int (iI w), .ref (a (t + 1)), .ref (a (t + 2)), .ref (a (t + 4)), .ref (a (t + 6)), .ref (a (t + 8)), .int (iI (G2 (at_ w 0))), .int (iI (G2 (at_ w 3))), .int (iI (G2 (at_ w 4)))] := ⟨hO38, ho23.2⟩
  have hQ42 := hQ24.fr hf40 (by first | exact (fun h => h) | exact zT1 (by omega) | (show ¬ (_ ∨ _); omega) | (show ¬ (_ ∧ _); omega))
  have hLg43 := hLg25.fr hf40 (by first | exact (fun h => h) | exact zT1 (by omega) | (show ¬ (_ ∨ _); omega) | (show ¬ (_ ∧ _); omega)) (by first | exact (fun h => h) | exact zT1 (by omega) | (show ¬ (_ ∨ _); omega) | (show ¬ (_ ∧ _); omega))
  have hRg44 := hRg26.fr hf40 (by first | exact (fun h => h) | exact zT1 (by omega) | (show ¬ (_ ∨ _); omega) | (show ¬ (_ ∧ _); omega)) (by first | exact (fun h => h) | exact zT1 (by omega) | (show ¬ (_ ∨ _); omega) | (show ¬ (_ ∧ _); omega))
  have hPL45 := hPL27.fr hf40 (by first | exact (fun h => h) | exact zT1 (by omega) | (show ¬ (_ ∨ _); omega) | (show ¬ (_ ∧ _); omega)) (by first | exact (fun h => h) | exact zT1 (by omega) | (show ¬ (_ ∨ _); omega) | (show ¬ (_ ∧ _); omega))
  have hPR46 := hPR28.fr hf40 (by first | exact (fun h => h) | exact zT1 (by omega) | (show ¬ (_ ∨ _); omega) | (show ¬ (_ ∧ _); omega)) (by first | exact (fun h => h) | exact zT1 (by omega) | (show ¬ (_ ∨ _); omega) | (show ¬ (_ ∧ _); omega))
  have hWs47 := hWs29.fr hf40 (fun s h1 h2 => by first | exact (fun h => h) | exact zT1 (by omega) | (show ¬ (_ ∨ _); omega) | (show ¬ (_ ∧ _); omega))
  have gO48 := gO30.fr hf40 (by first | exact (fun h => h) | exact zT1 (by omega) | (show ¬ (_ ∨ _); omega) | (show ¬ (_ ∧ _); omega))
  have gLg49 := gLg31.fr hf40 (by first | exact (fun h => h) | exact zT1 (by omega) | (show ¬ (_ ∨ _); omega) | (show ¬ (_ ∧ _); omega)) (by first | exact (fun h => h) | exact zT1 (by omega) | (show ¬ (_ ∨ _); omega) | (show ¬ (_ ∧ _); omega))
  have gRg50 := gRg32.fr hf40 (by first | exact (fun h => h) | exact zT1 (by omega) | (show ¬ (_ ∨ _); omega) | (show ¬ (_ ∧ _); omega)) (by first | exact (fun h => h) | exact zT1 (by omega) | (show ¬ (_ ∨ _); omega) | (show ¬ (_ ∧ _); omega))
  have gPL51 := gPL33.fr hf40 (by first | exact (fun h => h) | exact zT1 (by omega) | (show ¬ (_ ∨ _); omega) | (show ¬ (_ ∧ _); omega)) (by first | exact (fun h => h) | exact zT1 (by omega) | (show ¬ (_ ∨ _); omega) | (show ¬ (_ ∧ _); omega))
  have gPR52 := gPR34.fr hf40 (by first | exact (fun h => h) | exact zT1 (by omega) | (show ¬ (_ ∨ _); omega) | (show ¬ (_ ∧ _); omega)) (by first | exact (fun h => h) | exact zT1 (by omega) | (show ¬ (_ ∨ _); omega) | (show ¬ (_ ∧ _); omega))
  have gWs53 := gWs35.fr hf40 (fun s h1 h2 => by first | exact (fun h => h) | exact zT1 (by omega) | (show ¬ (_ ∨ _); omega) | (show ¬ (_ ∧ _); omega))
  have h54 := h36.fr hf40 (fun s h1 h2 => by first | exact (fun h => h) | exact zT1 (by omega) | (show ¬ (_ ∨ _); omega) | (show ¬ (_ ∧ _); omega))
  refine z_aload_n 0 O dX4_copyFrom_24 rfl ?_
  refine z_getf kF_X4_22 O dX4_copyFrom_25 ho41.1 rfl ?_
  refine z_aload_n 1 O dX4_copyFrom_28 rfl ?_
  refine z_getf kF_X4_22 O dX4_copyFrom_29 gO48.1 rfl ?_
  obtain ⟨it55, hRo56⟩ := hLg43.o
  refine z_Vvm [.ref (a (t2 + 2))] [] kM_X4_56 O dX4_copyFrom_32 (c_X1_copyFrom hst hLg43 gLg49 ⟨by omega, by omega, by omega⟩) rfl rfl hRo56.1 (by decide) (Nat.le_of_ble_eq_true rfl) (by omega) (by omega) (Nat.le_of_ble_eq_true rfl) zNx (fun H57 hp58 hz59 => ?_)
  obtain ⟨r60, hf61, hr62, m63, hm64, hc65⟩ := hp58
  have hle66 := zCap_le hm64 hc65
  have ho67 := ho41.fr hf61 (by first | exact (fun h => h) | exact zT1 (by omega) | (show ¬ (_ ∨ _); omega) | (show ¬ (_ ∧ _); omega))
  have hQ68 := hQ42.fr hf61 (by first | exact (fun h => h) | exact zT1 (by omega) | (show ¬ (_ ∨ _); omega) | (show ¬ (_ ∧ _); omega))
  have hRg69 := hRg44.fr hf61 (by first | exact (fun h => h) | exact zT1 (by omega) | (show ¬ (_ ∨ _); omega) | (show ¬ (_ ∧ _); omega)) (by first | exact (fun h => h) | exact zT1 (by omega) | (show ¬ (_ ∨ _); omega) | (show ¬ (_ ∧ _); omega))
  have hPL70 := hPL45.fr hf61 (by first | exact (fun h => h) | exact zT1 (by omega) | (show ¬ (_ ∨ _); omega) | (show ¬ (_ ∧ _); omega)) (by first | exact (fun h => h) | exact zT1 (by omega) | (show ¬ (_ ∨ _); omega) | (show ¬ (_ ∧ _); omega))
  have hPR71 := hPR46.fr hf61 (by first | exact (fun h => h) | exact zT1 (by omega) | (show ¬ (_ ∨ _); omega) | (show ¬ (_ ∧ _); omega)) (by first | exact (fun h => h) | exact zT1 (by omega) | (show ¬ (_ ∨ _); omega) | (show ¬ (_ ∧ _); omega))
  have hWs72 := hWs47.fr hf61 (fun s h1 h2 => by first | exact (fun h => h) | exact zT1 (by omega) | (show ¬ (_ ∨ _); omega) | (show ¬ (_ ∧ _); omega))
  have gO73 := gO48.fr hf61 (by first | exact (fun h => h) | exact zT1 (by omega) | (show ¬ (_ ∨ _); omega) | (show ¬ (_ ∧ _); omega))
  have gLg74 := gLg49.fr hf61 (by first | exact (fun h => h) | exact zT1 (by omega) | (show ¬ (_ ∨ _); omega) | (show ¬ (_ ∧ _); omega)) (by first | exact (fun h => h) | exact zT1 (by omega) | (show ¬ (_ ∨ _); omega) | (show ¬ (_ ∧ _); omega))
  have gRg75 := gRg50.fr hf61 (by first | exact (fun h => h) | exact zT1 (by omega) | (show ¬ (_ ∨ _); omega) | (show ¬ (_ ∧ _); omega)) (by first | exact (fun h => h) | exact zT1 (by omega) | (show ¬ (_ ∨ _); omega) | (show ¬ (_ ∧ _); omega))
  have gPL76 := gPL51.fr hf61 (by first | exact (fun h => h) | exact zT1 (by omega) | (show ¬ (_ ∨ _); omega) | (show ¬ (_ ∧ _); omega)) (by first | exact (fun h => h) | exact zT1 (by omega) | (show ¬ (_ ∨ _); omega) | (show ¬ (_ ∧ _); omega))
  have gPR77 := gPR52.fr hf61 (by first | exact (fun h => h) | exact zT1 (by omega) | (show ¬ (_ ∨ _); omega) | (show ¬ (_ ∧ _); omega)) (by first | exact (fun h => h) | exact zT1 (by omega) | (show ¬ (_ ∨ _); omega) | (show ¬ (_ ∧ _); omega))
  have gWs78 := gWs53.fr hf61 (fun s h1 h2 => by first | exact (fun h => h) | exact zT1 (by omega) | (show ¬ (_ ∨ _); omega) | (show ¬ (_ ∧ _); omega))
  have h79 := h54.fr hf61 (fun s h1 h2 => by first | exact (fun h => h) | exact zT1 (by omega) | (show ¬ (_ ∨ _); omega) | (show ¬ (_ ∧ _); omega))
  refine z_aload_n 0 O dX4_copyFrom_35 rfl ?_
  refine z_getf kF_X4_26 O dX4_copyFrom_36 ho67.1 rfl ?_
  refine z_aload_n 1 O dX4_copyFrom_39 rfl ?_
  refine z_getf kF_X4_26 O dX4_copyFrom_40 gO73.1 rfl ?_
  obtain ⟨it80, hRo81⟩ := hRg69.o
  refine z_Vvm [.ref (a (t2 + 4))] [] kM_X4_56 O dX4_copyFrom_43 (c_X1_copyFrom hst hRg69 gRg75 ⟨by omega, by omega, by omega⟩) rfl rfl hRo81.1 (by decide) (Nat.le_of_ble_eq_true rfl) (by omega) (by omega) (Nat.le_of_ble_eq_true rfl) zNx (fun H82 hp83 hz84 => ?_)
  obtain ⟨r85, hf86, hr87, m88, hm89, hc90⟩ := hp83
  have hle91 := zCap_le hm89 hc90
  have ho92 := ho67.fr hf86 (by first | exact (fun h => h) | exact zT1 (by omega) | (show ¬ (_ ∨ _); omega) | (show ¬ (_ ∧ _); omega))
  have hQ93 := hQ68.fr hf86 (by first | exact (fun h => h) | exact zT1 (by omega) | (show ¬ (_ ∨ _); omega) | (show ¬ (_ ∧ _); omega))
  have hr94 := hr62.fr hf86 (by first | exact (fun h => h) | exact zT1 (by omega) | (show ¬ (_ ∨ _); omega) | (show ¬ (_ ∧ _); omega)) (by first | exact (fun h => h) | exact zT1 (by omega) | (show ¬ (_ ∨ _); omega) | (show ¬ (_ ∧ _); omega))
  have hPL95 := hPL70.fr hf86 (by first | exact (fun h => h) | exact zT1 (by omega) | (show ¬ (_ ∨ _); omega) | (show ¬ (_ ∧ _); omega)) (by first | exact (fun h => h) | exact zT1 (by omega) | (show ¬ (_ ∨ _); omega) | (show ¬ (_ ∧ _); omega))
  have hPR96 := hPR71.fr hf86 (by first | exact (fun h => h) | exact zT1 (by omega) | (show ¬ (_ ∨ _); omega) | (show ¬ (_ ∧ _); omega)) (by first | exact (fun h => h) | exact zT1 (by omega) | (show ¬ (_ ∨ _); omega) | (show ¬ (_ ∧ _); omega))
  have hWs97 := hWs72.fr hf86 (fun s h1 h2 => by first | exact (fun h => h) | exact zT1 (by omega) | (show ¬ (_ ∨ _); omega) | (show ¬ (_ ∧ _); omega))
  have gO98 := gO73.fr hf86 (by first | exact (fun h => h) | exact zT1 (by omega) | (show ¬ (_ ∨ _); omega) | (show ¬ (_ ∧ _); omega))
  have gLg99 := gLg74.fr hf86 (by first | exact (fun h => h) | exact zT1 (by omega) | (show ¬ (_ ∨ _); omega) | (show ¬ (_ ∧ _); omega)) (by first | exact (fun h => h) | exact zT1 (by omega) | (show ¬ (_ ∨ _); omega) | (show ¬ (_ ∧ _); omega))
  have gRg100 := gRg75.fr hf86 (by first | exact (fun h => h) | exact zT1 (by omega) | (show ¬ (_ ∨ _); omega) | (show ¬ (_ ∧ _); omega)) (by first | exact (fun h => h) | exact zT1 (by omega) | (show ¬ (_ ∨ _); omega) | (show ¬ (_ ∧ _); omega))
  have gPL101 := gPL76.fr hf86 (by first | exact (fun h => h) | exact zT1 (by omega) | (show ¬ (_ ∨ _); omega) | (show ¬ (_ ∧ _); omega)) (by first | exact (fun h => h) | exact zT1 (by omega) | (show ¬ (_ ∨ _); omega) | (show ¬ (_ ∧ _); omega))
  have gPR102 := gPR77.fr hf86 (by first | exact (fun h => h) | exact zT1 (by omega) | (show ¬ (_ ∨ _); omega) | (show ¬ (_ ∧ _); omega)) (by first | exact (fun h => h) | exact zT1 (by omega) | (show ¬ (_ ∨ _); omega) | (show ¬ (_ ∧ _); omega))
  have gWs103 := gWs78.fr hf86 (fun s h1 h2 => by first | exact (fun h => h) | exact zT1 (by omega) | (show ¬ (_ ∨ _); omega) | (show ¬ (_ ∧ _); omega))
  have h104 := h79.fr hf86 (fun s h1 h2 => by first | exact (fun h => h) | exact zT1 (by omega) | (show ¬ (_ ∨ _); omega) | (show ¬ (_ ∧ _); omega))
  refine z_aload_n 0 O dX4_copyFrom_46 rfl ?_
  refine z_getf kF_X4_29 O dX4_copyFrom_47 ho92.1 rfl ?_
  refine z_aload_n 1 O dX4_copyFrom_50 rfl ?_
  refine z_getf kF_X4_29 O dX4_copyFrom_51 gO98.1 rfl ?_
  obtain ⟨it105, hRo106⟩ := hPL95.o
  refine z_Vvm [.ref (a (t2 + 6))] [] kM_X4_56 O dX4_copyFrom_54 (c_X1_copyFrom hst hPL95 gPL101 ⟨by omega, by omega, by omega⟩) rfl rfl hRo106.1 (by decide) (Nat.le_of_ble_eq_true rfl) (by omega) (by omega) (Nat.le_of_ble_eq_true rfl) zNx (fun H107 hp108 hz109 => ?_)
  obtain ⟨r110, hf111, hr112, m113, hm114, hc115⟩ := hp108
  have hle116 := zCap_le hm114 hc115
  have ho117 := ho92.fr hf111 (by first | exact (fun h => h) | exact zT1 (by omega) | (show ¬ (_ ∨ _); omega) | (show ¬ (_ ∧ _); omega))
  have hQ118 := hQ93.fr hf111 (by first | exact (fun h => h) | exact zT1 (by omega) | (show ¬ (_ ∨ _); omega) | (show ¬ (_ ∧ _); omega))
  have hr119 := hr94.fr hf111 (by first | exact (fun h => h) | exact zT1 (by omega) | (show ¬ (_ ∨ _); omega) | (show ¬ (_ ∧ _); omega)) (by first | exact (fun h => h) | exact zT1 (by omega) | (show ¬ (_ ∨ _); omega) | (show ¬ (_ ∧ _); omega))
  have hr120 := hr87.fr hf111 (by first | exact (fun h => h) | exact zT1 (by omega) | (show ¬ (_ ∨ _); omega) | (show ¬ (_ ∧ _); omega)) (by first | exact (fun h => h) | exact zT1 (by omega) | (show ¬ (_ ∨ _); omega) | (show ¬ (_ ∧ _); omega))
  have hPR121 := hPR96.fr hf111 (by first | exact (fun h => h) | exact zT1 (by omega) | (show ¬ (_ ∨ _); omega) | (show ¬ (_ ∧ _); omega)) (by first | exact (fun h => h) | exact zT1 (by omega) | (show ¬ (_ ∨ _); omega) | (show ¬ (_ ∧ _); omega))
  have hWs122 := hWs97.fr hf111 (fun s h1 h2 => by first | exact (fun h => h) | exact zT1 (by omega) | (show ¬ (_ ∨ _); omega) | (show ¬ (_ ∧ _); omega))
  have gO123 := gO98.fr hf111 (by first | exact (fun h => h) | exact zT1 (by omega) | (show ¬ (_ ∨ _); omega) | (show ¬ (_ ∧ _); omega))
  have gLg124 := gLg99.fr hf111 (by first | exact (fun h => h) | exact zT1 (by omega) | (show ¬ (_ ∨ _); omega) | (show ¬ (_ ∧ _); omega)) (by first | exact (fun h => h) | exact zT1 (by omega) | (show ¬ (_ ∨ _); omega) | (show ¬ (_ ∧ _); omega))
  have gRg125 := gRg100.fr hf111 (by first | exact (fun h => h) | exact zT1 (by omega) | (show ¬ (_ ∨ _); omega) | (show ¬ (_ ∧ _); omega)) (by first | exact (fun h => h) | exact zT1 (by omega) | (show ¬ (_ ∨ _); omega) | (show ¬ (_ ∧ _); omega))
  have gPL126 := gPL101.fr hf111 (by first | exact (fun h => h) | exact zT1 (by omega) | (show ¬ (_ ∨ _); omega) | (show ¬ (_ ∧ _); omega)) (by first | exact (fun h => h) | exact zT1 (by omega) | (show ¬ (_ ∨ _); omega) | (show ¬ (_ ∧ _); omega))
  have gPR127 := gPR102.fr hf111 (by first | exact (fun h => h) | exact zT1 (by omega) | (show ¬ (_ ∨ _); omega) | (show ¬ (_ ∧ _); omega)) (by first | exact (fun h => h) | exact zT1 (by omega) | (show ¬ (_ ∨ _); omega) | (show ¬ (_ ∧ _); omega))
  have gWs128 := gWs103.fr hf111 (fun s h1 h2 => by first | exact (fun h => h) | exact zT1 (by omega) | (show ¬ (_ ∨ _); omega) | (show ¬ (_ ∧ _); omega))
  have h129 := h104.fr hf111 (fun s h1 h2 => by first | exact (fun h => h) | exact zT1 (by omega) | (show ¬ (_ ∨ _); omega) | (show ¬ (_ ∧ _); omega))
  refine z_aload_n 0 O dX4_copyFrom_57 rfl ?_
  refine z_getf kF_X4_32 O dX4_copyFrom_58 ho117.1 rfl ?_
  refine z_aload_n 1 O dX4_copyFrom_61 rfl ?_
  refine z_getf kF_X4_32 O dX4_copyFrom_62 gO123.1 rfl ?_
  obtain ⟨it130, hRo131⟩ := hPR121.o
  refine z_Vvm [.ref (a (t2 + 8))] [] kM_X4_56 O dX4_copyFrom_65 (c_X1_copyFrom hst hPR121 gPR127 ⟨by omega, by omega, by omega⟩) rfl rfl hRo131.1 (by decide) (Nat.le_of_ble_eq_true rfl) (by omega) (by omega) (Nat.le_of_ble_eq_true rfl) zNx (fun H132 hp133 hz134 => ?_)
  obtain ⟨r135, hf136, hr137, m138, hm139, hc140⟩ := hp133
  have hle141 := zCap_le hm139 hc140
  have ho142 := ho117.fr hf136 (by first | exact (fun h => h) | exact zT1 (by omega) | (show ¬ (_ ∨ _); omega) | (show ¬ (_ ∧ _); omega))
  have hQ143 := hQ118.fr hf136 (by first | exact (fun h => h) | exact zT1 (by omega) | (show ¬ (_ ∨ _); omega) | (show ¬ (_ ∧ _); omega))
  have hr144 := hr119.fr hf136 (by first | exact (fun h => h) | exact zT1 (by omega) | (show ¬ (_ ∨ _); omega) | (show ¬ (_ ∧ _); omega)) (by first | exact (fun h => h) | exact zT1 (by omega) | (show ¬ (_ ∨ _); omega) | (show ¬ (_ ∧ _); omega))
  have hr145 := hr120.fr hf136 (by first | exact (fun h => h) | exact zT1 (by omega) | (show ¬ (_ ∨ _); omega) | (show ¬ (_ ∧ _); omega)) (by first | exact (fun h => h) | exact zT1 (by omega) | (show ¬ (_ ∨ _); omega) | (show ¬ (_ ∧ _); omega))
  have hr146 := hr112.fr hf136 (by first | exact (fun h => h) | exact zT1 (by omega) | (show ¬ (_ ∨ _); omega) | (show ¬ (_ ∧ _); omega)) (by first | exact (fun h => h) | exact zT1 (by omega) | (show ¬ (_ ∨ _); omega) | (show ¬ (_ ∧ _); omega))
  have hWs147 := hWs122.fr hf136 (fun s h1 h2 => by first | exact (fun h => h) | exact zT1 (by omega) | (show ¬ (_ ∨ _); omega) | (show ¬ (_ ∧ _); omega))
  have gO148 := gO123.fr hf136 (by first | exact (fun h => h) | exact zT1 (by omega) | (show ¬ (_ ∨ _); omega) | (show ¬ (_ ∧ _); omega))
  have gLg149 := gLg124.fr hf136 (by first | exact (fun h => h) | exact zT1 (by omega) | (show ¬ (_ ∨ _); omega) | (show ¬ (_ ∧ _); omega)) (by first | exact (fun h => h) | exact zT1 (by omega) | (show ¬ (_ ∨ _); omega) | (show ¬ (_ ∧ _); omega))
  have gRg150 := gRg125.fr hf136 (by first | exact (fun h => h) | exact zT1 (by omega) | (show ¬ (_ ∨ _); omega) | (show ¬ (_ ∧ _); omega)) (by first | exact (fun h => h) | exact zT1 (by omega) | (show ¬ (_ ∨ _); omega) | (show ¬ (_ ∧ _); omega))
  have gPL151 := gPL126.fr hf136 (by first | exact (fun h => h) | exact zT1 (by omega) | (show ¬ (_ ∨ _); omega) | (show ¬ (_ ∧ _); omega)) (by first | exact (fun h => h) | exact zT1 (by omega) | (show ¬ (_ ∨ _); omega) | (show ¬ (_ ∧ _); omega))
  have gPR152 := gPR127.fr hf136 (by first | exact (fun h => h) | exact zT1 (by omega) | (show ¬ (_ ∨ _); omega) | (show ¬ (_ ∧ _); omega)) (by first | exact (fun h => h) | exact zT1 (by omega) | (show ¬ (_ ∨ _); omega) | (show ¬ (_ ∧ _); omega))
  have gWs153 := gWs128.fr hf136 (fun s h1 h2 => by first | exact (fun h => h) | exact zT1 (by omega) | (show ¬ (_ ∨ _); omega) | (show ¬ (_ ∧ _); omega))
  have h154 := h129.fr hf136 (fun s h1 h2 => by first | exact (fun h => h) | exact zT1 (by omega) | (show ¬ (_ ∨ _); omega) | (show ¬ (_ ∧ _); omega))
  refine z_iconst 0 O dX4_copyFrom_68 (by decide +kernel) ?_
  refine z_istore_n [(2, .int (iI 0)), (0, .ref (a t)), (1, .ref (a t2))] O dX4_copyFrom_69 (by decide) rfl ?_
  have loop : ∀ (d : Nat) (i : Int) (H' : Heap) (V' : Int → Int → Int), (0 ≤ i) → (i + (d : Int) = 5) → (zFr H r H' r135 (fun s => t ≤ s ∧ s < t + 16)) → (∀ j k : Int, 0 ≤ j → j < i → j < G2 (at_ w 0) → 0 ≤ k → k ≤ 4 → V' j k = V2 j k) → (zO (zEn x) H' r135 t (a t) 4 [.int (iI w), .ref (a (t + 1)), .ref (a (t + 2)), .ref (a (t + 4)), .ref (a (t + 6)), .ref (a (t + 8)), .int (iI (G2 (at_ w 0))), .int (iI (G2 (at_ w 3))), .int (iI (G2 (at_ w 4)))]) → (zQr (zEn x) H' r135 (t + 1) (a (t + 1)) 4 5 (fun i => some (a (t + 10 + i.toNat)))) → (zRow (zEn x) H' r135 (t + 2) (a (t + 2)) 1024 (G2 (at_ w 1)) (fun k => G2 (at_ w (70 + k)))) → (zRow (zEn x) H' r135 (t + 4) (a (t + 4)) 1024 (G2 (at_ w 2)) (fun k => G2 (at_ w (710 + k)))) → (zRow (zEn x) H' r135 (t + 6) (a (t + 6)) 20 np2 k1) → (zRow (zEn x) H' r135 (t + 8) (a (t + 8)) 20 np2 k2) → (zWs (zEn x) H' r135 a (t + 10) V') → (zO (zEn x) H' r135 t2 (a t2) 4 [.int (iI w), .ref (a (t2 + 1)), .ref (a (t2 + 2)), .ref (a (t2 + 4)), .ref (a (t2 + 6)), .ref (a (t2 + 8)), .int (iI (G2 (at_ w 0))), .int (iI (G2 (at_ w 3))), .int (iI (G2 (at_ w 4)))]) → (zWs (zEn x) H' r135 a (t2 + 10) V2) → (zWkr (zEn x) H' r135 a t2 w G2) → zG x H' (0 + 1 + 1 + 1 + 1) (0 + 1024 + 1024 + 20 + 20) 70 [(2, .int (iI i)), (0, .ref (a t)), (1, .ref (a t2))] [] := by
    intro d
    induction d with
    | zero =>
      intro i H' V' hi0 hid hf' hV y0' y1' y2' y3' y4' y5' y6' y7' y8' y9'
      refine z_iload_n 0 O dX4_copyFrom_70 rfl ?_
      refine z_aload_n 1 O dX4_copyFrom_71 rfl ?_
      refine z_getf kF_X4_11 O dX4_copyFrom_72 y0'.1 rfl ?_
      refine z_alenR (by decide) O dX4_copyFrom_75 y1'.1 ?_
      refine z_icmp_ge 114 O dX4_copyFrom_76 (by decide) ⟨by omega, by omega⟩ ⟨by omega, by omega⟩ (fun c_76 => ?_) (fun c_76 => ?_)
      · skip
        exact z_iretv O dX4_copyFrom_114 rfl (by omega) (by omega) hpo (⟨r135, (hf'.up (fun s h => by first | exact h.elim | omega | (simp at h ⊢; omega))), zWkr.mk y0' y1' y2' y3' y4' y5' y6' rfl rfl rfl rfl rfl (fun k _ _ => rfl) (fun k _ _ => rfl) (gRl.V (fun j k j0 j1 k0 k1 => hV j k j0 (by have := gRl.1; omega) j1 k0 k1)), (fun s => Nat.le_trans (Nat.le_trans (Nat.le_trans (hle66 s) (hle91 s)) (hle116 s)) (hle141 s))⟩)
      · exfalso; omega
    | succ d ih =>
      intro i H' V' hi0 hid hf' hV y0' y1' y2' y3' y4' y5' y6' y7' y8' y9'
      refine z_iload_n 0 O dX4_copyFrom_70 rfl ?_
      refine z_aload_n 1 O dX4_copyFrom_71 rfl ?_
      refine z_getf kF_X4_11 O dX4_copyFrom_72 y0'.1 rfl ?_
      refine z_alenR (by decide) O dX4_copyFrom_75 y1'.1 ?_
      refine z_icmp_ge 114 O dX4_copyFrom_76 (by decide) ⟨by omega, by omega⟩ ⟨by omega, by omega⟩ (fun c_76 => ?_) (fun c_76 => ?_)
      · exfalso; omega
      · skip
        refine z_aload_n 2 O dX4_copyFrom_79 rfl ?_
        refine z_iload_n 0 O dX4_copyFrom_80 rfl ?_
        by_cases hd155 : 0 ≤ i ∧ i < G2 (at_ w 0)
        · skip
          refine z_Vr [.int (iI i)] [] kM_X4_60 O dX4_copyFrom_81 (by have c := c_X4_workAt hst y9' hG2 hw ⟨by omega, by omega⟩ (i := i); rw [if_pos hd155] at c; exact c) rfl rfl y7'.1 (by decide) (Nat.le_of_ble_eq_true rfl) (by omega) (by omega) (Nat.le_of_ble_eq_true rfl) zNx ?_
          refine z_astore_n [(3, .ref (a (t2 + 10 + i.toNat))), (2, .int (iI i)), (0, .ref (a t)), (1, .ref (a t2))] O dX4_copyFrom_84 (by decide) rfl ?_
          refine z_aload_n 2 O dX4_copyFrom_85 rfl ?_
          refine z_getf kF_X4_11 O dX4_copyFrom_86 y0'.1 rfl ?_
          refine z_iload_n 1 O dX4_copyFrom_89 rfl ?_
          refine z_aald (T := 0) (by decide) O dX4_copyFrom_90 y1'.1 ⟨by omega, by omega⟩ (by omega) (by omega) ?_
          change zG x _ _ _ _ _ (.ref (a (t + 10 + i.toNat)) :: _)
          refine z_astore [(4, .ref (a (t + 10 + i.toNat))), (3, .ref (a (t2 + 10 + i.toNat))), (2, .int (iI i)), (0, .ref (a t)), (1, .ref (a t2))] O dX4_copyFrom_91 (by decide) rfl ?_
          refine z_aload_n 1 O dX4_copyFrom_93 rfl ?_
          refine z_ifnull O dX4_copyFrom_94 ?_
          refine z_aload 0 O dX4_copyFrom_97 rfl ?_
          refine z_ifnull O dX4_copyFrom_99 ?_
          refine z_aload 0 O dX4_copyFrom_102 rfl ?_
          refine z_aload_n 1 O dX4_copyFrom_104 rfl ?_
          have hWo156 := y6'.at (e := i) (by omega) (by omega)
          have hWo157 := y8'.at (e := i) (by omega) (by omega)
          have hb4 := (hG2.k hw (i := i) (by omega) (by omega)).2.2.2.2.1
          have he4 := (gRl.2.2.1 i (by omega) (by omega)).2.2.2.1
          refine z_Vvm [.ref (a (t2 + 10 + i.toNat))] [] kM_X4_64 O dX4_copyFrom_105 (c_X3_copyFrom hst hWo156 hWo157 (by omega) (by omega)) rfl rfl hWo156.1 (by decide) (Nat.le_of_ble_eq_true rfl) (by omega) (by omega) (Nat.le_of_ble_eq_true rfl) zNx (fun H158 hp159 hz160 => ?_)
          obtain ⟨hf161, ho162⟩ := hp159
          have hWs163 := y6'.set (T := fun s => s = t + 10 + i.toNat) hf161 (by omega) (by omega) (fun s h1 h2 h3 => h3) ho162
          have y0'164 := y0'.fr hf161 (by first | exact (fun h => h) | exact zT1 (by omega) | (show ¬ (_ ∨ _); omega) | (show ¬ (_ ∧ _); omega))
          have y1'165 := y1'.fr hf161 (by first | exact (fun h => h) | exact zT1 (by omega) | (show ¬ (_ ∨ _); omega) | (show ¬ (_ ∧ _); omega))
          have y2'166 := y2'.fr hf161 (by first | exact (fun h => h) | exact zT1 (by omega) | (show ¬ (_ ∨ _); omega) | (show ¬ (_ ∧ _); omega)) (by first | exact (fun h => h) | exact zT1 (by omega) | (show ¬ (_ ∨ _); omega) | (show ¬ (_ ∧ _); omega))
          have y3'167 := y3'.fr hf161 (by first | exact (fun h => h) | exact zT1 (by omega) | (show ¬ (_ ∨ _); omega) | (show ¬ (_ ∧ _); omega)) (by first | exact (fun h => h) | exact zT1 (by omega) | (show ¬ (_ ∨ _); omega) | (show ¬ (_ ∧ _); omega))
          have y4'168 := y4'.fr hf161 (by first | exact (fun h => h) | exact zT1 (by omega) | (show ¬ (_ ∨ _); omega) | (show ¬ (_ ∧ _); omega)) (by first | exact (fun h => h) | exact zT1 (by omega) | (show ¬ (_ ∨ _); omega) | (show ¬ (_ ∧ _); omega))
          have y5'169 := y5'.fr hf161 (by first | exact (fun h => h) | exact zT1 (by omega) | (show ¬ (_ ∨ _); omega) | (show ¬ (_ ∧ _); omega)) (by first | exact (fun h => h) | exact zT1 (by omega) | (show ¬ (_ ∨ _); omega) | (show ¬ (_ ∧ _); omega))
          have y7'170 := y7'.fr hf161 (by first | exact (fun h => h) | exact zT1 (by omega) | (show ¬ (_ ∨ _); omega) | (show ¬ (_ ∧ _); omega))
          have y8'171 := y8'.fr hf161 (fun s h1 h2 => by first | exact (fun h => h) | exact zT1 (by omega) | (show ¬ (_ ∨ _); omega) | (show ¬ (_ ∧ _); omega))
          have y9'172 := y9'.fr hf161 (fun s h1 h2 => by first | exact (fun h => h) | exact zT1 (by omega) | (show ¬ (_ ∨ _); omega) | (show ¬ (_ ∧ _); omega))
          refine z_iinc 2 [(2, .int (iI (i + 1))), (4, .ref (a (t + 10 + i.toNat))), (3, .ref (a (t2 + 10 + i.toNat))), (0, .ref (a t)), (1, .ref (a t2))] O dX4_copyFrom_108 (by decide) rfl rfl ?_
          refine z_goto 70 O dX4_copyFrom_111 (by decide) ?_
          refine z_locs [0, 3, 4] rfl ?_
          exact ih (i + 1) H158 (zVs V' i (V2 i 0) (V2 i 1) (V2 i 2) (V2 i 3) (V2 i 4)) (by omega) (by omega) (((hf'.up (fun s h => by first | exact h.elim | omega | (simp at h ⊢; omega)))).tr (hf161.up (fun s h => by first | exact h.elim | omega | (simp at h ⊢; omega)))) (by intro j k j0 j1 j2 k0 k1; by_cases z : j = i; (rw [z, zVs_e]; rcases (show k = 0 ∨ k = 1 ∨ k = 2 ∨ k = 3 ∨ k = 4 by omega) with q | q | q | q | q <;> rw [q] <;> rfl); (rw [zVs_n z]; exact hV j k j0 (by omega) j2 k0 k1)) y0'164 y1'165 y2'166 y3'167 y4'168 y5'169 hWs163 y7'170 y8'171 y9'172
        · skip
          refine z_Vr [.int (iI i)] [] kM_X4_60 O dX4_copyFrom_81 (by have c := c_X4_workAt hst y9' hG2 hw ⟨by omega, by omega⟩ (i := i); rw [if_neg hd155] at c; exact c) rfl rfl y7'.1 (by decide) (Nat.le_of_ble_eq_true rfl) (by omega) (by omega) (Nat.le_of_ble_eq_true rfl) zNx ?_
          refine z_astore_nN [(3, .null), (2, .int (iI i)), (0, .ref (a t)), (1, .ref (a t2))] O dX4_copyFrom_84 (by decide) rfl ?_
          refine z_aload_n 2 O dX4_copyFrom_85 rfl ?_
          refine z_getf kF_X4_11 O dX4_copyFrom_86 y0'.1 rfl ?_
          refine z_iload_n 1 O dX4_copyFrom_89 rfl ?_
          refine z_aald (T := 0) (by decide) O dX4_copyFrom_90 y1'.1 ⟨by omega, by omega⟩ (by omega) (by omega) ?_
          change zG x _ _ _ _ _ (.ref (a (t + 10 + i.toNat)) :: _)
          refine z_astore [(4, .ref (a (t + 10 + i.toNat))), (3, .null), (2, .int (iI i)), (0, .ref (a t)), (1, .ref (a t2))] O dX4_copyFrom_91 (by decide) rfl ?_
          refine z_aload_nN 1 O dX4_copyFrom_93 rfl ?_
          refine z_ifnullN 108 O dX4_copyFrom_94 (by decide) ?_
          refine z_iinc 2 [(2, .int (iI (i + 1))), (4, .ref (a (t + 10 + i.toNat))), (3, .null), (0, .ref (a t)), (1, .ref (a t2))] O dX4_copyFrom_108 (by decide) rfl rfl ?_
          refine z_goto 70 O dX4_copyFrom_111 (by decide) ?_
          refine z_locs [0, 3, 4] rfl ?_
          exact ih (i + 1) H' V' (by omega) (by omega) (hf'.up (fun s h => by first | exact h.elim | omega | (simp at h ⊢; omega))) (fun j k j0 j1 j2 k0 k1 => hV j k j0 (by omega) j2 k0 k1) y0' y1' y2' y3' y4' y5' y6' y7' y8' y9'
  exact loop 5 0 H132 V (by omega) (by omega) (((((((((((((hf4.up (fun s h => by first | exact h.elim | omega | (simp at h ⊢; omega)))).tr (hf22.up (fun s h => by first | exact h.elim | omega | (simp at h ⊢; omega))))).tr (hf40.up (fun s h => by first | exact h.elim | omega | (simp at h ⊢; omega))))).tr (hf61.up (fun s h => by first | exact h.elim | omega | (simp at h ⊢; omega))))).tr (hf86.up (fun s h => by first | exact h.elim | omega | (simp at h ⊢; omega))))).tr (hf111.up (fun s h => by first | exact h.elim | omega | (simp at h ⊢; omega))))).tr (hf136.up (fun s h => by first | exact h.elim | omega | (simp at h ⊢; omega)))) (fun j k j0 j1 => by omega) ho142 hQ143 hr144 hr145 hr146 hr137 hWs147 gO148 gWs153 h154

