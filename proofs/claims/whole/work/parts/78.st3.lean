/-! the class: undoing, regretting, ends (written by program: wip/whole/gen/class6.py) -/
theorem c_X2_rollBack {E : zE} (hst : E.1.stackTraces = false) {H : Heap} {r : zH} {a : Nat → Nat} {t : Nat} {G : Int → Int} {w mk : Int} (h : zSt E H r a t G) (hI : sWi G w) (hmk : 0 ≤ mk ∧ mk ≤ G (at_ w 1)) : zC E yX2_rollBack cX2_rollBack 5 none 1 22 [.ref (a t), .ref (a (t + 6 + 16 * w.toNat)), .int (iI mk)] H 0 0 (zRv (fun H1 => zFr H r H1 r (fun s => (t + 2 ≤ s ∧ s ≤ t + 3) ∨ (t + 6 + 16 * w.toNat + 2 ≤ s ∧ s ≤ t + 6 + 16 * w.toNat + 3)) ∧ zRow E H1 r (t + 2) (a (t + 2)) 16 16 (sUn (G (at_ w 1) - mk).toNat G w) ∧ zRow E H1 r (t + 6 + 16 * w.toNat + 2) (a (t + 6 + 16 * w.toNat + 2)) 1024 mk (fun k => G (at_ w (70 + k))))) zN := by
  refine zC.of (by decide) (Nat.le_of_ble_eq_true rfl) hst ?_
  intro x O hE hpo hpx
  subst hE
  change zG x H 0 0 0 [(0, .ref (a t)), (1, .ref (a (t + 6 + 16 * w.toNat))), (2, .int (iI mk))] []
  obtain ⟨sO, sQ, sV, sL, sWs⟩ := id h
  obtain ⟨hWk, hOt⟩ := zSt_w sWs hI.1
  obtain ⟨np, f1, f2, V, hO, hQ, hLg, hRg, hPL, hPR, hWs, hRl⟩ := id hWk
  have hl := hI.2.2.1
  have hw := hI.1
  refine z_aload_n 1 O dX2_rollBack_0 rfl ?_
  refine z_getf kF_X2_72 O dX2_rollBack_1 hO.1 rfl ?_
  obtain ⟨it1, hRo2⟩ := hLg.o
  refine z_getf kF_X2_75 O dX2_rollBack_4 hRo2.1 rfl ?_
  refine z_iconst 1 O dX2_rollBack_7 (by decide +kernel) ?_
  refine z_isub O dX2_rollBack_8 ?_
  refine z_istore_n [(3, .int (iI ((G (at_ w 1)) - 1))), (0, .ref (a t)), (1, .ref (a (t + 6 + 16 * w.toNat))), (2, .int (iI mk))] O dX2_rollBack_9 (by decide) rfl ?_
  have loop : ∀ (d : Nat) (k : Int) (K : Int → Int) (H' : Heap), (k + 1 = mk + (d : Int)) → (mk + (d : Int) ≤ G (at_ w 1)) → (sUn d K w = sUn (G (at_ w 1) - mk).toNat G w) → (K (at_ w 1) = mk + d) → (∀ j : Int, 16 ≤ j → j ≠ at_ w 1 → K j = G j) → (zFr H r H' r (fun s => (t + 2 ≤ s ∧ s ≤ t + 3) ∨ (t + 6 + 16 * w.toNat + 2 ≤ s ∧ s ≤ t + 6 + 16 * w.toNat + 3))) → (zO (zEn x) H' r t (a t) 2 [.ref (a (t + 2)), .ref (a (t + 4)), .ref (a (t + 1)), .int (iI (G 32)), .int (iI (G 33)), .int (iI (G 34)), .int (iI (G 35))]) → (zRow (zEn x) H' r (t + 2) (a (t + 2)) 16 16 K) → (zO (zEn x) H' r (t + 6 + 16 * w.toNat) (a (t + 6 + 16 * w.toNat)) 4 [.int (iI w), .ref (a (t + 6 + 16 * w.toNat + 1)), .ref (a (t + 6 + 16 * w.toNat + 2)), .ref (a (t + 6 + 16 * w.toNat + 4)), .ref (a (t + 6 + 16 * w.toNat + 6)), .ref (a (t + 6 + 16 * w.toNat + 8)), .int (iI (G (at_ w 0))), .int (iI (G (at_ w 3))), .int (iI (G (at_ w 4)))]) → (zRow (zEn x) H' r (t + 6 + 16 * w.toNat + 2) (a (t + 6 + 16 * w.toNat + 2)) 1024 (G (at_ w 1)) (fun k => G (at_ w (70 + k)))) → zG x H' 0 0 10 [(3, .int (iI k)), (0, .ref (a t)), (1, .ref (a (t + 6 + 16 * w.toNat))), (2, .int (iI mk))] [] := by
    intro d
    induction d with
    | zero =>
      intro k K H' hk hkn hRR hK1 hKG hf' y0' y1' y2' y3'
      refine z_iload_n 0 O dX2_rollBack_10 rfl ?_
      refine z_iload_n 3 O dX2_rollBack_11 rfl ?_
      refine z_icmp_lt 48 O dX2_rollBack_12 (by decide) ⟨by omega, by omega⟩ ⟨by omega, by omega⟩ (fun c_12 => ?_) (fun c_12 => ?_)
      · skip
        refine z_aload_n 2 O dX2_rollBack_48 rfl ?_
        refine z_getf kF_X2_72 O dX2_rollBack_49 y2'.1 rfl ?_
        refine z_iload_n 3 O dX2_rollBack_52 rfl ?_
        obtain ⟨it3, hRo4⟩ := y3'.o
        refine z_Vvm [.int (iI mk)] [] kM_X2_181 O dX2_rollBack_53 (c_X1_cutTo hst y3' ⟨by omega, by omega⟩) rfl rfl hRo4.1 (by decide) (Nat.le_of_ble_eq_true rfl) (by omega) (by omega) (Nat.le_of_ble_eq_true rfl) zNx (fun H5 hp6 hz7 => ?_)
        obtain ⟨hf8, hr9⟩ := hp6
        have hR10 : zRow (zEn x) H5 r (t + 6 + 16 * w.toNat + 2) (a (t + 6 + 16 * w.toNat + 2)) 1024 mk (fun k => G (at_ w (70 + k))) := by rw [show zRc (G (at_ w 1)) mk = mk from (by unfold zRc; split <;> omega)] at hr9; exact hr9
        have y0'11 := y0'.fr hf8 (by first | exact (fun h => h) | exact zT1 (by omega) | (show ¬ (_ ∨ _); omega) | (show ¬ (_ ∧ _); omega))
        have y1'12 := y1'.fr hf8 (by first | exact (fun h => h) | exact zT1 (by omega) | (show ¬ (_ ∨ _); omega) | (show ¬ (_ ∧ _); omega)) (by first | exact (fun h => h) | exact zT1 (by omega) | (show ¬ (_ ∨ _); omega) | (show ¬ (_ ∧ _); omega))
        have y2'13 := y2'.fr hf8 (by first | exact (fun h => h) | exact zT1 (by omega) | (show ¬ (_ ∨ _); omega) | (show ¬ (_ ∧ _); omega))
        exact z_iretv O dX2_rollBack_56 rfl (by omega) (by omega) hpo (⟨(((hf'.up (fun s h => by first | exact h.elim | omega | (simp at h ⊢; omega)))).tr (hf8.up (fun s h => by first | exact h.elim | omega | (simp at h ⊢; omega)))), (by rw [← hRR]; exact y1'12), hR10⟩)
      · exfalso; omega
    | succ d ih =>
      intro k K H' hk hkn hRR hK1 hKG hf' y0' y1' y2' y3'
      refine z_iload_n 0 O dX2_rollBack_10 rfl ?_
      refine z_iload_n 3 O dX2_rollBack_11 rfl ?_
      refine z_icmp_lt 48 O dX2_rollBack_12 (by decide) ⟨by omega, by omega⟩ ⟨by omega, by omega⟩ (fun c_12 => ?_) (fun c_12 => ?_)
      · exfalso; omega
      · skip
        refine z_aload_n 2 O dX2_rollBack_15 rfl ?_
        refine z_getf kF_X2_72 O dX2_rollBack_16 y2'.1 rfl ?_
        refine z_iload_n 0 O dX2_rollBack_19 rfl ?_
        obtain ⟨it14, hRo15⟩ := y3'.o
        refine z_Vi [.int (iI k)] [] kM_X2_65 O dX2_rollBack_20 (c_X1_get hst y3' ⟨by omega, by omega⟩) rfl rfl hRo15.1 (by decide) (Nat.le_of_ble_eq_true rfl) (by omega) (by omega) (Nat.le_of_ble_eq_true rfl) zNx ?_
        rw [show zRg (G (at_ w 1)) (fun k => G (at_ w (70 + k))) k = G (at_ w (70 + k)) from (by unfold zRg; exact if_pos ⟨by omega, by omega⟩)]
        have he := hI.2.2.2.2.1 k (by omega) (by omega)
        refine z_istore [(4, .int (iI (G (at_ w (70 + k))))), (3, .int (iI k)), (0, .ref (a t)), (1, .ref (a (t + 6 + 16 * w.toNat))), (2, .int (iI mk))] O dX2_rollBack_23 (by decide) rfl ?_
        refine z_aload_n 2 O dX2_rollBack_25 rfl ?_
        refine z_getf kF_X2_14 O dX2_rollBack_26 y0'.1 rfl ?_
        refine z_iload 0 O dX2_rollBack_29 rfl ?_
        refine z_bipush 100 O dX2_rollBack_31 (by decide +kernel) ?_
        refine z_idiv O dX2_rollBack_33 ⟨by omega, by omega⟩ ⟨by omega, by omega⟩ (by omega) (by omega) ?_
        refine z_iload 0 O dX2_rollBack_34 rfl ?_
        refine z_bipush 100 O dX2_rollBack_36 (by decide +kernel) ?_
        refine z_irem O dX2_rollBack_38 ⟨by omega, by omega⟩ ⟨by omega, by omega⟩ (by omega) (by omega) ?_
        obtain ⟨it16, hRo17⟩ := y1'.o
        refine z_Vvm [.int (iI ((G (at_ w (70 + k))) / 100)), .int (iI ((G (at_ w (70 + k))) % 100))] [] kM_X2_39 O dX2_rollBack_39 (c_X1_set hst y1' ⟨by omega, by omega⟩) rfl rfl hRo17.1 (by decide) (Nat.le_of_ble_eq_true rfl) (by omega) (by omega) (Nat.le_of_ble_eq_true rfl) zNx (fun H18 hp19 hz20 => ?_)
        obtain ⟨hf21, hr22⟩ := hp19
        have hR23 : zRow (zEn x) H18 r (t + 2) (a (t + 2)) 16 16 (zU K ((G (at_ w (70 + k))) / 100) ((G (at_ w (70 + k))) % 100)) := by rw [show zRs 16 K ((G (at_ w (70 + k))) / 100) ((G (at_ w (70 + k))) % 100) = zU K ((G (at_ w (70 + k))) / 100) ((G (at_ w (70 + k))) % 100) from (by unfold zRs; exact if_pos ⟨by omega, by omega⟩)] at hr22; exact hr22
        have y0'24 := y0'.fr hf21 (by first | exact (fun h => h) | exact zT1 (by omega) | (show ¬ (_ ∨ _); omega) | (show ¬ (_ ∧ _); omega))
        have y2'25 := y2'.fr hf21 (by first | exact (fun h => h) | exact zT1 (by omega) | (show ¬ (_ ∨ _); omega) | (show ¬ (_ ∧ _); omega))
        have y3'26 := y3'.fr hf21 (by first | exact (fun h => h) | exact zT1 (by omega) | (show ¬ (_ ∨ _); omega) | (show ¬ (_ ∧ _); omega)) (by first | exact (fun h => h) | exact zT1 (by omega) | (show ¬ (_ ∨ _); omega) | (show ¬ (_ ∧ _); omega))
        refine z_iinc 1 [(3, .int (iI (k + (-1)))), (4, .int (iI (G (at_ w (70 + k))))), (0, .ref (a t)), (1, .ref (a (t + 6 + 16 * w.toNat))), (2, .int (iI mk))] O dX2_rollBack_42 (by decide) rfl rfl ?_
        refine z_goto 10 O dX2_rollBack_45 (by decide) ?_
        refine z_locs [0, 2, 3, 4] rfl ?_
        have hus : sUs K w = zU (zU K (at_ w 1) k) (G (at_ w (70 + k)) / 100) (G (at_ w (70 + k)) % 100) := by unfold sUs; rw [show K (at_ w 1) - 1 = k by omega, hKG (at_ w (70 + k)) (by rw [at_e]; omega) (by rw [at_e, at_e]; omega)]
        have a1 := at_e w 1
        have hV9 : zRow (zEn x) H18 r (t + 2) (a (t + 2)) 16 16 (sUs K w) := hR23.to (fun c c0 c1 => by rw [hus]; by_cases z : c = G (at_ w (70 + k)) / 100; (· rw [zU_e z, zU_e z]); (· rw [zU_n z, zU_n z, zU_n (by omega)]))
        exact ih (k + (-1)) (sUs K w) H18 (by omega) (by omega) hRR (by rw [hus, zU_n (by omega), zU_s]; omega) (fun j j0 j1 => by rw [hus, zU_n (by omega), zU_n j1]; exact hKG j j0 j1) (((hf'.up (fun s h => by first | exact h.elim | omega | (simp at h ⊢; omega)))).tr (hf21.up (fun s h => by first | exact h.elim | omega | (simp at h ⊢; omega)))) y0'24 hV9 y2'25 y3'26
  exact loop (G (at_ w 1) - mk).toNat (G (at_ w 1) - 1) G H (by omega) (by omega) rfl (by omega) (fun _ _ _ => rfl) zFr.rf sO sV hO hLg

/-- one regret done, place by place -/
theorem sRs_t {K : Int → Int} {w e : Int} (hw : 0 ≤ w) (hr : 0 ≤ e ∧ e < 1600) (he : K (at_ w (710 + (K (at_ w 2) - 1))) = e) (j : Int) : sRs K w true j = if j = 35 then K 35 + 1 else if j = e / 100 then (K (e / 100) + e % 100) % 100 else if j = 36 + 1350 * w + 2 then K (at_ w 2) - 1 else K j := by
  unfold sRs
  rw [he, sRl_t rfl]
  rfl
theorem sRs_f {K : Int → Int} {w e : Int} (hw : 0 ≤ w) (hr : 0 ≤ e ∧ e < 1600) (h1 : 0 ≤ K (at_ w 1)) (he : K (at_ w (710 + (K (at_ w 2) - 1))) = e) (j : Int) : sRs K w false j = if j = 35 then K 35 + 1 else if j = e / 100 then (K (e / 100) + e % 100) % 100 else if j = 36 + 1350 * w + 1 then K (at_ w 1) + 1 else if j = 36 + 1350 * w + (70 + K (at_ w 1)) then 100 * (e / 100) + K (e / 100) else if j = 36 + 1350 * w + 2 then K (at_ w 2) - 1 else K j := by
  have a1 := at_e w 1
  have a2 := at_e w 2
  unfold sRs
  rw [he, sRl_f rfl, he]
  unfold sEnter
  rw [show zU K (at_ w 2) (K (at_ w 2) - 1) (at_ w 1) = K (at_ w 1) from zU_n (by omega), show zU K (at_ w 2) (K (at_ w 2) - 1) (e / 100) = K (e / 100) from zU_n (by omega)]
  rfl
theorem c_X2_doRegrets {E : zE} (hst : E.1.stackTraces = false) {H : Heap} {r : zH} {a : Nat → Nat} {t : Nat} {G : Int → Int} {w mk dd : Int} {o : Bool} {m1 m2 m3 m4 m5 : Value} (sO : zO E H r t (a t) 2 [.ref (a (t + 2)), .ref (a (t + 4)), .ref (a (t + 1)), m1, m2, m3, .int (iI (G 35))]) (sV : zRow E H r (t + 2) (a (t + 2)) 16 16 G) (hO : zO E H r (t + 6 + 16 * w.toNat) (a (t + 6 + 16 * w.toNat)) 4 [.int (iI w), .ref (a (t + 6 + 16 * w.toNat + 1)), .ref (a (t + 6 + 16 * w.toNat + 2)), .ref (a (t + 6 + 16 * w.toNat + 4)), .ref (a (t + 6 + 16 * w.toNat + 6)), .ref (a (t + 6 + 16 * w.toNat + 8)), .int (iI dd), m4, m5]) (hLg : zRow E H r (t + 6 + 16 * w.toNat + 2) (a (t + 6 + 16 * w.toNat + 2)) 1024 (G (at_ w 1)) (fun k => G (at_ w (70 + k)))) (hRg : zRow E H r (t + 6 + 16 * w.toNat + 4) (a (t + 6 + 16 * w.toNat + 4)) 1024 (G (at_ w 2)) (fun k => G (at_ w (710 + k)))) (hw : 0 ≤ w ∧ w ≤ 2) (hmk : 0 ≤ mk ∧ mk ≤ G (at_ w 2)) (hsr : sRI G w o ((G (at_ w 2) - mk).toNat : Int)) (hoo : o = decide (dd = 1)) (hdd : 1 ≤ dd ∧ dd ≤ 5) : zC E yX2_doRegrets cX2_doRegrets 7 none 3 91 [.ref (a t), .ref (a (t + 6 + 16 * w.toNat)), .int (iI mk)] H 1024 20480 (zRv (fun H1 => ∃ r1, zFr H r H1 r1 (fun s => s = t ∨ (t + 2 ≤ s ∧ s ≤ t + 3) ∨ (t + 6 + 16 * w.toNat + 2 ≤ s ∧ s ≤ t + 6 + 16 * w.toNat + 5)) ∧ zGw t H r H1 r1 ∧ zO E H1 r1 t (a t) 2 [.ref (a (t + 2)), .ref (a (t + 4)), .ref (a (t + 1)), m1, m2, m3, .int (iI ((sRn (G (at_ w 2) - mk).toNat G w o) 35))] ∧ zRow E H1 r1 (t + 2) (a (t + 2)) 16 16 (sRn (G (at_ w 2) - mk).toNat G w o) ∧ zRow E H1 r1 (t + 6 + 16 * w.toNat + 2) (a (t + 6 + 16 * w.toNat + 2)) 1024 ((sRn (G (at_ w 2) - mk).toNat G w o) (at_ w 1)) (fun k => (sRn (G (at_ w 2) - mk).toNat G w o) (at_ w (70 + k))) ∧ zRow E H1 r1 (t + 6 + 16 * w.toNat + 4) (a (t + 6 + 16 * w.toNat + 4)) 1024 mk (fun k => G (at_ w (710 + k))))) zN := by
  refine zC.of2 (by decide) (Nat.le_of_ble_eq_true rfl) hst ?_
  intro x O hE hpo hpx hH
  subst hE
  change zG x H 0 0 0 [(0, .ref (a t)), (1, .ref (a (t + 6 + 16 * w.toNat))), (2, .int (iI mk))] []
  have hr6 := hsr.2.2.1
  refine z_aload_n 1 O dX2_doRegrets_0 rfl ?_
  refine z_getf kF_X2_159 O dX2_doRegrets_1 hO.1 rfl ?_
  obtain ⟨it1, hRo2⟩ := hRg.o
  refine z_getf kF_X2_75 O dX2_doRegrets_4 hRo2.1 rfl ?_
  refine z_iconst 1 O dX2_doRegrets_7 (by decide +kernel) ?_
  refine z_isub O dX2_doRegrets_8 ?_
  refine z_istore_n [(3, .int (iI ((G (at_ w 2)) - 1))), (0, .ref (a t)), (1, .ref (a (t + 6 + 16 * w.toNat))), (2, .int (iI mk))] O dX2_doRegrets_9 (by decide) rfl ?_
  have loop : ∀ (d : Nat) (k : Int) (K : Int → Int) (H' : Heap) (r' : zH), (k + 1 = mk + (d : Int)) → (mk + (d : Int) ≤ G (at_ w 2)) → (sRn d K w o = (sRn (G (at_ w 2) - mk).toNat G w o)) → (sRI K w o d) → (K (at_ w 2) = mk + d) → (∀ j : Int, 0 ≤ j → j < G (at_ w 2) → K (at_ w (710 + j)) = G (at_ w (710 + j))) → (zFr H r H' r' (fun s => s = t ∨ (t + 2 ≤ s ∧ s ≤ t + 3) ∨ (t + 6 + 16 * w.toNat + 2 ≤ s ∧ s ≤ t + 6 + 16 * w.toNat + 5))) → (r'.2 = (zCap r (t + 6 + 16 * w.toNat + 2 + 1) (r'.2 (t + 6 + 16 * w.toNat + 2 + 1))).2) → (r.2 (t + 6 + 16 * w.toNat + 2 + 1) ≤ r'.2 (t + 6 + 16 * w.toNat + 2 + 1)) → (zO (zEn x) H' r' t (a t) 2 [.ref (a (t + 2)), .ref (a (t + 4)), .ref (a (t + 1)), m1, m2, m3, .int (iI (K 35))]) → (zRow (zEn x) H' r' (t + 2) (a (t + 2)) 16 16 K) → (zO (zEn x) H' r' (t + 6 + 16 * w.toNat) (a (t + 6 + 16 * w.toNat)) 4 [.int (iI w), .ref (a (t + 6 + 16 * w.toNat + 1)), .ref (a (t + 6 + 16 * w.toNat + 2)), .ref (a (t + 6 + 16 * w.toNat + 4)), .ref (a (t + 6 + 16 * w.toNat + 6)), .ref (a (t + 6 + 16 * w.toNat + 8)), .int (iI dd), m4, m5]) → (zRow (zEn x) H' r' (t + 6 + 16 * w.toNat + 2) (a (t + 6 + 16 * w.toNat + 2)) 1024 (K (at_ w 1)) (fun k => K (at_ w (70 + k)))) → (zRow (zEn x) H' r' (t + 6 + 16 * w.toNat + 4) (a (t + 6 + 16 * w.toNat + 4)) 1024 (G (at_ w 2)) (fun k => G (at_ w (710 + k)))) → zG x H' (r'.2 (t + 6 + 16 * w.toNat + 2 + 1) - r.2 (t + 6 + 16 * w.toNat + 2 + 1)) (20 * (r'.2 (t + 6 + 16 * w.toNat + 2 + 1) - r.2 (t + 6 + 16 * w.toNat + 2 + 1))) 10 [(3, .int (iI k)), (0, .ref (a t)), (1, .ref (a (t + 6 + 16 * w.toNat))), (2, .int (iI mk))] [] := by
    intro d
    induction d with
    | zero =>
      intro k K H' r' hk hkn hRR hRI hK2 hKG hf' hcp hcl y0' y1' y2' y3' y4'
      refine z_iload_n 0 O dX2_doRegrets_10 rfl ?_
      refine z_iload_n 3 O dX2_doRegrets_11 rfl ?_
      have hcap9 := y3'.cap
      refine z_icmp_lt 102 O dX2_doRegrets_12 (by decide) ⟨by omega, by omega⟩ ⟨by omega, by omega⟩ (fun c_12 => ?_) (fun c_12 => ?_)
      · skip
        refine z_aload_n 2 O dX2_doRegrets_102 rfl ?_
        refine z_getf kF_X2_159 O dX2_doRegrets_103 y2'.1 rfl ?_
        refine z_iload_n 3 O dX2_doRegrets_106 rfl ?_
        obtain ⟨it3, hRo4⟩ := y4'.o
        refine z_Vvm [.int (iI mk)] [] kM_X2_181 O dX2_doRegrets_107 (c_X1_cutTo hst y4' ⟨by omega, by omega⟩) rfl rfl hRo4.1 (by decide) (Nat.le_of_ble_eq_true rfl) (by omega) (by omega) (Nat.le_of_ble_eq_true rfl) zNx (fun H5 hp6 hz7 => ?_)
        obtain ⟨hf8, hr9⟩ := hp6
        have hR10 : zRow (zEn x) H5 r' (t + 6 + 16 * w.toNat + 4) (a (t + 6 + 16 * w.toNat + 4)) 1024 mk (fun k => G (at_ w (710 + k))) := by rw [show zRc (G (at_ w 2)) mk = mk from (by unfold zRc; split <;> omega)] at hr9; exact hr9
        have y0'11 := y0'.fr hf8 (by first | exact (fun h => h) | exact zT1 (by omega) | (show ¬ (_ ∨ _); omega) | (show ¬ (_ ∧ _); omega))
        have y1'12 := y1'.fr hf8 (by first | exact (fun h => h) | exact zT1 (by omega) | (show ¬ (_ ∨ _); omega) | (show ¬ (_ ∧ _); omega)) (by first | exact (fun h => h) | exact zT1 (by omega) | (show ¬ (_ ∨ _); omega) | (show ¬ (_ ∧ _); omega))
        have y2'13 := y2'.fr hf8 (by first | exact (fun h => h) | exact zT1 (by omega) | (show ¬ (_ ∨ _); omega) | (show ¬ (_ ∧ _); omega))
        have y3'14 := y3'.fr hf8 (by first | exact (fun h => h) | exact zT1 (by omega) | (show ¬ (_ ∨ _); omega) | (show ¬ (_ ∧ _); omega)) (by first | exact (fun h => h) | exact zT1 (by omega) | (show ¬ (_ ∨ _); omega) | (show ¬ (_ ∧ _); omega))
        refine z_meter (fun hm1 hm2 => ?_)
        rw [hH] at hm1 hm2
        have p0 := zPh_up (t := t) (w := w.toNat) (d := 0) hcp (by omega) (by omega) (by omega)
        have hgw : zGw t H r H5 r' := ⟨by omega, by omega⟩
        exact z_iretv O dX2_doRegrets_110 rfl (by omega) (by omega) hpo (⟨r', (((hf'.up (fun s h => by first | exact h.elim | omega | (simp at h ⊢; omega)))).tr (hf8.up (fun s h => by first | exact h.elim | omega | (simp at h ⊢; omega)))), hgw, (by rw [← hRR]; exact y0'11), (by rw [← hRR]; exact y1'12), (by rw [← hRR]; exact y3'14), hR10⟩)
      · exfalso; omega
    | succ d ih =>
      intro k K H' r' hk hkn hRR hRI hK2 hKG hf' hcp hcl y0' y1' y2' y3' y4'
      refine z_iload_n 0 O dX2_doRegrets_10 rfl ?_
      refine z_iload_n 3 O dX2_doRegrets_11 rfl ?_
      have hcap9 := y3'.cap
      refine z_icmp_lt 102 O dX2_doRegrets_12 (by decide) ⟨by omega, by omega⟩ ⟨by omega, by omega⟩ (fun c_12 => ?_) (fun c_12 => ?_)
      · exfalso; omega
      · skip
        refine z_aload_n 2 O dX2_doRegrets_15 rfl ?_
        refine z_getf kF_X2_159 O dX2_doRegrets_16 y2'.1 rfl ?_
        refine z_iload_n 0 O dX2_doRegrets_19 rfl ?_
        obtain ⟨it15, hRo16⟩ := y4'.o
        refine z_Vi [.int (iI k)] [] kM_X2_65 O dX2_doRegrets_20 (c_X1_get hst y4' ⟨by omega, by omega⟩) rfl rfl hRo16.1 (by decide) (Nat.le_of_ble_eq_true rfl) (by omega) (by omega) (Nat.le_of_ble_eq_true rfl) zNx ?_
        rw [show zRg (G (at_ w 2)) (fun k => G (at_ w (710 + k))) k = G (at_ w (710 + k)) from (by unfold zRg; exact if_pos ⟨by omega, by omega⟩)]
        obtain ⟨hiw, hi1, hi2, hir, hie, hiv⟩ := id hRI
        have he := hir k (by omega) (by omega)
        rw [hKG k (by omega) (by omega)] at he
        have heq : K (at_ w (710 + (K (at_ w 2) - 1))) = G (at_ w (710 + k)) := by rw [show K (at_ w 2) - 1 = k by omega]; exact hKG k (by omega) (by omega)
        have hvc := hiv (G (at_ w (710 + k)) / 100) (by omega) (by omega)
        refine z_istore [(4, .int (iI (G (at_ w (710 + k))))), (3, .int (iI k)), (0, .ref (a t)), (1, .ref (a (t + 6 + 16 * w.toNat))), (2, .int (iI mk))] O dX2_doRegrets_23 (by decide) rfl ?_
        refine z_iload 0 O dX2_doRegrets_25 rfl ?_
        refine z_bipush 100 O dX2_doRegrets_27 (by decide +kernel) ?_
        refine z_idiv O dX2_doRegrets_29 ⟨by omega, by omega⟩ ⟨by omega, by omega⟩ (by omega) (by omega) ?_
        refine z_istore [(5, .int (iI ((G (at_ w (710 + k))) / 100))), (4, .int (iI (G (at_ w (710 + k))))), (3, .int (iI k)), (0, .ref (a t)), (1, .ref (a (t + 6 + 16 * w.toNat))), (2, .int (iI mk))] O dX2_doRegrets_30 (by decide) rfl ?_
        refine z_aload_n 3 O dX2_doRegrets_32 rfl ?_
        refine z_getf kF_X2_14 O dX2_doRegrets_33 y0'.1 rfl ?_
        refine z_iload 0 O dX2_doRegrets_36 rfl ?_
        obtain ⟨it17, hRo18⟩ := y1'.o
        refine z_Vi [.int (iI ((G (at_ w (710 + k))) / 100))] [] kM_X2_65 O dX2_doRegrets_38 (c_X1_get hst y1' ⟨by omega, by omega⟩) rfl rfl hRo18.1 (by decide) (Nat.le_of_ble_eq_true rfl) (by omega) (by omega) (Nat.le_of_ble_eq_true rfl) zNx ?_
        rw [show zRg 16 K ((G (at_ w (710 + k))) / 100) = K ((G (at_ w (710 + k))) / 100) from (by unfold zRg; exact if_pos ⟨by omega, by omega⟩)]
        obtain ⟨hiw, hi1, hi2, hir, hie, hiv⟩ := id hRI
        have he := hir k (by omega) (by omega)
        rw [hKG k (by omega) (by omega)] at he
        have heq : K (at_ w (710 + (K (at_ w 2) - 1))) = G (at_ w (710 + k)) := by rw [show K (at_ w 2) - 1 = k by omega]; exact hKG k (by omega) (by omega)
        have hvc := hiv (G (at_ w (710 + k)) / 100) (by omega) (by omega)
        refine z_istore [(6, .int (iI (K ((G (at_ w (710 + k))) / 100)))), (5, .int (iI ((G (at_ w (710 + k))) / 100))), (4, .int (iI (G (at_ w (710 + k))))), (3, .int (iI k)), (0, .ref (a t)), (1, .ref (a (t + 6 + 16 * w.toNat))), (2, .int (iI mk))] O dX2_doRegrets_41 (by decide) rfl ?_
        refine z_aload_n 5 O dX2_doRegrets_43 rfl ?_
        refine z_getf kF_X2_69 O dX2_doRegrets_44 y2'.1 rfl ?_
        refine z_iconst 1 O dX2_doRegrets_47 (by decide +kernel) ?_
        have hl6 : o = false → K (at_ w 1) + (d + 1 : Nat) ≤ 640 := fun q => hi1.2 q
        refine z_icmp_le 66 O dX2_doRegrets_48 (by decide) ⟨by omega, by omega⟩ ⟨by omega, by omega⟩ (fun c_48 => ?_) (fun c_48 => ?_)
        · skip
          refine z_aload_n 4 O dX2_doRegrets_66 rfl ?_
          refine z_getf kF_X2_14 O dX2_doRegrets_67 y0'.1 rfl ?_
          refine z_iload 1 O dX2_doRegrets_70 rfl ?_
          refine z_iload 0 O dX2_doRegrets_72 rfl ?_
          refine z_iload 2 O dX2_doRegrets_74 rfl ?_
          refine z_bipush 100 O dX2_doRegrets_76 (by decide +kernel) ?_
          refine z_irem O dX2_doRegrets_78 ⟨by omega, by omega⟩ ⟨by omega, by omega⟩ (by omega) (by omega) ?_
          refine z_iadd O dX2_doRegrets_79 ?_
          refine z_bipush 100 O dX2_doRegrets_80 (by decide +kernel) ?_
          refine z_irem O dX2_doRegrets_82 ⟨by omega, by omega⟩ ⟨by omega, by omega⟩ (by omega) (by omega) ?_
          obtain ⟨it19, hRo20⟩ := y1'.o
          refine z_Vvm [.int (iI ((G (at_ w (710 + k))) / 100)), .int (iI (((K ((G (at_ w (710 + k))) / 100)) + ((G (at_ w (710 + k))) % 100)) % 100))] [] kM_X2_39 O dX2_doRegrets_83 (c_X1_set hst y1' ⟨by omega, by omega⟩) rfl rfl hRo20.1 (by decide) (Nat.le_of_ble_eq_true rfl) (by omega) (by omega) (Nat.le_of_ble_eq_true rfl) zNx (fun H21 hp22 hz23 => ?_)
          obtain ⟨hf24, hr25⟩ := hp22
          have hR26 : zRow (zEn x) H21 r' (t + 2) (a (t + 2)) 16 16 (zU K ((G (at_ w (710 + k))) / 100) (((K ((G (at_ w (710 + k))) / 100)) + ((G (at_ w (710 + k))) % 100)) % 100)) := by rw [show zRs 16 K ((G (at_ w (710 + k))) / 100) (((K ((G (at_ w (710 + k))) / 100)) + ((G (at_ w (710 + k))) % 100)) % 100) = zU K ((G (at_ w (710 + k))) / 100) (((K ((G (at_ w (710 + k))) / 100)) + ((G (at_ w (710 + k))) % 100)) % 100) from (by unfold zRs; exact if_pos ⟨by omega, by omega⟩)] at hr25; exact hr25
          have y0'27 := y0'.fr hf24 (by first | exact (fun h => h) | exact zT1 (by omega) | (show ¬ (_ ∨ _); omega) | (show ¬ (_ ∧ _); omega))
          have y2'28 := y2'.fr hf24 (by first | exact (fun h => h) | exact zT1 (by omega) | (show ¬ (_ ∨ _); omega) | (show ¬ (_ ∧ _); omega))
          have y3'29 := y3'.fr hf24 (by first | exact (fun h => h) | exact zT1 (by omega) | (show ¬ (_ ∨ _); omega) | (show ¬ (_ ∧ _); omega)) (by first | exact (fun h => h) | exact zT1 (by omega) | (show ¬ (_ ∨ _); omega) | (show ¬ (_ ∧ _); omega))
          have y4'30 := y4'.fr hf24 (by first | exact (fun h => h) | exact zT1 (by omega) | (show ¬ (_ ∨ _); omega) | (show ¬ (_ ∧ _); omega)) (by first | exact (fun h => h) | exact zT1 (by omega) | (show ¬ (_ ∨ _); omega) | (show ¬ (_ ∧ _); omega))
          refine z_aload_n 4 O dX2_doRegrets_86 rfl ?_
          refine z_dup O dX2_doRegrets_87 rfl ?_
          refine z_getf kF_X2_55 O dX2_doRegrets_88 y0'27.1 rfl ?_
          refine z_iconst 1 O dX2_doRegrets_91 (by decide +kernel) ?_
          refine z_iadd O dX2_doRegrets_92 ?_
          refine z_putf kP_X2_55 O (fun h => nomatch h) dX2_doRegrets_93 y0'27.1 rfl rfl (Nat.le_of_ble_eq_true rfl) (fun H31 hO32 hC33 => ?_)
          have hf34 := y0'27.ch hC33
          have ho35 : zO (zEn x) H31 r' t (a t) 2 [.ref (a (t + 2)), .ref (a (t + 4)), .ref (a (t + 1)), m1, m2, m3, .int (iI ((K 35) + 1))] := ⟨hO32, y0'27.2⟩
          have hR36 := hR26.fr hf34 (by first | exact (fun h => h) | exact zT1 (by omega) | (show ¬ (_ ∨ _); omega) | (show ¬ (_ ∧ _); omega)) (by first | exact (fun h => h) | exact zT1 (by omega) | (show ¬ (_ ∨ _); omega) | (show ¬ (_ ∧ _); omega))
          have y2'37 := y2'28.fr hf34 (by first | exact (fun h => h) | exact zT1 (by omega) | (show ¬ (_ ∨ _); omega) | (show ¬ (_ ∧ _); omega))
          have y3'38 := y3'29.fr hf34 (by first | exact (fun h => h) | exact zT1 (by omega) | (show ¬ (_ ∨ _); omega) | (show ¬ (_ ∧ _); omega)) (by first | exact (fun h => h) | exact zT1 (by omega) | (show ¬ (_ ∨ _); omega) | (show ¬ (_ ∧ _); omega))
          have y4'39 := y4'30.fr hf34 (by first | exact (fun h => h) | exact zT1 (by omega) | (show ¬ (_ ∨ _); omega) | (show ¬ (_ ∧ _); omega)) (by first | exact (fun h => h) | exact zT1 (by omega) | (show ¬ (_ ∨ _); omega) | (show ¬ (_ ∧ _); omega))
          refine z_iinc 3 [(3, .int (iI (k + (-1)))), (6, .int (iI (K ((G (at_ w (710 + k))) / 100)))), (5, .int (iI ((G (at_ w (710 + k))) / 100))), (4, .int (iI (G (at_ w (710 + k))))), (0, .ref (a t)), (1, .ref (a (t + 6 + 16 * w.toNat))), (2, .int (iI mk))] O dX2_doRegrets_96 (by decide) rfl rfl ?_
          refine z_goto 10 O dX2_doRegrets_99 (by decide) ?_
          refine z_locs [0, 4, 5, 6] rfl ?_
          obtain rfl : o = true := by rw [hoo]; exact decide_eq_true (by omega)
          obtain ⟨hR9, h29⟩ := sRI.s (show sRI K w true ((d : Int) + 1) from hRI) (by omega)
          have a1 := at_e w 1
          have a2 := at_e w 2
          have hV9 : zRow (zEn x) H31 r' (t + 2) (a (t + 2)) 16 16 (sRs K w true) := hR36.to (fun c c0 c1 => by rw [sRs_t hiw he heq]; show zU _ _ _ _ = _; unfold zU; by_cases z : c = G (at_ w (710 + k)) / 100; (· rw [if_pos z]; (repeat first | rw [if_pos (by omega)] | rw [if_neg (by omega)])); (· rw [if_neg z]; (repeat first | rw [if_pos (by omega)] | rw [if_neg (by omega)])))
          have hS9 : zO (zEn x) H31 r' t (a t) 2 [.ref (a (t + 2)), .ref (a (t + 4)), .ref (a (t + 1)), m1, m2, m3, .int (iI (sRs K w true 35))] := by rw [show sRs K w true 35 = K 35 + 1 from (by rw [sRs_t hiw he heq]; (repeat first | rw [if_pos (by omega)] | rw [if_neg (by omega)]))]; exact ho35
          have hn9 : sRs K w true (at_ w 1) = K (at_ w 1) := by rw [sRs_t hiw he heq]; (repeat first | rw [if_pos (by omega)] | rw [if_neg (by omega)])
          have hL9 : zRow (zEn x) H31 r' (t + 6 + 16 * w.toNat + 2) (a (t + 6 + 16 * w.toNat + 2)) 1024 (sRs K w true (at_ w 1)) (fun k => sRs K w true (at_ w (70 + k))) := by rw [hn9]; exact y3'38.to (fun c c0 c1 => by have q := at_e w (70 + c); rw [sRs_t hiw he heq]; (repeat first | rw [if_pos (by omega)] | rw [if_neg (by omega)]))
          exact ih (k + (-1)) (sRs K w true) H31 r' (by omega) (by omega) hRR hR9 (by omega) (fun j j0 j1 => by have q := at_e w (710 + j); rw [show sRs K w true (at_ w (710 + j)) = K (at_ w (710 + j)) from (by rw [sRs_t hiw he heq]; (repeat first | rw [if_pos (by omega)] | rw [if_neg (by omega)]))]; exact hKG j j0 j1) (((((hf'.up (fun s h => by first | exact h.elim | omega | (simp at h ⊢; omega)))).tr (hf24.up (fun s h => by first | exact h.elim | omega | (simp at h ⊢; omega))))).tr (hf34.up (fun s h => by first | exact h.elim | omega | (simp at h ⊢; omega)))) hcp hcl hS9 hV9 y2'37 hL9 y4'39
        · skip
          refine z_aload_n 5 O dX2_doRegrets_51 rfl ?_
          refine z_getf kF_X2_72 O dX2_doRegrets_52 y2'.1 rfl ?_
          refine z_bipush 100 O dX2_doRegrets_55 (by decide +kernel) ?_
          refine z_iload 1 O dX2_doRegrets_57 rfl ?_
          refine z_imul O dX2_doRegrets_59 ?_
          refine z_iload 0 O dX2_doRegrets_60 rfl ?_
          refine z_iadd O dX2_doRegrets_62 ?_
          have hof : o = false := by rw [hoo]; exact decide_eq_false (by omega)
          have hl7 := hl6 hof
          obtain ⟨it40, hRo41⟩ := y3'.o
          have hcap42 := y3'.cap
          have hrn44 := y3'.n
          have hpc43 := zPc_R (n := K (at_ w 1)) hcap42.1 hrn44.1
          refine z_Vvm [.int (iI ((100 * ((G (at_ w (710 + k))) / 100)) + (K ((G (at_ w (710 + k))) / 100))))] [] kM_X2_33 O dX2_doRegrets_63 (c_X1_push hst y3' (by omega) (Or.inl ⟨by omega, rfl⟩)) rfl rfl hRo41.1 (by decide) (Nat.le_of_ble_eq_true rfl) (by omega) (by omega) (Nat.le_of_ble_eq_true rfl) zNx (fun H45 hp46 hz47 => ?_)
          obtain ⟨r48, hf49, hr50, hc51⟩ := hp46
          have y0'52 := y0'.fr hf49 (by first | exact (fun h => h) | exact zT1 (by omega) | (show ¬ (_ ∨ _); omega) | (show ¬ (_ ∧ _); omega))
          have y1'53 := y1'.fr hf49 (by first | exact (fun h => h) | exact zT1 (by omega) | (show ¬ (_ ∨ _); omega) | (show ¬ (_ ∧ _); omega)) (by first | exact (fun h => h) | exact zT1 (by omega) | (show ¬ (_ ∨ _); omega) | (show ¬ (_ ∧ _); omega))
          have y2'54 := y2'.fr hf49 (by first | exact (fun h => h) | exact zT1 (by omega) | (show ¬ (_ ∨ _); omega) | (show ¬ (_ ∧ _); omega))
          have y4'55 := y4'.fr hf49 (by first | exact (fun h => h) | exact zT1 (by omega) | (show ¬ (_ ∨ _); omega) | (show ¬ (_ ∧ _); omega)) (by first | exact (fun h => h) | exact zT1 (by omega) | (show ¬ (_ ∨ _); omega) | (show ¬ (_ ∧ _); omega))
          refine z_aload_n 4 O dX2_doRegrets_66 rfl ?_
          refine z_getf kF_X2_14 O dX2_doRegrets_67 y0'52.1 rfl ?_
          refine z_iload 1 O dX2_doRegrets_70 rfl ?_
          refine z_iload 0 O dX2_doRegrets_72 rfl ?_
          refine z_iload 2 O dX2_doRegrets_74 rfl ?_
          refine z_bipush 100 O dX2_doRegrets_76 (by decide +kernel) ?_
          refine z_irem O dX2_doRegrets_78 ⟨by omega, by omega⟩ ⟨by omega, by omega⟩ (by omega) (by omega) ?_
          refine z_iadd O dX2_doRegrets_79 ?_
          refine z_bipush 100 O dX2_doRegrets_80 (by decide +kernel) ?_
          refine z_irem O dX2_doRegrets_82 ⟨by omega, by omega⟩ ⟨by omega, by omega⟩ (by omega) (by omega) ?_
          obtain ⟨it56, hRo57⟩ := y1'53.o
          refine z_Vvm [.int (iI ((G (at_ w (710 + k))) / 100)), .int (iI (((K ((G (at_ w (710 + k))) / 100)) + ((G (at_ w (710 + k))) % 100)) % 100))] [] kM_X2_39 O dX2_doRegrets_83 (c_X1_set hst y1'53 ⟨by omega, by omega⟩) rfl rfl hRo57.1 (by decide) (Nat.le_of_ble_eq_true rfl) (by omega) (by omega) (Nat.le_of_ble_eq_true rfl) zNx (fun H58 hp59 hz60 => ?_)
          obtain ⟨hf61, hr62⟩ := hp59
          have hR63 : zRow (zEn x) H58 r48 (t + 2) (a (t + 2)) 16 16 (zU K ((G (at_ w (710 + k))) / 100) (((K ((G (at_ w (710 + k))) / 100)) + ((G (at_ w (710 + k))) % 100)) % 100)) := by rw [show zRs 16 K ((G (at_ w (710 + k))) / 100) (((K ((G (at_ w (710 + k))) / 100)) + ((G (at_ w (710 + k))) % 100)) % 100) = zU K ((G (at_ w (710 + k))) / 100) (((K ((G (at_ w (710 + k))) / 100)) + ((G (at_ w (710 + k))) % 100)) % 100) from (by unfold zRs; exact if_pos ⟨by omega, by omega⟩)] at hr62; exact hr62
          have y0'64 := y0'52.fr hf61 (by first | exact (fun h => h) | exact zT1 (by omega) | (show ¬ (_ ∨ _); omega) | (show ¬ (_ ∧ _); omega))
          have y2'65 := y2'54.fr hf61 (by first | exact (fun h => h) | exact zT1 (by omega) | (show ¬ (_ ∨ _); omega) | (show ¬ (_ ∧ _); omega))
          have hr66 := hr50.fr hf61 (by first | exact (fun h => h) | exact zT1 (by omega) | (show ¬ (_ ∨ _); omega) | (show ¬ (_ ∧ _); omega)) (by first | exact (fun h => h) | exact zT1 (by omega) | (show ¬ (_ ∨ _); omega) | (show ¬ (_ ∧ _); omega))
          have y4'67 := y4'55.fr hf61 (by first | exact (fun h => h) | exact zT1 (by omega) | (show ¬ (_ ∨ _); omega) | (show ¬ (_ ∧ _); omega)) (by first | exact (fun h => h) | exact zT1 (by omega) | (show ¬ (_ ∨ _); omega) | (show ¬ (_ ∧ _); omega))
          refine z_aload_n 4 O dX2_doRegrets_86 rfl ?_
          refine z_dup O dX2_doRegrets_87 rfl ?_
          refine z_getf kF_X2_55 O dX2_doRegrets_88 y0'64.1 rfl ?_
          refine z_iconst 1 O dX2_doRegrets_91 (by decide +kernel) ?_
          refine z_iadd O dX2_doRegrets_92 ?_
          refine z_putf kP_X2_55 O (fun h => nomatch h) dX2_doRegrets_93 y0'64.1 rfl rfl (Nat.le_of_ble_eq_true rfl) (fun H68 hO69 hC70 => ?_)
          have hf71 := y0'64.ch hC70
          have ho72 : zO (zEn x) H68 r48 t (a t) 2 [.ref (a (t + 2)), .ref (a (t + 4)), .ref (a (t + 1)), m1, m2, m3, .int (iI ((K 35) + 1))] := ⟨hO69, y0'64.2⟩
          have hR73 := hR63.fr hf71 (by first | exact (fun h => h) | exact zT1 (by omega) | (show ¬ (_ ∨ _); omega) | (show ¬ (_ ∧ _); omega)) (by first | exact (fun h => h) | exact zT1 (by omega) | (show ¬ (_ ∨ _); omega) | (show ¬ (_ ∧ _); omega))
          have y2'74 := y2'65.fr hf71 (by first | exact (fun h => h) | exact zT1 (by omega) | (show ¬ (_ ∨ _); omega) | (show ¬ (_ ∧ _); omega))
          have hr75 := hr66.fr hf71 (by first | exact (fun h => h) | exact zT1 (by omega) | (show ¬ (_ ∨ _); omega) | (show ¬ (_ ∧ _); omega)) (by first | exact (fun h => h) | exact zT1 (by omega) | (show ¬ (_ ∨ _); omega) | (show ¬ (_ ∧ _); omega))
          have y4'76 := y4'67.fr hf71 (by first | exact (fun h => h) | exact zT1 (by omega) | (show ¬ (_ ∨ _); omega) | (show ¬ (_ ∧ _); omega)) (by first | exact (fun h => h) | exact zT1 (by omega) | (show ¬ (_ ∨ _); omega) | (show ¬ (_ ∧ _); omega))
          refine z_iinc 3 [(3, .int (iI (k + (-1)))), (6, .int (iI (K ((G (at_ w (710 + k))) / 100)))), (5, .int (iI ((G (at_ w (710 + k))) / 100))), (4, .int (iI (G (at_ w (710 + k))))), (0, .ref (a t)), (1, .ref (a (t + 6 + 16 * w.toNat))), (2, .int (iI mk))] O dX2_doRegrets_96 (by decide) rfl rfl ?_
          refine z_goto 10 O dX2_doRegrets_99 (by decide) ?_
          refine z_locs [0, 4, 5, 6] rfl ?_
          obtain rfl : o = false := by rw [hoo]; exact decide_eq_false (by omega)
          obtain ⟨hR9, h29⟩ := sRI.s (show sRI K w false ((d : Int) + 1) from hRI) (by omega)
          have a1 := at_e w 1
          have a2 := at_e w 2
          have hV9 : zRow (zEn x) H68 r48 (t + 2) (a (t + 2)) 16 16 (sRs K w false) := hR73.to (fun c c0 c1 => by rw [sRs_f hiw he (by omega) heq]; show zU _ _ _ _ = _; unfold zU; by_cases z : c = G (at_ w (710 + k)) / 100; (· rw [if_pos z]; (repeat first | rw [if_pos (by omega)] | rw [if_neg (by omega)])); (· rw [if_neg z]; (repeat first | rw [if_pos (by omega)] | rw [if_neg (by omega)])))
          have hS9 : zO (zEn x) H68 r48 t (a t) 2 [.ref (a (t + 2)), .ref (a (t + 4)), .ref (a (t + 1)), m1, m2, m3, .int (iI (sRs K w false 35))] := by rw [show sRs K w false 35 = K 35 + 1 from (by rw [sRs_f hiw he (by omega) heq]; (repeat first | rw [if_pos (by omega)] | rw [if_neg (by omega)]))]; exact ho72
          have hn9 : sRs K w false (at_ w 1) = K (at_ w 1) + 1 := by rw [sRs_f hiw he (by omega) heq]; (repeat first | rw [if_pos (by omega)] | rw [if_neg (by omega)])
          have hL9 : zRow (zEn x) H68 r48 (t + 6 + 16 * w.toNat + 2) (a (t + 6 + 16 * w.toNat + 2)) 1024 (sRs K w false (at_ w 1)) (fun k => sRs K w false (at_ w (70 + k))) := by rw [hn9]; exact hr75.to (fun c c0 c1 => by have q := at_e w (70 + c); rw [sRs_f hiw he (by omega) heq]; show zU _ _ _ _ = _; unfold zU; by_cases z : c = K (at_ w 1); (· rw [if_pos z]; (repeat first | rw [if_pos (by omega)] | rw [if_neg (by omega)])); (· rw [if_neg z]; (repeat first | rw [if_pos (by omega)] | rw [if_neg (by omega)])))
          have hr9 : r48.2 (t + 6 + 16 * w.toNat + 2 + 1) = zPc (r'.2 (t + 6 + 16 * w.toNat + 2 + 1)) 1024 (K (at_ w 1)) := by rw [hc51]; exact if_pos rfl
          have hc9 : r48.2 = (zCap r (t + 6 + 16 * w.toNat + 2 + 1) (r48.2 (t + 6 + 16 * w.toNat + 2 + 1))).2 := by rw [hr9, hc51]; funext p; show (if p = (t + 6 + 16 * w.toNat + 2 + 1) then _ else r'.2 p) = (if p = (t + 6 + 16 * w.toNat + 2 + 1) then _ else r.2 p); by_cases z : p = (t + 6 + 16 * w.toNat + 2 + 1); (· rw [if_pos z, if_pos z]); (· rw [if_neg z, if_neg z, hcp]; exact if_neg z)
          refine z_widen (k := r48.2 (t + 6 + 16 * w.toNat + 2 + 1) - r.2 (t + 6 + 16 * w.toNat + 2 + 1)) (n := 20 * (r48.2 (t + 6 + 16 * w.toNat + 2 + 1) - r.2 (t + 6 + 16 * w.toNat + 2 + 1))) (by omega) (by omega) ?_
          exact ih (k + (-1)) (sRs K w false) H68 r48 (by omega) (by omega) hRR hR9 (by omega) (fun j j0 j1 => by have q := at_e w (710 + j); rw [show sRs K w false (at_ w (710 + j)) = K (at_ w (710 + j)) from (by rw [sRs_f hiw he (by omega) heq]; (repeat first | rw [if_pos (by omega)] | rw [if_neg (by omega)]))]; exact hKG j j0 j1) (((((((hf'.up (fun s h => by first | exact h.elim | omega | (simp at h ⊢; omega)))).tr (hf49.up (fun s h => by first | exact h.elim | omega | (simp at h ⊢; omega))))).tr (hf61.up (fun s h => by first | exact h.elim | omega | (simp at h ⊢; omega))))).tr (hf71.up (fun s h => by first | exact h.elim | omega | (simp at h ⊢; omega)))) hc9 (by omega) hS9 hV9 y2'74 hL9 y4'76
  refine z_widen (k := r.2 (t + 6 + 16 * w.toNat + 2 + 1) - r.2 (t + 6 + 16 * w.toNat + 2 + 1)) (n := 20 * (r.2 (t + 6 + 16 * w.toNat + 2 + 1) - r.2 (t + 6 + 16 * w.toNat + 2 + 1))) (by omega) (by omega) ?_
  exact loop (G (at_ w 2) - mk).toNat (G (at_ w 2) - 1) G H r (by omega) (by omega) rfl hsr (by omega) (fun _ _ _ => rfl) zFr.rf zCap_s.symm (Nat.le_refl _) sO sV hO hLg hRg

