/-! the methods keep what always holds of a row: the others -/
section INV2
variable {G G' : Int → Int} {N w : Int}
theorem sWk.u {i a b : Int} (h : sWk G w i a b) (e : ∀ k : Int, 0 ≤ k → k ≤ 12 → k ≠ 3 → k ≠ 4 → G' (wA w i k) = G (wA w i k)) (e3 : 0 ≤ G' (wA w i 3) ∧ G' (wA w i 3) ≤ 3) (e4 : 0 ≤ G' (wA w i 4) ∧ G' (wA w i 4) ≤ 1) : sWk G' w i a b := by
  obtain ⟨h0, h1, h2, h3, h4, h5, h6⟩ := h
  refine ⟨by rw [e 0 (by omega) (by omega) (by omega) (by omega)]; exact h0, by rw [e 1 (by omega) (by omega) (by omega) (by omega)]; exact h1, by rw [e 2 (by omega) (by omega) (by omega) (by omega)]; exact h2, e3, e4, fun j a b => ?_, fun j j' a b c => ?_⟩
  · rw [e 2 (by omega) (by omega) (by omega) (by omega)] at b
    rw [e 0 (by omega) (by omega) (by omega) (by omega), e 1 (by omega) (by omega) (by omega) (by omega), e (5 + j) (by omega) (by omega) (by omega) (by omega), e (9 + j) (by omega) (by omega) (by omega) (by omega)]
    exact h5 j a b
  · rw [e 2 (by omega) (by omega) (by omega) (by omega)] at c
    rw [e (5 + j) (by omega) (by omega) (by omega) (by omega), e (9 + j) (by omega) (by omega) (by omega) (by omega), e (5 + j') (by omega) (by omega) (by omega) (by omega), e (9 + j') (by omega) (by omega) (by omega) (by omega)]
    exact h6 j j' a b c
theorem sWw.top {N' : Int} (h : sWw G w N) (hm : 0 ≤ G' (at_ w 0) ∧ G' (at_ w 0) ≤ G (at_ w 0)) (hl : 0 ≤ G' (at_ w 1) ∧ 0 ≤ G' (at_ w 2) ∧ G' (at_ w 1) + G' (at_ w 2) ≤ N')
    (he : ∀ k : Int, 0 ≤ k → k < G' (at_ w 1) → 0 ≤ G' (at_ w (70 + k)) ∧ G' (at_ w (70 + k)) < 1600) (hr : ∀ k : Int, 0 ≤ k → k < G' (at_ w 2) → 0 ≤ G' (at_ w (710 + k)) ∧ G' (at_ w (710 + k)) < 1600)
    (eW : ∀ i k : Int, 0 ≤ i → 0 ≤ k → k ≤ 12 → (i + 1 < G' (at_ w 0) ∨ (i + 1 = G' (at_ w 0) ∧ k ≤ 1)) → G' (wA w i k) = G (wA w i k)) (ht : 0 < G' (at_ w 0) → sWk G' w (G' (at_ w 0) - 1) (G' (at_ w 1)) (G' (at_ w 2))) : sWw G' w N' := by
  obtain ⟨m, l, h3, h4, h5⟩ := h
  refine ⟨by omega, hl, he, hr, fun i a b => ?_⟩
  by_cases q : i + 1 < G' (at_ w 0)
  · have k := (h5 i a (by omega)).c (G' := G') (fun k a' b' => eW i k a a' b' (Or.inl q))
    unfold sEL sER at k ⊢
    rw [if_pos (by omega), if_pos (by omega)] at k
    rw [if_pos q, if_pos q, eW (i + 1) 0 (by omega) (by omega) (by omega) (by omega), eW (i + 1) 1 (by omega) (by omega) (by omega) (by omega)]
    exact k
  · unfold sEL sER
    rw [if_neg q, if_neg q]
    have := ht (by omega)
    rw [show G' (at_ w 0) - 1 = i by omega] at this
    exact this
theorem sW.point (h : sW G N) (hw : 0 ≤ w ∧ w ≤ 2) (hm0 : 0 < G (at_ w 0)) (hp : G (sIn G w 2) < 4) : sW (sPoint G w) N := by
  have m := h.m hw
  have l := h.l hw
  have h1 := h.1 w hw
  have hi := h.in hw hm0
  have hk := h.k hw (i := G (at_ w 0) - 1) (by omega) (by omega)
  have n0 := at_e w 0
  have n1 := at_e w 1
  have n2 := at_e w 2
  have n9 := at_e w 1350
  have s : ∀ k, sIn G w k = 36 + 1350 * w + (5 + 13 * (G (at_ w 0) - 1) + k) := fun k => rfl
  have s2 := s 2
  have s5 := s (5 + G (sIn G w 2))
  have s9 := s (9 + G (sIn G w 2))
  have g : ∀ j : Int, j ≠ sIn G w (5 + G (sIn G w 2)) → j ≠ sIn G w (9 + G (sIn G w 2)) → j ≠ sIn G w 2 → sPoint G w j = G j := fun j a b c => by unfold sPoint; rw [zU_n c, zU_n b, zU_n a]
  have g2 : sPoint G w (sIn G w 2) = G (sIn G w 2) + 1 := by unfold sPoint; exact zU_s
  have g9 : sPoint G w (sIn G w (9 + G (sIn G w 2))) = G (at_ w 2) := by unfold sPoint; rw [zU_n (by omega), zU_s]
  have g5 : sPoint G w (sIn G w (5 + G (sIn G w 2))) = G (at_ w 1) := by unfold sPoint; rw [zU_n (by omega), zU_n (by omega), zU_s]
  have e0 : sPoint G w (at_ w 0) = G (at_ w 0) := g _ (by omega) (by omega) (by omega)
  have e1 : sPoint G w (at_ w 1) = G (at_ w 1) := g _ (by omega) (by omega) (by omega)
  have e2 : sPoint G w (at_ w 2) = G (at_ w 2) := g _ (by omega) (by omega) (by omega)
  refine h.own hw (Int.le_refl _) h.2.2.2.2 (fun j a b => g j (by omega) (by omega) (by omega)) (fun c a b => by rw [g c (by omega) (by omega) (by omega)]; exact h.2.1 c a b) (fun c a b => by rw [g (16 + c) (by omega) (by omega) (by omega)]; exact h.2.2.1 c a b) (by rw [g 32 (by omega) (by omega) (by omega)]; exact h.2.2.2.1) ?_
  refine h1.top (by omega) (by omega) (fun k a b => ?_) (fun k a b => ?_) (fun i k a b c d => ?_) (fun _ => ?_)
  · have p := at_e w (70 + k)
    rw [e1] at b; rw [g _ (by omega) (by omega) (by omega)]; exact h1.2.2.1 k a b
  · have p := at_e w (710 + k)
    rw [e2] at b; rw [g _ (by omega) (by omega) (by omega)]; exact h1.2.2.2.1 k a b
  · have p := wA_e w i k
    exact g _ (by omega) (by omega) (by omega)
  · rw [e0, e1, e2]
    obtain ⟨k0, k1, k2, k3, k4, k5⟩ := hi
    have t : ∀ k : Int, 0 ≤ k → k ≤ 12 → k ≠ 2 → k ≠ 5 + G (sIn G w 2) → k ≠ 9 + G (sIn G w 2) → sPoint G w (sIn G w k) = G (sIn G w k) := fun k a b c d e => by have := s k; exact g _ (by omega) (by omega) (by omega)
    change (0 ≤ sPoint G w (sIn G w 0) ∧ sPoint G w (sIn G w 0) ≤ _) ∧ (0 ≤ sPoint G w (sIn G w 1) ∧ sPoint G w (sIn G w 1) ≤ _) ∧ (0 ≤ sPoint G w (sIn G w 2) ∧ sPoint G w (sIn G w 2) ≤ 4) ∧ (0 ≤ sPoint G w (sIn G w 3) ∧ sPoint G w (sIn G w 3) ≤ 3) ∧ (0 ≤ sPoint G w (sIn G w 4) ∧ sPoint G w (sIn G w 4) ≤ 1) ∧ (∀ j : Int, 0 ≤ j → j < sPoint G w (sIn G w 2) → (sPoint G w (sIn G w 0) ≤ sPoint G w (sIn G w (5 + j)) ∧ sPoint G w (sIn G w (5 + j)) ≤ _) ∧ sPoint G w (sIn G w 1) ≤ sPoint G w (sIn G w (9 + j)) ∧ sPoint G w (sIn G w (9 + j)) ≤ _) ∧ ∀ j j' : Int, 0 ≤ j → j ≤ j' → j' < sPoint G w (sIn G w 2) → sPoint G w (sIn G w (5 + j)) ≤ sPoint G w (sIn G w (5 + j')) ∧ sPoint G w (sIn G w (9 + j)) ≤ sPoint G w (sIn G w (9 + j'))
    rw [t 0 (by omega) (by omega) (by omega) (by omega) (by omega), t 1 (by omega) (by omega) (by omega) (by omega) (by omega), t 3 (by omega) (by omega) (by omega) (by omega) (by omega), t 4 (by omega) (by omega) (by omega) (by omega) (by omega), g2]
    refine ⟨k0, k1, by omega, k3, k4, fun j a b => ?_, fun j j' a b c => ?_⟩
    · by_cases q : j = G (sIn G w 2)
      · rw [q, g5, g9]; omega
      · rw [t (5 + j) (by omega) (by omega) (by omega) (by omega) (by omega), t (9 + j) (by omega) (by omega) (by omega) (by omega) (by omega)]; exact k5 j a (by omega)
    · by_cases q : j' = G (sIn G w 2)
      · by_cases q1 : j = G (sIn G w 2)
        · rw [q, q1]; omega
        · rw [q, g5, g9, t (5 + j) (by omega) (by omega) (by omega) (by omega) (by omega), t (9 + j) (by omega) (by omega) (by omega) (by omega) (by omega)]
          have := k5 j a (by omega); omega
      · rw [t (5 + j) (by omega) (by omega) (by omega) (by omega) (by omega), t (9 + j) (by omega) (by omega) (by omega) (by omega) (by omega), t (5 + j') (by omega) (by omega) (by omega) (by omega) (by omega), t (9 + j') (by omega) (by omega) (by omega) (by omega) (by omega)]
        exact hk.2.2.2.2.2.2 j j' a b (show j' < G (sIn G w 2) by omega)
theorem sW.back {i : Int} (h : sW G N) (hw : 0 ≤ w ∧ w ≤ 2) (hm0 : 0 < G (at_ w 0)) (hj : 0 ≤ i ∧ i < G (sIn G w 2)) : sW (sBack G w i) N := by
  have m := h.m hw
  have l := h.l hw
  have h1 := h.1 w hw
  have hi := h.in hw hm0
  have hk := h.k hw (i := G (at_ w 0) - 1) (by omega) (by omega)
  have n0 := at_e w 0
  have n1 := at_e w 1
  have n2 := at_e w 2
  have n9 := at_e w 1350
  have s : ∀ k, sIn G w k = 36 + 1350 * w + (5 + 13 * (G (at_ w 0) - 1) + k) := fun k => rfl
  have s2 := s 2
  have hjj := hi.2.2.2.2.2 i hj.1 hj.2
  have he : eOK G w := fun k a b => h.e hw a b
  have hn : ((G (at_ w 1) - G (sIn G w (5 + i))).toNat : Int) ≤ G (at_ w 1) := by omega
  obtain ⟨u1, u2⟩ := sUn_n (G (at_ w 1) - G (sIn G w (5 + i))).toNat hw.1 he hn
  have u3 := sUn_v (G (at_ w 1) - G (sIn G w (5 + i))).toNat hw.1 he hn h.2.1
  have f : ∀ j : Int, j ≠ sIn G w 2 → j ≠ at_ w 2 → sBack G w i j = sUn (G (at_ w 1) - G (sIn G w (5 + i))).toNat G w j := fun j a b => by unfold sBack; rw [zU_n a, zU_n b]
  have g : ∀ j : Int, 16 ≤ j → j ≠ sIn G w 2 → j ≠ at_ w 2 → j ≠ at_ w 1 → sBack G w i j = G j := fun j a b c d => by rw [f j b c, u1 j a d]
  have g2 : sBack G w i (sIn G w 2) = i + 1 := by unfold sBack; exact zU_s
  have e0 : sBack G w i (at_ w 0) = G (at_ w 0) := g _ (by omega) (by omega) (by omega) (by omega)
  have e1 : sBack G w i (at_ w 1) = G (sIn G w (5 + i)) := by rw [f _ (by omega) (by omega), u2]; omega
  have e2 : sBack G w i (at_ w 2) = G (sIn G w (9 + i)) := by unfold sBack; rw [zU_n (by omega), zU_s]
  refine h.own hw (Int.le_refl _) h.2.2.2.2 (fun j a b => g j (by omega) (by omega) (by omega) (by omega)) (fun c a b => by rw [f c (by omega) (by omega)]; exact u3 c a b) (fun c a b => by rw [g (16 + c) (by omega) (by omega) (by omega) (by omega)]; exact h.2.2.1 c a b) (by rw [g 32 (by omega) (by omega) (by omega) (by omega)]; exact h.2.2.2.1) ?_
  refine h1.top (by omega) (by omega) (fun k a b => ?_) (fun k a b => ?_) (fun i' k a b c d => ?_) (fun _ => ?_)
  · have p := at_e w (70 + k)
    rw [e1] at b; rw [g _ (by omega) (by omega) (by omega) (by omega)]; exact h1.2.2.1 k a (by omega)
  · have p := at_e w (710 + k)
    rw [e2] at b; rw [g _ (by omega) (by omega) (by omega) (by omega)]; exact h1.2.2.2.1 k a (by omega)
  · have p := wA_e w i' k
    exact g _ (by omega) (by omega) (by omega) (by omega)
  · rw [e0, e1, e2]
    obtain ⟨k0, k1, k2, k3, k4, k5⟩ := hi
    have t : ∀ k : Int, 0 ≤ k → k ≤ 12 → k ≠ 2 → sBack G w i (sIn G w k) = G (sIn G w k) := fun k a b c => by have := s k; exact g _ (by omega) (by omega) (by omega) (by omega)
    change (0 ≤ sBack G w i (sIn G w 0) ∧ sBack G w i (sIn G w 0) ≤ _) ∧ (0 ≤ sBack G w i (sIn G w 1) ∧ sBack G w i (sIn G w 1) ≤ _) ∧ (0 ≤ sBack G w i (sIn G w 2) ∧ sBack G w i (sIn G w 2) ≤ 4) ∧ (0 ≤ sBack G w i (sIn G w 3) ∧ sBack G w i (sIn G w 3) ≤ 3) ∧ (0 ≤ sBack G w i (sIn G w 4) ∧ sBack G w i (sIn G w 4) ≤ 1) ∧ (∀ j : Int, 0 ≤ j → j < sBack G w i (sIn G w 2) → (sBack G w i (sIn G w 0) ≤ sBack G w i (sIn G w (5 + j)) ∧ sBack G w i (sIn G w (5 + j)) ≤ _) ∧ sBack G w i (sIn G w 1) ≤ sBack G w i (sIn G w (9 + j)) ∧ sBack G w i (sIn G w (9 + j)) ≤ _) ∧ ∀ j j' : Int, 0 ≤ j → j ≤ j' → j' < sBack G w i (sIn G w 2) → sBack G w i (sIn G w (5 + j)) ≤ sBack G w i (sIn G w (5 + j')) ∧ sBack G w i (sIn G w (9 + j)) ≤ sBack G w i (sIn G w (9 + j'))
    rw [t 0 (by omega) (by omega) (by omega), t 1 (by omega) (by omega) (by omega), t 3 (by omega) (by omega) (by omega), t 4 (by omega) (by omega) (by omega), g2]
    refine ⟨by omega, by omega, by omega, k3, k4, fun j a b => ?_, fun j j' a b c => ?_⟩
    · rw [t (5 + j) (by omega) (by omega) (by omega), t (9 + j) (by omega) (by omega) (by omega)]
      have a1 := k5 j a (by omega)
      have a2 := hk.2.2.2.2.2.2 j i a (by omega) (show i < G (sIn G w 2) by omega)
      change G (sIn G w (5 + j)) ≤ G (sIn G w (5 + i)) ∧ G (sIn G w (9 + j)) ≤ G (sIn G w (9 + i)) at a2
      omega
    · rw [t (5 + j) (by omega) (by omega) (by omega), t (9 + j) (by omega) (by omega) (by omega), t (5 + j') (by omega) (by omega) (by omega), t (9 + j') (by omega) (by omega) (by omega)]
      exact hk.2.2.2.2.2.2 j j' a b (show j' < G (sIn G w 2) by omega)
/-- all works are over -/
theorem sEnd_1 (hw : 0 ≤ w) : sEnd G w (at_ w 1) = 0 := by
  have n1 := at_e w 1
  have n2 := at_e w 2
  unfold sEnd; rw [zLk_n (by omega), zU_n (by omega), zU_s]
theorem sEnd_2 (hw : 0 ≤ w) : sEnd G w (at_ w 2) = 0 := by
  have n2 := at_e w 2
  unfold sEnd; rw [zLk_n (by omega), zU_s]
theorem sEnd_k (hw : 0 ≤ w) (hk : kOK G) : kOK (sEnd G w) := fun c a b => by
  have n1 := at_e w 1
  have n2 := at_e w 2
  exact zLk_R hk a b (by rw [zU_n (by omega), zU_n (by omega)])
theorem sW.over {K : Int → Int} {k : Int} (h : sW G N) (hw : 0 ≤ w ∧ w ≤ 2) (hk : 3 ≤ k ∧ k ≤ 4) {v : Int} (h0 : K (at_ w 0) = 0) (hv : vOK K) (hl : kOK K) (e : ∀ j : Int, 36 ≤ j → ¬ (at_ w 0 ≤ j ∧ j < at_ w 1350) → K j = G j) (e32 : K 32 = G 32) : sW (zU (sEnd K w) (at_ w k) v) N := by
  have l := h.l hw
  have n0 := at_e w 0
  have n1 := at_e w 1
  have n2 := at_e w 2
  have nk := at_e w k
  have n9 := at_e w 1350
  have g : ∀ j : Int, j < 16 ∨ 32 ≤ j → j ≠ at_ w 1 → j ≠ at_ w 2 → j ≠ at_ w k → zU (sEnd K w) (at_ w k) v j = K j := fun j a b c d => by rw [zU_n d, sEnd_n a b c]
  have e1 : zU (sEnd K w) (at_ w k) v (at_ w 1) = 0 := by rw [zU_n (by omega), sEnd_1 hw.1]
  have e2 : zU (sEnd K w) (at_ w k) v (at_ w 2) = 0 := by rw [zU_n (by omega), sEnd_2 hw.1]
  have e0 : zU (sEnd K w) (at_ w k) v (at_ w 0) = 0 := by rw [g _ (by omega) (by omega) (by omega) (by omega), h0]
  refine h.own hw (Int.le_refl _) h.2.2.2.2 (fun j a b => by rw [g j (by omega) (by omega) (by omega) (by omega)]; exact e j a b) (fun c a b => by rw [g c (by omega) (by omega) (by omega) (by omega)]; exact hv c a b) (fun c a b => by rw [zU_n (by omega)]; exact sEnd_k hw.1 hl c a b) (by rw [g 32 (by omega) (by omega) (by omega) (by omega), e32]; exact h.2.2.2.1) ?_
  exact (h.1 w hw).top (by have := h.m hw; omega) (by omega) (fun k a b => by omega) (fun k a b => by omega) (fun i k a b c d => by omega) (fun a => by omega)
theorem sW.done (h : sW G N) (hw : 0 ≤ w ∧ w ≤ 2) (hm0 : 0 < G (at_ w 0)) : sW (sDone G w) N := by
  have m := h.m hw
  have l := h.l hw
  have h1 := h.1 w hw
  have hi := h.in hw hm0
  have n0 := at_e w 0
  have n1 := at_e w 1
  have n2 := at_e w 2
  have n9 := at_e w 1350
  unfold sDone
  split
  · exact h.over hw (by omega) (by rw [zU_s]; omega) (fun c a b => by rw [zU_n (by omega)]; exact h.2.1 c a b) (fun c a b => by rw [zU_n (by omega)]; exact h.2.2.1 c a b) (fun j a b => zU_n (by omega)) (zU_n (by omega))
  · have g : ∀ j : Int, j ≠ at_ w 0 → zU G (at_ w 0) (G (at_ w 0) - 1) j = G j := fun j a => zU_n a
    have e0 : zU G (at_ w 0) (G (at_ w 0) - 1) (at_ w 0) = G (at_ w 0) - 1 := zU_s
    have e1 := g (at_ w 1) (by omega)
    have e2 := g (at_ w 2) (by omega)
    refine h.own hw (Int.le_refl _) h.2.2.2.2 (fun j a b => g j (by omega)) (fun c a b => by rw [g c (by omega)]; exact h.2.1 c a b) (fun c a b => by rw [g (16 + c) (by omega)]; exact h.2.2.1 c a b) (by rw [g 32 (by omega)]; exact h.2.2.2.1) ?_
    refine h1.top (by omega) (by omega) (fun k a b => ?_) (fun k a b => ?_) (fun i' k a b c d => ?_) (fun _ => ?_)
    · have p := at_e w (70 + k)
      rw [e1] at b; rw [g _ (by omega)]; exact h1.2.2.1 k a b
    · have p := at_e w (710 + k)
      rw [e2] at b; rw [g _ (by omega)]; exact h1.2.2.2.1 k a b
    · have p := wA_e w i' k
      exact g _ (by omega)
    · rw [e0, e1, e2]
      have hk := h.k hw (i := G (at_ w 0) - 1 - 1) (by omega) (by omega)
      unfold sEL sER at hk
      rw [if_pos (by omega), if_pos (by omega), show G (at_ w 0) - 1 - 1 + 1 = G (at_ w 0) - 1 by omega] at hk
      have hi0 : G (wA w (G (at_ w 0) - 1) 0) ≤ G (at_ w 1) := hi.1.2
      have hi1 : G (wA w (G (at_ w 0) - 1) 1) ≤ G (at_ w 2) := hi.2.1.2
      exact (hk.m hi0 hi1).c (fun k a b => by have := wA_e w (G (at_ w 0) - 1 - 1) k; exact g _ (by omega))
theorem sW.fail (h : sW G N) (hw : 0 ≤ w ∧ w ≤ 2) (hm0 : 0 < G (at_ w 0)) : sW (sFail G w) N := by
  have m := h.m hw
  have l := h.l hw
  have h1 := h.1 w hw
  have hi := h.in hw hm0
  have n0 := at_e w 0
  have n1 := at_e w 1
  have n2 := at_e w 2
  have n7 := at_e w 70
  have n8 := at_e w 709
  have n9 := at_e w 1350
  obtain ⟨-, hI, g0, g2, g1, g⟩ := sF_I h hw hm0
  obtain ⟨-, -, -, hr, he, hv⟩ := hI
  have hk : kOK (sF1 G w) := fun c a b => by rw [g _ (by omega) (by omega) (by omega) (by omega) (by omega) (by omega)]; exact h.2.2.1 c a b
  have g32 : sF1 G w 32 = G 32 := g _ (by omega) (by omega) (by omega) (by omega) (by omega) (by omega)
  unfold sFail
  split
  · next q =>
    exact h.over hw (by omega) (by rw [g0]; omega) hv hk (fun j a b => g j (by omega) (by omega) (by omega) (by omega) (by omega) (by omega)) g32
  · next q =>
    rw [if_neg q] at g1
    have e5 : ∀ k, sIn (sF1 G w) w k = wA w (G (at_ w 0) - 1 - 1) k := fun k => by unfold sIn; rw [g0]
    have gW : ∀ i k : Int, 0 ≤ i → i < 5 → 0 ≤ k → k ≤ 12 → sF1 G w (wA w i k) = G (wA w i k) := fun i k a b c d => by have := wA_e w i k; exact g _ (by omega) (by omega) (by omega) (by omega) (by omega) (by omega)
    have hkk := h.k hw (i := G (at_ w 0) - 1 - 1) (by omega) (by omega)
    unfold sEL sER at hkk
    rw [if_pos (by omega), if_pos (by omega), show G (at_ w 0) - 1 - 1 + 1 = G (at_ w 0) - 1 by omega] at hkk
    have hi0 : G (wA w (G (at_ w 0) - 1) 0) ≤ sF1 G w (at_ w 1) := by have e : G (wA w (G (at_ w 0) - 1) 0) = G (sIn G w 0) := rfl; omega
    have hi1 : G (wA w (G (at_ w 0) - 1) 1) ≤ sF1 G w (at_ w 2) := by have e : G (wA w (G (at_ w 0) - 1) 1) = G (sIn G w 1) := rfl; omega
    have hk1 := hkk.m hi0 hi1
    have p3 := wA_e w (G (at_ w 0) - 1 - 1) 3
    have p4 := wA_e w (G (at_ w 0) - 1 - 1) 4
    have gen : ∀ K : Int → Int, (∀ j : Int, j ≠ 33 → j ≠ wA w (G (at_ w 0) - 1 - 1) 3 → j ≠ wA w (G (at_ w 0) - 1 - 1) 4 → K j = sF1 G w j) → (0 ≤ K (wA w (G (at_ w 0) - 1 - 1) 3) ∧ K (wA w (G (at_ w 0) - 1 - 1) 3) ≤ 3) → (0 ≤ K (wA w (G (at_ w 0) - 1 - 1) 4) ∧ K (wA w (G (at_ w 0) - 1 - 1) 4) ≤ 1) → sW K N := by
      intro K f h3 h4
      have e0 := f (at_ w 0) (by omega) (by omega) (by omega)
      have e1 := f (at_ w 1) (by omega) (by omega) (by omega)
      have e2 := f (at_ w 2) (by omega) (by omega) (by omega)
      refine h.own hw (Int.le_refl _) h.2.2.2.2 (fun j a b => (f j (by omega) (by omega) (by omega)).trans (g j (by omega) (by omega) (by omega) (by omega) (by omega) (by omega))) (fun c a b => by rw [f c (by omega) (by omega) (by omega)]; exact hv c a b) (fun c a b => by rw [f (16 + c) (by omega) (by omega) (by omega)]; exact hk c a b) (by rw [f 32 (by omega) (by omega) (by omega), g32]; exact h.2.2.2.1) ?_
      refine h1.top (by omega) (by omega) (fun k a b => ?_) (fun k a b => ?_) (fun i' k a b c d => ?_) (fun _ => ?_)
      · have p := at_e w (70 + k)
        rw [e1] at b; rw [f _ (by omega) (by omega) (by omega)]; exact he k a b
      · have p := at_e w (710 + k)
        rw [e2] at b; rw [f _ (by omega) (by omega) (by omega)]; exact hr k a b
      · have p := wA_e w i' k
        rw [f _ (by omega) (by omega) (by omega)]; exact gW i' k a (by omega) b c
      · rw [e0, e1, e2, g0]
        exact hk1.u (fun k a b c d => by have := wA_e w (G (at_ w 0) - 1 - 1) k; rw [f _ (by omega) (by omega) (by omega)]; exact gW _ k (by omega) (by omega) a b) h3 h4
    have o3 := hkk.2.2.2.1
    have o4 := hkk.2.2.2.2.1
    rw [← gW _ 3 (by omega) (by omega) (by omega) (by omega)] at o3
    rw [← gW _ 4 (by omega) (by omega) (by omega) (by omega)] at o4
    have m3 := h.2.2.2.1
    rw [e5 3, e5 4]
    split
    · exact gen _ (fun j a b c => by rw [zU_n a, zU_n b]) (by rw [zU_n (by omega), zU_s]; omega) (by rw [zU_n (by omega), zU_n (by omega)]; exact o4)
    · exact gen _ (fun j a b c => zU_n c) (by rw [zU_n (by omega)]; exact o3) (by rw [zU_s]; omega)
end INV2
