/-! the methods keep what always holds of a row -/
theorem wA_e (w i k : Int) : wA w i k = 36 + 1350 * w + (5 + 13 * i + k) := rfl
theorem at_e (w k : Int) : at_ w k = 36 + 1350 * w + k := rfl
section INV
variable {G G' : Int → Int} {N w : Int}
theorem sWk.c {i a b : Int} (h : sWk G w i a b) (e : ∀ k : Int, 0 ≤ k → k ≤ 12 → G' (wA w i k) = G (wA w i k)) : sWk G' w i a b := by
  obtain ⟨h0, h1, h2, h3, h4, h5, h6⟩ := h
  refine ⟨by rw [e 0 (by omega) (by omega)]; exact h0, by rw [e 1 (by omega) (by omega)]; exact h1, by rw [e 2 (by omega) (by omega)]; exact h2, by rw [e 3 (by omega) (by omega)]; exact h3, by rw [e 4 (by omega) (by omega)]; exact h4, fun j a b => ?_, fun j j' a b c => ?_⟩
  · rw [e 2 (by omega) (by omega)] at b
    rw [e 0 (by omega) (by omega), e 1 (by omega) (by omega), e (5 + j) (by omega) (by omega), e (9 + j) (by omega) (by omega)]
    exact h5 j a b
  · rw [e 2 (by omega) (by omega)] at c
    rw [e (5 + j) (by omega) (by omega), e (9 + j) (by omega) (by omega), e (5 + j') (by omega) (by omega), e (9 + j') (by omega) (by omega)]
    exact h6 j j' a b c
theorem sWk.m {i a b a' b' : Int} (h : sWk G w i a b) (ha : a ≤ a') (hb : b ≤ b') : sWk G w i a' b' := by
  obtain ⟨h0, h1, h2, h3, h4, h5, h6⟩ := h
  exact ⟨⟨h0.1, by omega⟩, ⟨h1.1, by omega⟩, h2, h3, h4, fun j a b => by have := h5 j a b; omega, h6⟩
theorem sWw.c (h : sWw G w N) (hN : N ≤ 640) (e : ∀ j : Int, at_ w 0 ≤ j → j < at_ w 1350 → G' j = G j) : sWw G' w N := by
  obtain ⟨h0, h1, h2, h3, h4⟩ := h
  have E : ∀ k : Int, 0 ≤ k → k < 1350 → G' (at_ w k) = G (at_ w k) := fun k a b => e _ (by unfold at_; omega) (by unfold at_; omega)
  have W : ∀ i k : Int, 0 ≤ i → i < 5 → 0 ≤ k → k ≤ 12 → G' (wA w i k) = G (wA w i k) := fun i k a b c d => E _ (by omega) (by omega)
  have e0 := E 0 (by omega) (by omega)
  have e1 := E 1 (by omega) (by omega)
  have e2 := E 2 (by omega) (by omega)
  refine ⟨by rw [e0]; exact h0, by rw [e1, e2]; exact h1, fun k a b => ?_, fun k a b => ?_, fun i a b => ?_⟩
  · rw [e1] at b; rw [E (70 + k) (by omega) (by omega)]; exact h2 k a b
  · rw [e2] at b; rw [E (710 + k) (by omega) (by omega)]; exact h3 k a b
  · rw [e0] at b
    have k := (h4 i a b).c (G' := G') (fun k a' b' => W i k a (by omega) a' b')
    unfold sEL sER at k ⊢
    rw [e0, e1, e2]
    by_cases q : i + 1 < G (at_ w 0)
    · rw [if_pos q, if_pos q] at k ⊢
      rw [W (i + 1) 0 (by omega) (by omega) (by omega) (by omega), W (i + 1) 1 (by omega) (by omega) (by omega) (by omega)]
      exact k
    · rw [if_neg q, if_neg q] at k ⊢; exact k
theorem sWw.up {N' : Int} (h : sWw G w N) (hN : N ≤ N') : sWw G w N' := ⟨h.1, ⟨h.2.1.1, h.2.1.2.1, by have := h.2.1.2.2; omega⟩, h.2.2⟩
theorem sW.up {N' : Int} (h : sW G N) (hN : N ≤ N') (h6 : N' ≤ 640) : sW G N' := ⟨fun w hw => (h.1 w hw).up hN, h.2.1, h.2.2.1, h.2.2.2.1, h6⟩
/-- one worker's part changes -/
theorem sW.own {N' : Int} (h : sW G N) (hw : 0 ≤ w ∧ w ≤ 2) (hN : N ≤ N') (h6 : N' ≤ 640) (e : ∀ j : Int, 36 ≤ j → ¬ (at_ w 0 ≤ j ∧ j < at_ w 1350) → G' j = G j) (hv : ∀ c : Int, 0 ≤ c → c < 16 → 0 ≤ G' c ∧ G' c ≤ 99) (hk : ∀ c : Int, 0 ≤ c → c < 16 → 0 ≤ G' (16 + c) ∧ G' (16 + c) ≤ 3) (hm : 0 ≤ G' 32 ∧ G' 32 ≤ 3) (ho : sWw G' w N') : sW G' N' := by
  refine ⟨fun v hv => ?_, hv, hk, hm, h6⟩
  by_cases q : v = w
  · subst q; exact ho
  · refine ((h.1 v hv).c h.2.2.2.2 (fun j a b => e j ?_ ?_)).up hN
    · unfold at_ at a; omega
    · unfold at_ at a b ⊢; omega
/-- beginning -/
theorem sW.begin (h : sW G N) (hw : 0 ≤ w ∧ w ≤ 2) (hm : G (at_ w 0) < 5) : sW (sBegin G w) N := by
  have m := h.m hw
  have l := h.l hw
  have h1 := h.1 w hw
  have n0 : at_ w 0 = 36 + 1350 * w + 0 := rfl
  have n1 : at_ w 1 = 36 + 1350 * w + 1 := rfl
  have n2 : at_ w 2 = 36 + 1350 * w + 2 := rfl
  have n9 : at_ w 1350 = 36 + 1350 * w + 1350 := rfl
  have p0 : wA w (G (at_ w 0)) 0 = 36 + 1350 * w + (5 + 13 * G (at_ w 0) + 0) := rfl
  have p1 : wA w (G (at_ w 0)) 1 = 36 + 1350 * w + (5 + 13 * G (at_ w 0) + 1) := rfl
  have g : ∀ j : Int, ¬ (wA w (G (at_ w 0)) 0 ≤ j ∧ j < wA w (G (at_ w 0)) 0 + 13) → j ≠ at_ w 0 → sBegin G w j = G j := fun j a b => by unfold sBegin; rw [zU_n b, zU_n (by omega), zU_n (by omega), zFl_n a]
  have gm : sBegin G w (at_ w 0) = G (at_ w 0) + 1 := by unfold sBegin; exact zU_s
  have g0 : sBegin G w (wA w (G (at_ w 0)) 0) = G (at_ w 1) := by unfold sBegin; rw [zU_n (by omega), zU_n (by omega), zU_s]
  have g1 : sBegin G w (wA w (G (at_ w 0)) 1) = G (at_ w 2) := by unfold sBegin; rw [zU_n (by omega), zU_s]
  have gk : ∀ k : Int, 2 ≤ k → k ≤ 12 → sBegin G w (wA w (G (at_ w 0)) k) = 0 := fun k a b => by
    have pk : wA w (G (at_ w 0)) k = 36 + 1350 * w + (5 + 13 * G (at_ w 0) + k) := rfl
    unfold sBegin; rw [zU_n (by omega), zU_n (by omega), zU_n (by omega)]; unfold zFl; rw [if_pos (by omega)]
  refine h.own hw (Int.le_refl _) h.2.2.2.2 (fun j a b => g j (by omega) (by omega)) (fun c a b => by rw [g c (by omega) (by omega)]; exact h.2.1 c a b) (fun c a b => by rw [g (16 + c) (by omega) (by omega)]; exact h.2.2.1 c a b) (by rw [g 32 (by omega) (by omega)]; exact h.2.2.2.1) ?_
  have e1 : sBegin G w (at_ w 1) = G (at_ w 1) := g _ (by omega) (by omega)
  have e2 : sBegin G w (at_ w 2) = G (at_ w 2) := g _ (by omega) (by omega)
  refine ⟨by rw [gm]; omega, by rw [e1, e2]; exact h1.2.1, fun k a b => ?_, fun k a b => ?_, fun i a b => ?_⟩
  · have p : at_ w (70 + k) = 36 + 1350 * w + (70 + k) := rfl
    rw [e1] at b; rw [g _ (by omega) (by omega)]; exact h1.2.2.1 k a b
  · have p : at_ w (710 + k) = 36 + 1350 * w + (710 + k) := rfl
    rw [e2] at b; rw [g _ (by omega) (by omega)]; exact h1.2.2.2.1 k a b
  · rw [gm] at b
    by_cases q : i = G (at_ w 0)
    · subst q
      unfold sEL sER
      rw [gm, if_neg (by omega), if_neg (by omega), e1, e2]
      refine ⟨by rw [g0]; omega, by rw [g1]; omega, by rw [gk 2 (by omega) (by omega)]; omega, by rw [gk 3 (by omega) (by omega)]; omega, by rw [gk 4 (by omega) (by omega)]; omega, fun j a b => ?_, fun j j' a b c => ?_⟩
      · rw [gk 2 (by omega) (by omega)] at b; omega
      · rw [gk 2 (by omega) (by omega)] at c; omega
    · have k := (h1.2.2.2.2 i a (by omega)).c (G' := sBegin G w) (fun k a' b' => g _ (by have := wA_e w i k; omega) (by have := wA_e w i k; omega))
      unfold sEL sER at k ⊢
      rw [gm, if_pos (by omega), if_pos (by omega)]
      by_cases q2 : i + 1 = G (at_ w 0)
      · rw [if_neg (by omega), if_neg (by omega)] at k
        rw [q2, g0, g1]; exact k
      · rw [if_pos (by omega), if_pos (by omega)] at k
        rw [g (wA w (i + 1) 0) (by have := wA_e w (i + 1) 0; omega) (by have := wA_e w (i + 1) 0; omega), g (wA w (i + 1) 1) (by have := wA_e w (i + 1) 1; omega) (by have := wA_e w (i + 1) 1; omega)]; exact k
/-- a worker's works stay as they are, the log and the regrets grow or the innermost begins no later -/
theorem sWw.keep {N' : Int} (h : sWw G w N) (hN : N ≤ 640) (e0 : G' (at_ w 0) = G (at_ w 0)) (eW : ∀ k : Int, 5 ≤ k → k < 70 → G' (at_ w k) = G (at_ w k)) (h1 : G (at_ w 1) ≤ G' (at_ w 1)) (h2 : G (at_ w 2) ≤ G' (at_ w 2)) (hn : G' (at_ w 1) + G' (at_ w 2) ≤ N')
    (hl : ∀ k : Int, 0 ≤ k → k < G' (at_ w 1) → 0 ≤ G' (at_ w (70 + k)) ∧ G' (at_ w (70 + k)) < 1600) (hr : ∀ k : Int, 0 ≤ k → k < G' (at_ w 2) → 0 ≤ G' (at_ w (710 + k)) ∧ G' (at_ w (710 + k)) < 1600) : sWw G' w N' := by
  obtain ⟨m, l, h3, h4, h5⟩ := h
  have W : ∀ i k : Int, 0 ≤ i → i < 5 → 0 ≤ k → k ≤ 12 → G' (wA w i k) = G (wA w i k) := fun i k a b c d => eW _ (by omega) (by omega)
  refine ⟨by rw [e0]; exact m, ⟨by omega, by omega, hn⟩, hl, hr, fun i a b => ?_⟩
  rw [e0] at b
  have k := (h5 i a b).c (G' := G') (fun k a' b' => W i k a (by omega) a' b')
  refine k.m ?_ ?_
  · unfold sEL; rw [e0]; split
    · rw [W (i + 1) 0 (by omega) (by omega) (by omega) (by omega)]; omega
    · exact h1
  · unfold sER; rw [e0]; split
    · rw [W (i + 1) 1 (by omega) (by omega) (by omega) (by omega)]; omega
    · exact h2
theorem sW.write {c v : Int} (h : sW G N) (hw : 0 ≤ w ∧ w ≤ 2) (hc : 0 ≤ c ∧ c < 16) (hv : 0 ≤ v ∧ v ≤ 99) (hN : N ≤ 639) : sW (sWrite G w c v) (N + 1) := by
  have l := h.l hw
  have h1 := h.1 w hw
  have n0 : at_ w 0 = 36 + 1350 * w + 0 := rfl
  have n1 : at_ w 1 = 36 + 1350 * w + 1 := rfl
  have n2 : at_ w 2 = 36 + 1350 * w + 2 := rfl
  have n9 : at_ w 1350 = 36 + 1350 * w + 1350 := rfl
  have n7 : at_ w (70 + G (at_ w 1)) = 36 + 1350 * w + (70 + G (at_ w 1)) := rfl
  have K1 : zU G (16 + c) (w + 1) (at_ w 1) = G (at_ w 1) := zU_n (by omega)
  have g : ∀ j : Int, j ≠ 34 → j ≠ c → j ≠ at_ w 1 → j ≠ at_ w (70 + G (at_ w 1)) → j ≠ 16 + c → sWrite G w c v j = G j := fun j a b d e f => by unfold sWrite; rw [zU_n a, zU_n b, sEnter_n (by rw [K1]; exact e) d, zU_n f]
  have gc : sWrite G w c v c = v := by unfold sWrite; rw [zU_n (by omega), zU_s]
  have gk : sWrite G w c v (16 + c) = w + 1 := by unfold sWrite; rw [zU_n (by omega), zU_n (by omega), sEnter_n (by rw [K1]; omega) (by omega), zU_s]
  have g1 : sWrite G w c v (at_ w 1) = G (at_ w 1) + 1 := by unfold sWrite; rw [zU_n (by omega), zU_n (by omega), sEnter_1, K1]
  have g7 : sWrite G w c v (at_ w (70 + G (at_ w 1))) = 100 * c + G c := by
    unfold sWrite; rw [zU_n (by omega), zU_n (by omega)]
    have := sEnter_e (G := zU G (16 + c) (w + 1)) (w := w) (c := c) (by rw [K1]; omega)
    rw [K1, zU_n (by omega)] at this
    exact this
  have e2 : sWrite G w c v (at_ w 2) = G (at_ w 2) := g _ (by omega) (by omega) (by omega) (by omega) (by omega)
  have hvc := h.2.1 c hc.1 hc.2
  refine h.own hw (by omega) (by omega) (fun j a b => g j (by omega) (by omega) (by omega) (by omega) (by omega)) (fun d a b => ?_) (fun d a b => ?_) (by rw [g 32 (by omega) (by omega) (by omega) (by omega) (by omega)]; exact h.2.2.2.1) (h1.keep h.2.2.2.2 (g _ (by omega) (by omega) (by omega) (by omega) (by omega)) (fun k a b => by have := at_e w k; exact g _ (by omega) (by omega) (by omega) (by omega) (by omega)) (by omega) (by omega) (by omega) (fun k a b => ?_) (fun k a b => ?_))
  · by_cases q : d = c
    · rw [q, gc]; exact hv
    · rw [g d (by omega) q (by omega) (by omega) (by omega)]; exact h.2.1 d a b
  · by_cases q : d = c
    · rw [q, gk]; omega
    · rw [g (16 + d) (by omega) (by omega) (by omega) (by omega) (by omega)]; exact h.2.2.1 d a b
  · rw [g1] at b
    have p : at_ w (70 + k) = 36 + 1350 * w + (70 + k) := rfl
    by_cases q : k = G (at_ w 1)
    · rw [q, g7]; omega
    · rw [g _ (by omega) (by omega) (by omega) (by omega) (by omega)]; exact h1.2.2.1 k a (by omega)
  · rw [e2] at b
    have p : at_ w (710 + k) = 36 + 1350 * w + (710 + k) := rfl
    rw [g _ (by omega) (by omega) (by omega) (by omega) (by omega)]; exact h1.2.2.2.1 k a b
theorem sW.regret {c n : Int} (h : sW G N) (hw : 0 ≤ w ∧ w ≤ 2) (hc : 0 ≤ c ∧ c < 16) (hn : 0 ≤ n ∧ n ≤ 99) (hN : N ≤ 639) : sW (sRegret G w c n) (N + 1) := by
  have l := h.l hw
  have h1 := h.1 w hw
  have n0 : at_ w 0 = 36 + 1350 * w + 0 := rfl
  have n1 : at_ w 1 = 36 + 1350 * w + 1 := rfl
  have n2 : at_ w 2 = 36 + 1350 * w + 2 := rfl
  have n9 : at_ w 1350 = 36 + 1350 * w + 1350 := rfl
  have n7 : at_ w (710 + G (at_ w 2)) = 36 + 1350 * w + (710 + G (at_ w 2)) := rfl
  have g : ∀ j : Int, j ≠ at_ w 2 → j ≠ at_ w (710 + G (at_ w 2)) → j ≠ 16 + c → sRegret G w c n j = G j := fun j a b d => by unfold sRegret; rw [zU_n a, zU_n b, zU_n d]
  have gk : sRegret G w c n (16 + c) = w + 1 := by unfold sRegret; rw [zU_n (by omega), zU_n (by omega), zU_s]
  have g2 : sRegret G w c n (at_ w 2) = G (at_ w 2) + 1 := by unfold sRegret; exact zU_s
  have g7 : sRegret G w c n (at_ w (710 + G (at_ w 2))) = 100 * c + n := by unfold sRegret; rw [zU_n (by omega), zU_s]
  have e1 : sRegret G w c n (at_ w 1) = G (at_ w 1) := g _ (by omega) (by omega) (by omega)
  refine h.own hw (by omega) (by omega) (fun j a b => g j (by omega) (by omega) (by omega)) (fun d a b => ?_) (fun d a b => ?_) (by rw [g 32 (by omega) (by omega) (by omega)]; exact h.2.2.2.1) (h1.keep h.2.2.2.2 (g _ (by omega) (by omega) (by omega)) (fun k a b => by have := at_e w k; exact g _ (by omega) (by omega) (by omega)) (by omega) (by omega) (by omega) (fun k a b => ?_) (fun k a b => ?_))
  · rw [g d (by omega) (by omega) (by omega)]; exact h.2.1 d a b
  · by_cases q : d = c
    · rw [q, gk]; omega
    · rw [g (16 + d) (by omega) (by omega) (by omega)]; exact h.2.2.1 d a b
  · rw [e1] at b
    have p : at_ w (70 + k) = 36 + 1350 * w + (70 + k) := rfl
    rw [g _ (by omega) (by omega) (by omega)]; exact h1.2.2.1 k a b
  · rw [g2] at b
    have p : at_ w (710 + k) = 36 + 1350 * w + (710 + k) := rfl
    by_cases q : k = G (at_ w 2)
    · rw [q, g7]; omega
    · rw [g _ (by omega) (by omega) (by omega)]; exact h1.2.2.2.1 k a (by omega)
theorem sW.mercy {v : Int} (h : sW G N) (hv : 0 ≤ v ∧ v ≤ 3) : sW (zU G 32 v) N := by
  refine ⟨fun w hw => (h.1 w hw).c h.2.2.2.2 (fun j a b => zU_n (by unfold at_ at a; omega)), fun c a b => by rw [zU_n (by omega)]; exact h.2.1 c a b, fun c a b => by rw [zU_n (by omega)]; exact h.2.2.1 c a b, by rw [zU_s]; exact hv, h.2.2.2.2⟩
end INV
