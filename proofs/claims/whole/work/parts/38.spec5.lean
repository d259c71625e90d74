/-! doing the regrets: what it leaves -/
theorem sEnter_n {G : Int → Int} {w c j : Int} (h : j ≠ at_ w (70 + G (at_ w 1))) (h1 : j ≠ at_ w 1) : sEnter G w c j = G j := by
  unfold sEnter
  rw [zU_n h1, zU_n h]
theorem sEnter_1 {G : Int → Int} {w c : Int} : sEnter G w c (at_ w 1) = G (at_ w 1) + 1 := by
  unfold sEnter; exact zU_s
theorem sEnter_e {G : Int → Int} {w c : Int} (h : at_ w (70 + G (at_ w 1)) ≠ at_ w 1) : sEnter G w c (at_ w (70 + G (at_ w 1))) = 100 * c + G c := by
  unfold sEnter; rw [zU_n h, zU_s]
def rOK (G : Int → Int) (w : Int) : Prop := ∀ k : Int, 0 ≤ k → k < G (at_ w 2) → 0 ≤ G (at_ w (710 + k)) ∧ G (at_ w (710 + k)) < 1600
def vOK (G : Int → Int) : Prop := ∀ c : Int, 0 ≤ c → c < 16 → 0 ≤ G c ∧ G c ≤ 99
section RS
variable {G : Int → Int} {w : Int} {o : Bool}
theorem sRl_t (h : o = true) : sRl G w o = zU G (at_ w 2) (G (at_ w 2) - 1) := by unfold sRl; rw [if_pos h]
theorem sRl_f (h : o = false) : sRl G w o = sEnter (zU G (at_ w 2) (G (at_ w 2) - 1)) w (G (at_ w (710 + (G (at_ w 2) - 1))) / 100) := by unfold sRl; rw [if_neg (by simp [h])]
theorem sRl_n {j : Int} (hw : 0 ≤ w) (hl : o = false → 0 ≤ G (at_ w 1) ∧ G (at_ w 1) ≤ 639) (h1 : j ≠ at_ w 1) (h2 : j ≠ at_ w 2) (h3 : ¬ (at_ w 70 ≤ j ∧ j ≤ at_ w 709)) : sRl G w o j = G j := by
  have e1 : at_ w 1 = 36 + 1350 * w + 1 := rfl
  have e2 : at_ w 2 = 36 + 1350 * w + 2 := rfl
  have e3 : at_ w 70 = 36 + 1350 * w + 70 := rfl
  have e4 : at_ w 709 = 36 + 1350 * w + 709 := rfl
  have e5 : at_ w (70 + G (at_ w 1)) = 36 + 1350 * w + (70 + G (at_ w 1)) := rfl
  cases ho : o with
  | true => rw [sRl_t rfl, zU_n h2]
  | false =>
    have := hl ho
    rw [sRl_f rfl, sEnter_n (by rw [zU_n (by omega)]; omega) h1, zU_n h2]
theorem sRl_1 (hw : 0 ≤ w) : sRl G w o (at_ w 1) = if o = true then G (at_ w 1) else G (at_ w 1) + 1 := by
  have e1 : at_ w 1 = 36 + 1350 * w + 1 := rfl
  have e2 : at_ w 2 = 36 + 1350 * w + 2 := rfl
  cases ho : o with
  | true => rw [sRl_t rfl, zU_n (by omega), if_pos rfl]
  | false => rw [sRl_f rfl, sEnter_1, zU_n (by omega), if_neg (by decide)]
theorem sRl_2 (hw : 0 ≤ w) (hl : o = false → 0 ≤ G (at_ w 1) ∧ G (at_ w 1) ≤ 639) : sRl G w o (at_ w 2) = G (at_ w 2) - 1 := by
  have e1 : at_ w 1 = 36 + 1350 * w + 1 := rfl
  have e2 : at_ w 2 = 36 + 1350 * w + 2 := rfl
  have e5 : at_ w (70 + G (at_ w 1)) = 36 + 1350 * w + (70 + G (at_ w 1)) := rfl
  cases ho : o with
  | true => rw [sRl_t rfl, zU_s]
  | false =>
    have := hl ho
    rw [sRl_f rfl, sEnter_n (by rw [zU_n (by omega)]; omega) (by omega), zU_s]
theorem sRs_l {j : Int} (hr : 0 ≤ G (at_ w (710 + (G (at_ w 2) - 1))) ∧ G (at_ w (710 + (G (at_ w 2) - 1))) < 1600) (h : 16 ≤ j) (h1 : j ≠ 35) : sRs G w o j = sRl G w o j := by
  unfold sRs
  rw [zU_n h1, zU_n (by omega)]
/-- what doing d regrets needs -/
def sRI (G : Int → Int) (w : Int) (o : Bool) (d : Int) : Prop := 0 ≤ w ∧ (0 ≤ G (at_ w 1) ∧ (o = false → G (at_ w 1) + d ≤ 640)) ∧ (d ≤ G (at_ w 2) ∧ G (at_ w 2) ≤ 640) ∧ rOK G w ∧ eOK G w ∧ vOK G
theorem sRI.s {d : Int} (h : sRI G w o (d + 1)) (hd : 0 ≤ d) : sRI (sRs G w o) w o d ∧ sRs G w o (at_ w 2) = G (at_ w 2) - 1 := by
  obtain ⟨hw, ⟨h1, hl⟩, h2, hr, he, hv⟩ := h
  have hr1 := hr (G (at_ w 2) - 1) (by omega) (by omega)
  have e1 : at_ w 1 = 36 + 1350 * w + 1 := rfl
  have e2 : at_ w 2 = 36 + 1350 * w + 2 := rfl
  have e3 : at_ w 70 = 36 + 1350 * w + 70 := rfl
  have e4 : at_ w 709 = 36 + 1350 * w + 709 := rfl
  have hl' : o = false → 0 ≤ G (at_ w 1) ∧ G (at_ w 1) ≤ 639 := fun h => by have := hl h; omega
  have s1 : sRs G w o (at_ w 1) = if o = true then G (at_ w 1) else G (at_ w 1) + 1 := (sRs_l hr1 (by omega) (by omega)).trans (sRl_1 hw)
  have s2 : sRs G w o (at_ w 2) = G (at_ w 2) - 1 := (sRs_l hr1 (by omega) (by omega)).trans (sRl_2 hw hl')
  refine ⟨⟨hw, ⟨?_, fun h => ?_⟩, ⟨by omega, by omega⟩, fun k k0 k1 => ?_, fun k k0 k1 => ?_, fun c c0 c1 => ?_⟩, s2⟩
  · rw [s1]; split <;> omega
  · rw [s1, if_neg (by simp [h])]; have := hl h; omega
  · rw [s2] at k1
    have e5 : at_ w (710 + k) = 36 + 1350 * w + (710 + k) := rfl
    rw [sRs_l hr1 (by omega) (by omega), sRl_n hw hl' (by omega) (by omega) (by omega)]
    exact hr k k0 (by omega)
  · have e5 : at_ w (70 + k) = 36 + 1350 * w + (70 + k) := rfl
    rw [sRs_l hr1 (by omega) (by omega)]
    rw [s1] at k1
    cases ho : o with
    | true =>
      rw [if_pos ho] at k1
      rw [sRl_t rfl, zU_n (by omega)]
      exact he k k0 k1
    | false =>
      rw [if_neg (by simp [ho])] at k1
      have := hl ho
      rw [sRl_f rfl]
      have e6 : at_ w (70 + zU G (at_ w 2) (G (at_ w 2) - 1) (at_ w 1)) = 36 + 1350 * w + (70 + G (at_ w 1)) := by rw [zU_n (by omega)]; rfl
      by_cases hk : k = G (at_ w 1)
      · have hvc := hv (G (at_ w (710 + (G (at_ w 2) - 1))) / 100) (by omega) (by omega)
        rw [show at_ w (70 + k) = at_ w (70 + zU G (at_ w 2) (G (at_ w 2) - 1) (at_ w 1)) by omega, sEnter_e (by omega), zU_n (by omega)]
        omega
      · rw [sEnter_n (by omega) (by omega), zU_n (by omega)]
        exact he k k0 (by omega)
  · unfold sRs
    rw [zU_n (by omega)]
    by_cases q : c = G (at_ w (710 + (G (at_ w 2) - 1))) / 100
    · rw [zU_e q]; omega
    · rw [zU_n q, sRl_n hw hl' (by omega) (by omega) (by omega)]; exact hv c c0 c1
end RS
theorem sRn_I : ∀ (n : Nat) {G : Int → Int} {w : Int} {o : Bool}, sRI G w o n → sRI (sRn n G w o) w o 0 ∧ sRn n G w o (at_ w 2) = G (at_ w 2) - n ∧ sRn n G w o (at_ w 1) = (if o = true then G (at_ w 1) else G (at_ w 1) + n) ∧
    ∀ j : Int, 16 ≤ j → j ≠ 35 → j ≠ at_ w 1 → j ≠ at_ w 2 → ¬ (at_ w 70 ≤ j ∧ j ≤ at_ w 709) → sRn n G w o j = G j
  | 0, G, w, o, h => ⟨h, by show G (at_ w 2) = _; omega, by show G (at_ w 1) = _; split <;> omega, fun _ _ _ _ _ _ => rfl⟩
  | n + 1, G, w, o, h => by
    have h' : sRI G w o ((n : Int) + 1) := h
    obtain ⟨hs, e2⟩ := h'.s (by omega)
    obtain ⟨a, b, c, d⟩ := sRn_I n hs
    obtain ⟨hw, ⟨h1, hl⟩, h2, hr, he, hv⟩ := h'
    have hr1 := hr (G (at_ w 2) - 1) (by omega) (by omega)
    have hl' : o = false → 0 ≤ G (at_ w 1) ∧ G (at_ w 1) ≤ 639 := fun h => by have := hl h; omega
    have e1 : at_ w 1 = 36 + 1350 * w + 1 := rfl
    have e2' : at_ w 2 = 36 + 1350 * w + 2 := rfl
    refine ⟨a, ?_, ?_, fun j j0 j1 j2 j3 j4 => ?_⟩
    · show sRn n (sRs G w o) w o (at_ w 2) = _
      rw [b, e2]; omega
    · show sRn n (sRs G w o) w o (at_ w 1) = _
      rw [c, sRs_l hr1 (by omega) (by omega), sRl_1 hw]
      cases o with
      | true => rfl
      | false => rw [if_neg (by decide), if_neg (by decide), if_neg (by decide)]; omega
    · exact (d j j0 j1 j2 j3 j4).trans ((sRs_l hr1 j0 j1).trans (sRl_n hw hl' j2 j3 j4))
/-- a failure's middle -/
theorem sF_I {G : Int → Int} {N w : Int} (hG : sW G N) (hw : 0 ≤ w ∧ w ≤ 2) (hm0 : 0 < G (at_ w 0)) :
    (sF0 G w (at_ w 0) = G (at_ w 0) - 1 ∧ sF0 G w (at_ w 2) = G (at_ w 2) ∧ sRI (sF0 G w) w (decide (G (at_ w 0) = 1)) ((G (at_ w 2) - G (sIn G w 1)).toNat : Int)) ∧
    sRI (sF1 G w) w (decide (G (at_ w 0) = 1)) 0 ∧ sF1 G w (at_ w 0) = G (at_ w 0) - 1 ∧ sF1 G w (at_ w 2) = G (sIn G w 1) ∧
    sF1 G w (at_ w 1) = (if G (at_ w 0) = 1 then G (sIn G w 0) else G (sIn G w 0) + (G (at_ w 2) - G (sIn G w 1))) ∧
    ∀ j : Int, 16 ≤ j → j ≠ 35 → j ≠ at_ w 0 → j ≠ at_ w 1 → j ≠ at_ w 2 → ¬ (at_ w 70 ≤ j ∧ j ≤ at_ w 709) → sF1 G w j = G j := by
  have hi := hG.in hw hm0
  have hl := hG.l hw
  have e0 : at_ w 0 = 36 + 1350 * w + 0 := rfl
  have e1 : at_ w 1 = 36 + 1350 * w + 1 := rfl
  have e2 : at_ w 2 = 36 + 1350 * w + 2 := rfl
  have e3 : at_ w 70 = 36 + 1350 * w + 70 := rfl
  have e4 : at_ w 709 = 36 + 1350 * w + 709 := rfl
  have he : eOK G w := fun k a b => hG.e hw a b
  have hn : ((G (at_ w 1) - G (sIn G w 0)).toNat : Int) ≤ G (at_ w 1) := by omega
  obtain ⟨u1, u2⟩ := sUn_n (G (at_ w 1) - G (sIn G w 0)).toNat hw.1 he hn
  have u3 := sUn_v (G (at_ w 1) - G (sIn G w 0)).toNat hw.1 he hn hG.2.1
  have f0 : sF0 G w (at_ w 0) = G (at_ w 0) - 1 := zU_s
  have fj : ∀ j, j ≠ at_ w 0 → sF0 G w j = sUn (G (at_ w 1) - G (sIn G w 0)).toNat G w j := fun j h => zU_n h
  have f1 : sF0 G w (at_ w 1) = G (sIn G w 0) := by rw [fj _ (by omega), u2]; omega
  have f2 : sF0 G w (at_ w 2) = G (at_ w 2) := by rw [fj _ (by omega), u1 _ (by omega) (by omega)]
  have I0 : sRI (sF0 G w) w (decide (G (at_ w 0) = 1)) ((G (at_ w 2) - G (sIn G w 1)).toNat : Int) := by
    refine ⟨hw.1, ⟨by omega, fun _ => by omega⟩, ⟨by omega, by omega⟩, fun k k0 k1 => ?_, fun k k0 k1 => ?_, fun c c0 c1 => ?_⟩
    · have e5 : at_ w (710 + k) = 36 + 1350 * w + (710 + k) := rfl
      rw [f2] at k1
      rw [fj _ (by omega), u1 _ (by omega) (by omega)]
      exact hG.r hw k0 k1
    · have e5 : at_ w (70 + k) = 36 + 1350 * w + (70 + k) := rfl
      rw [f1] at k1
      rw [fj _ (by omega), u1 _ (by omega) (by omega)]
      exact hG.e hw k0 (by omega)
    · rw [fj _ (by omega)]
      exact u3 c c0 c1
  obtain ⟨n1, n2, n3, n4⟩ := sRn_I _ I0
  refine ⟨⟨f0, f2, I0⟩, n1, ?_, ?_, ?_, fun j j0 j1 j2 j3 j4 j5 => ?_⟩
  · exact (n4 _ (by omega) (by omega) (by omega) (by omega) (by omega)).trans f0
  · refine n2.trans ?_; omega
  · refine n3.trans ?_
    rw [f1]
    by_cases q : G (at_ w 0) = 1
    · rw [decide_eq_true q, if_pos rfl, if_pos q]
    · rw [decide_eq_false q, if_neg (by decide), if_neg q]; omega
  · refine (n4 j j0 j1 j3 j4 j5).trans ?_
    rw [fj _ j2, u1 _ j0 j3]
