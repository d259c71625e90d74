/-! the end of the works: what it leaves -/
theorem zLk_1 {g : Int → Int} {w k : Int} (h : 0 ≤ k) (e : zLk g w k (16 + k) = w + 1) : zU (zLk g w k) (16 + k) 0 = zLk g w (k + 1) := by
  have e0 : g (16 + k) = w + 1 := by rw [← e]; unfold zLk; rw [if_neg (by omega)]
  funext j
  unfold zU zLk
  by_cases h1 : j = 16 + k
  · subst h1; rw [if_pos rfl, if_pos ⟨by omega, by omega, e0⟩]
  · rw [if_neg h1]
    by_cases h2 : 16 ≤ j ∧ j < 16 + k ∧ g j = w + 1
    · rw [if_pos h2, if_pos ⟨by omega, by omega, h2.2.2⟩]
    · rw [if_neg h2, if_neg (fun a => h2 ⟨a.1, by omega, a.2.2⟩)]
theorem zLk_2 {g : Int → Int} {w k : Int} (h : 0 ≤ k) (e : zLk g w k (16 + k) ≠ w + 1) : zU (zLk g w k) (16 + k) (zLk g w k (16 + k)) = zLk g w (k + 1) := by
  have e0 : zLk g w k (16 + k) = g (16 + k) := by unfold zLk; rw [if_neg (by omega)]
  rw [e0] at e ⊢
  funext j
  unfold zU zLk
  by_cases h1 : j = 16 + k
  · subst h1; rw [if_pos rfl, if_neg (fun a => e a.2.2)]
  · rw [if_neg h1]
    by_cases h2 : 16 ≤ j ∧ j < 16 + k ∧ g j = w + 1
    · rw [if_pos h2, if_pos ⟨by omega, by omega, h2.2.2⟩]
    · rw [if_neg h2, if_neg (fun a => h2 ⟨a.1, by omega, a.2.2⟩)]
def kOK (G : Int → Int) : Prop := ∀ c : Int, 0 ≤ c → c < 16 → 0 ≤ G (16 + c) ∧ G (16 + c) ≤ 3
theorem zLk_R {G g : Int → Int} {w k c : Int} (h : kOK G) (h0 : 0 ≤ c) (h1 : c < 16) (e : g (16 + c) = G (16 + c)) : 0 ≤ zLk g w k (16 + c) ∧ zLk g w k (16 + c) ≤ 3 := by
  have := h c h0 h1
  unfold zLk
  split
  · omega
  · rw [e]; exact this
theorem zLk_n {g : Int → Int} {w k j : Int} (h : ¬ (16 ≤ j ∧ j < 16 + k)) : zLk g w k j = g j := if_neg (fun a => h ⟨a.1, a.2.1⟩)
theorem sEnd_n {G : Int → Int} {w j : Int} (h : j < 16 ∨ 32 ≤ j) (h1 : j ≠ at_ w 1) (h2 : j ≠ at_ w 2) : sEnd G w j = G j := by
  unfold sEnd
  rw [zLk_n (by omega), zU_n h2, zU_n h1]
