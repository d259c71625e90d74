/-! undoing: what it leaves as it was -/
def eOK (G : Int → Int) (w : Int) : Prop := ∀ k : Int, 0 ≤ k → k < G (at_ w 1) → 0 ≤ G (at_ w (70 + k)) ∧ G (at_ w (70 + k)) < 1600
theorem sUs_n {G : Int → Int} {w j : Int} (he : 0 ≤ G (at_ w (70 + (G (at_ w 1) - 1))) ∧ G (at_ w (70 + (G (at_ w 1) - 1))) < 1600) (h : 16 ≤ j) (h1 : j ≠ at_ w 1) : sUs G w j = G j := by
  unfold sUs
  rw [zU_n (by omega), zU_n h1]
theorem sUs_1 {G : Int → Int} {w : Int} (hw : 0 ≤ w) (he : 0 ≤ G (at_ w (70 + (G (at_ w 1) - 1))) ∧ G (at_ w (70 + (G (at_ w 1) - 1))) < 1600) : sUs G w (at_ w 1) = G (at_ w 1) - 1 := by
  have e1 : at_ w 1 = 36 + 1350 * w + 1 := rfl
  unfold sUs
  rw [zU_n (by omega), zU_s]
theorem sUs_e {G : Int → Int} {w : Int} (hw : 0 ≤ w) (h : eOK G w) (hl : 0 < G (at_ w 1)) : eOK (sUs G w) w := by
  have he := h (G (at_ w 1) - 1) (by omega) (by omega)
  intro k h0 h1
  have e1 : at_ w 1 = 36 + 1350 * w + 1 := rfl
  have e2 : at_ w (70 + k) = 36 + 1350 * w + (70 + k) := rfl
  rw [sUs_1 hw he] at h1
  rw [sUs_n he (by omega) (by omega)]
  exact h k h0 (by omega)
theorem sUn_n : ∀ (n : Nat) {G : Int → Int} {w : Int}, 0 ≤ w → eOK G w → (n : Int) ≤ G (at_ w 1) → (∀ j : Int, 16 ≤ j → j ≠ at_ w 1 → sUn n G w j = G j) ∧ sUn n G w (at_ w 1) = G (at_ w 1) - n
  | 0, G, w, _, _, _ => ⟨fun _ _ _ => rfl, by show G (at_ w 1) = _; omega⟩
  | n + 1, G, w, hw, h, hn => by
    have he := h (G (at_ w 1) - 1) (by omega) (by omega)
    have h1 := sUs_1 hw he
    obtain ⟨a, b⟩ := sUn_n n hw (sUs_e hw h (by omega)) (by rw [h1]; omega)
    refine ⟨fun j hj hj1 => (a j hj hj1).trans (sUs_n he hj hj1), ?_⟩
    show sUn n (sUs G w) w (at_ w 1) = _
    rw [b, h1]
    omega
theorem sUn_v : ∀ (n : Nat) {G : Int → Int} {w : Int}, 0 ≤ w → eOK G w → (n : Int) ≤ G (at_ w 1) → (∀ c : Int, 0 ≤ c → c < 16 → 0 ≤ G c ∧ G c ≤ 99) → ∀ c : Int, 0 ≤ c → c < 16 → 0 ≤ sUn n G w c ∧ sUn n G w c ≤ 99
  | 0, _, _, _, _, _, h => h
  | n + 1, G, w, hw, h, hn, hv => by
    have he := h (G (at_ w 1) - 1) (by omega) (by omega)
    have e1 : at_ w 1 = 36 + 1350 * w + 1 := rfl
    refine sUn_v n hw (sUs_e hw h (by omega)) (by rw [sUs_1 hw he]; omega) (fun c h0 h1 => ?_)
    unfold sUs
    by_cases q : c = G (at_ w (70 + (G (at_ w 1) - 1))) / 100
    · rw [zU_e q]; omega
    · rw [zU_n q, zU_n (by omega)]; exact hv c h0 h1
theorem sIn_c {G G1 : Int → Int} {w k : Int} (h : G1 (at_ w 0) = G (at_ w 0)) : sIn G1 w k = sIn G w k := by unfold sIn; rw [h]
theorem z_locs {x : zX} {H : Heap} {a b pc : Nat} {lv lv' : List (Nat × Value)} {st : List Value} (ks : List Nat) (h : lv_pick lv ks = lv') (K : zG x H a b pc lv' st) : zG x H a b pc lv st := by
  obtain ⟨⟨p, e, R, s, m⟩, ⟨args, below, meth, c⟩, E, mc', ms', post, px⟩ := x
  intro hk hf locs ls hl hlv
  exact K hk hf locs ls hl (lv_sub hlv ks h)
