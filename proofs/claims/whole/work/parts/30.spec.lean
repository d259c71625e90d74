/-! the state as one row of numbers (the reference's own): places, what is read off it -/
def at_ (w k : Int) : Int := 36 + 1350 * w + k
def wA (w i k : Int) : Int := at_ w (5 + 13 * i + k)
/-- something of the innermost work: its place -/
def sIn (G : Int → Int) (w k : Int) : Int := wA w (G (at_ w 0) - 1) k
def sSp (G : Int → Int) (w : Int) : Bool := decide (0 < G (at_ w 0) ∧ G (sIn G w 4) = 1)
def sOp (G : Int → Int) (w : Int) : Bool := decide (0 < G (at_ w 0) ∧ ¬ G (sIn G w 4) = 1)
def sRe (G : Int → Int) (w c : Int) : Int := if G (at_ w 0) = 0 then 1 else if sSp G w = true then 2 else if ¬ G (16 + c) = 0 ∧ ¬ G (16 + c) = w + 1 then 3 else if 40 ≤ G (at_ w 1) then 4 else 0
def sRg (G : Int → Int) (w i : Int) : Int := (if i + 1 < G (at_ w 0) then G (wA w (i + 1) 1) else G (at_ w 2)) - G (wA w i 1)
def sCb (G : Int → Int) (w : Int) : Bool := decide (G (at_ w 0) < 5 ∧ ¬ (0 < G (at_ w 0) ∧ G (sIn G w 4) = 1))
def sCp (G : Int → Int) (w : Int) : Bool := decide (0 < G (at_ w 0) ∧ ¬ G (sIn G w 4) = 1 ∧ G (sIn G w 2) < 4)
def sHp (G : Int → Int) (w i : Int) : Bool := decide (0 < G (at_ w 0) ∧ 0 ≤ i ∧ i ≤ G (sIn G w 2) - 1)
def sCr (G : Int → Int) (w c : Int) : Bool := decide ((sRe G w c = 0 ∨ sRe G w c = 4) ∧ sRg G w (G (at_ w 0) - 1) < 6)
theorem sSp_t {G : Int → Int} {w : Int} : sSp G w = true ↔ (0 < G (at_ w 0) ∧ G (sIn G w 4) = 1) := decide_eq_true_iff
theorem sSp_f {G : Int → Int} {w : Int} : sSp G w = false ↔ ¬ (0 < G (at_ w 0) ∧ G (sIn G w 4) = 1) := decide_eq_false_iff_not
theorem sOp_t {G : Int → Int} {w : Int} : sOp G w = true ↔ (0 < G (at_ w 0) ∧ ¬ G (sIn G w 4) = 1) := decide_eq_true_iff
theorem sOp_f {G : Int → Int} {w : Int} : sOp G w = false ↔ ¬ (0 < G (at_ w 0) ∧ ¬ G (sIn G w 4) = 1) := decide_eq_false_iff_not
theorem sCb_t {G : Int → Int} {w : Int} : sCb G w = true ↔ (G (at_ w 0) < 5 ∧ ¬ (0 < G (at_ w 0) ∧ G (sIn G w 4) = 1)) := decide_eq_true_iff
theorem sCb_f {G : Int → Int} {w : Int} : sCb G w = false ↔ ¬ (G (at_ w 0) < 5 ∧ ¬ (0 < G (at_ w 0) ∧ G (sIn G w 4) = 1)) := decide_eq_false_iff_not
theorem sCp_t {G : Int → Int} {w : Int} : sCp G w = true ↔ (0 < G (at_ w 0) ∧ ¬ G (sIn G w 4) = 1 ∧ G (sIn G w 2) < 4) := decide_eq_true_iff
theorem sCp_f {G : Int → Int} {w : Int} : sCp G w = false ↔ ¬ (0 < G (at_ w 0) ∧ ¬ G (sIn G w 4) = 1 ∧ G (sIn G w 2) < 4) := decide_eq_false_iff_not
theorem sHp_t {G : Int → Int} {w i : Int} : sHp G w i = true ↔ (0 < G (at_ w 0) ∧ 0 ≤ i ∧ i ≤ G (sIn G w 2) - 1) := decide_eq_true_iff
theorem sHp_f {G : Int → Int} {w i : Int} : sHp G w i = false ↔ ¬ (0 < G (at_ w 0) ∧ 0 ≤ i ∧ i ≤ G (sIn G w 2) - 1) := decide_eq_false_iff_not
theorem sCr_t {G : Int → Int} {w c : Int} : sCr G w c = true ↔ ((sRe G w c = 0 ∨ sRe G w c = 4) ∧ sRg G w (G (at_ w 0) - 1) < 6) := decide_eq_true_iff
theorem sCr_f {G : Int → Int} {w c : Int} : sCr G w c = false ↔ ¬ ((sRe G w c = 0 ∨ sRe G w c = 4) ∧ sRg G w (G (at_ w 0) - 1) < 6) := decide_eq_false_iff_not
/-- is x between a and b? -/
def sBt (x a b : Int) : Bool := decide (a ≤ x ∧ x ≤ b)
theorem sBt_t {x a b : Int} : sBt x a b = true ↔ (a ≤ x ∧ x ≤ b) := decide_eq_true_iff
theorem sBt_f {x a b : Int} : sBt x a b = false ↔ ¬ (a ≤ x ∧ x ≤ b) := decide_eq_false_iff_not
/-! what always holds of such a row: N bounds a worker's log and regrets -/
def sWk (G : Int → Int) (w i eL eR : Int) : Prop :=
  (0 ≤ G (wA w i 0) ∧ G (wA w i 0) ≤ eL) ∧ (0 ≤ G (wA w i 1) ∧ G (wA w i 1) ≤ eR) ∧ (0 ≤ G (wA w i 2) ∧ G (wA w i 2) ≤ 4) ∧ (0 ≤ G (wA w i 3) ∧ G (wA w i 3) ≤ 3) ∧ (0 ≤ G (wA w i 4) ∧ G (wA w i 4) ≤ 1) ∧
  (∀ j : Int, 0 ≤ j → j < G (wA w i 2) → (G (wA w i 0) ≤ G (wA w i (5 + j)) ∧ G (wA w i (5 + j)) ≤ eL) ∧ G (wA w i 1) ≤ G (wA w i (9 + j)) ∧ G (wA w i (9 + j)) ≤ eR) ∧
  ∀ j j' : Int, 0 ≤ j → j ≤ j' → j' < G (wA w i 2) → G (wA w i (5 + j)) ≤ G (wA w i (5 + j')) ∧ G (wA w i (9 + j)) ≤ G (wA w i (9 + j'))
def sEL (G : Int → Int) (w i : Int) : Int := if i + 1 < G (at_ w 0) then G (wA w (i + 1) 0) else G (at_ w 1)
def sER (G : Int → Int) (w i : Int) : Int := if i + 1 < G (at_ w 0) then G (wA w (i + 1) 1) else G (at_ w 2)
def sWw (G : Int → Int) (w N : Int) : Prop :=
  (0 ≤ G (at_ w 0) ∧ G (at_ w 0) ≤ 5) ∧ (0 ≤ G (at_ w 1) ∧ 0 ≤ G (at_ w 2) ∧ G (at_ w 1) + G (at_ w 2) ≤ N) ∧
  (∀ k : Int, 0 ≤ k → k < G (at_ w 1) → 0 ≤ G (at_ w (70 + k)) ∧ G (at_ w (70 + k)) < 1600) ∧ (∀ k : Int, 0 ≤ k → k < G (at_ w 2) → 0 ≤ G (at_ w (710 + k)) ∧ G (at_ w (710 + k)) < 1600) ∧
  ∀ i : Int, 0 ≤ i → i < G (at_ w 0) → sWk G w i (sEL G w i) (sER G w i)
def sW (G : Int → Int) (N : Int) : Prop := (∀ w : Int, 0 ≤ w ∧ w ≤ 2 → sWw G w N) ∧ (∀ c : Int, 0 ≤ c → c < 16 → 0 ≤ G c ∧ G c ≤ 99) ∧ (∀ c : Int, 0 ≤ c → c < 16 → 0 ≤ G (16 + c) ∧ G (16 + c) ≤ 3) ∧ (0 ≤ G 32 ∧ G 32 ≤ 3) ∧ N ≤ 640
section SW
variable {G : Int → Int} {N w : Int}
theorem sW.m (h : sW G N) (hw : 0 ≤ w ∧ w ≤ 2) : 0 ≤ G (at_ w 0) ∧ G (at_ w 0) ≤ 5 := (h.1 w hw).1
theorem sW.l (h : sW G N) (hw : 0 ≤ w ∧ w ≤ 2) : 0 ≤ G (at_ w 1) ∧ 0 ≤ G (at_ w 2) ∧ G (at_ w 1) + G (at_ w 2) ≤ N ∧ N ≤ 640 := ⟨(h.1 w hw).2.1.1, (h.1 w hw).2.1.2.1, (h.1 w hw).2.1.2.2, h.2.2.2.2⟩
theorem sW.e (h : sW G N) (hw : 0 ≤ w ∧ w ≤ 2) {k : Int} (h0 : 0 ≤ k) (h1 : k < G (at_ w 1)) : 0 ≤ G (at_ w (70 + k)) ∧ G (at_ w (70 + k)) < 1600 := (h.1 w hw).2.2.1 k h0 h1
theorem sW.r (h : sW G N) (hw : 0 ≤ w ∧ w ≤ 2) {k : Int} (h0 : 0 ≤ k) (h1 : k < G (at_ w 2)) : 0 ≤ G (at_ w (710 + k)) ∧ G (at_ w (710 + k)) < 1600 := (h.1 w hw).2.2.2.1 k h0 h1
theorem sW.k (h : sW G N) (hw : 0 ≤ w ∧ w ≤ 2) {i : Int} (h0 : 0 ≤ i) (h1 : i < G (at_ w 0)) : sWk G w i (sEL G w i) (sER G w i) := (h.1 w hw).2.2.2.2 i h0 h1
/-- the innermost work's numbers -/
theorem sW.in (h : sW G N) (hw : 0 ≤ w ∧ w ≤ 2) (h0 : 0 < G (at_ w 0)) : (0 ≤ G (sIn G w 0) ∧ G (sIn G w 0) ≤ G (at_ w 1)) ∧ (0 ≤ G (sIn G w 1) ∧ G (sIn G w 1) ≤ G (at_ w 2)) ∧ (0 ≤ G (sIn G w 2) ∧ G (sIn G w 2) ≤ 4) ∧ (0 ≤ G (sIn G w 3) ∧ G (sIn G w 3) ≤ 3) ∧ (0 ≤ G (sIn G w 4) ∧ G (sIn G w 4) ≤ 1) ∧
    ∀ j : Int, 0 ≤ j → j < G (sIn G w 2) → (G (sIn G w 0) ≤ G (sIn G w (5 + j)) ∧ G (sIn G w (5 + j)) ≤ G (at_ w 1)) ∧ G (sIn G w 1) ≤ G (sIn G w (9 + j)) ∧ G (sIn G w (9 + j)) ≤ G (at_ w 2) := by
  have k := h.k hw (i := G (at_ w 0) - 1) (by omega) (by omega)
  unfold sEL sER at k
  rw [if_neg (by omega), if_neg (by omega)] at k
  exact ⟨k.1, k.2.1, k.2.2.1, k.2.2.2.1, k.2.2.2.2.1, k.2.2.2.2.2.1⟩
theorem sRe_R (h : sW G N) (hw : 0 ≤ w ∧ w ≤ 2) {c : Int} : 0 ≤ sRe G w c ∧ sRe G w c ≤ 4 := by
  unfold sRe
  split
  · omega
  · split
    · omega
    · split
      · omega
      · split <;> omega
theorem sRg_R (h : sW G N) (hw : 0 ≤ w ∧ w ≤ 2) (h0 : 0 < G (at_ w 0)) : 0 ≤ sRg G w (G (at_ w 0) - 1) ∧ sRg G w (G (at_ w 0) - 1) ≤ 640 := by
  have k := (h.in hw h0).2.1
  have l := h.l hw
  unfold sRg
  unfold sIn at k
  rw [if_neg (by omega)]
  omega
theorem sRe_m {c : Int} (h : sRe G w c = 0 ∨ sRe G w c = 4) : ¬ G (at_ w 0) = 0 := fun e => by unfold sRe at h; rw [if_pos e] at h; omega
end SW
