/-! the reference: one step of a script -/
def bT (K : Int → Int) (w k : Int) : Bool := if k = 0 then sCb K w else if k = 1 then sOp K w else if k = 2 then decide (0 < K (at_ w 0)) else if k = 3 then sCp K w else false
def bR (K : Int → Int) (w k : Int) : Int → Int := if k = 0 then sBegin K w else if k = 1 then sDone K w else if k = 2 then sFail K w else sPoint K w
def uT (K : Int → Int) (w c : Int) : Bool := decide ((0 ≤ c ∧ c ≤ 15) ∧ sRe K w c = 0)
def gT (K : Int → Int) (w i : Int) : Bool := sHp K w i && !sSp K w
def rT (K : Int → Int) (w c v : Int) : Bool := decide ((0 ≤ c ∧ c ≤ 15) ∧ ¬ v = 0) && sCr K w c
def sIf (b : Bool) (R K : Int → Int) : Int → Int := if b = true then R else K
/-- a group's parts -/
def gC (g : Int) : Int := g / 10000
def gW (g : Int) : Int := g / 1000 % 10
def gX (g : Int) : Int := g / 10 % 100
def gV (g : Int) : Int := g % 10
/-- is it done (or true)? what it leaves -/
def sDo (K : Int → Int) (g : Int) : Bool :=
  if 3 ≤ gW g then false else if gC g = 5 ∧ ¬ gW g = 0 then false
  else if gC g = 1 then decide (gX g = 0) && bT K (gW g) (gV g)
  else if gC g = 2 then uT K (gW g) (gX g)
  else if gC g = 3 then decide (gX g = 0) && gT K (gW g) (gV g)
  else if gC g = 4 then rT K (gW g) (gX g) (gV g)
  else if gC g = 5 then decide ((0 ≤ gX g ∧ gX g ≤ 15) ∧ K (gX g) = gV g)
  else if gC g = 6 then decide ((0 ≤ gX g ∧ gX g ≤ 15) ∧ gV g = 0 ∧ K (16 + gX g) = gW g + 1)
  else if gC g = 7 then decide (gX g = 0 ∧ K (at_ (gW g) 0) = gV g)
  else if gC g = 8 then decide (gX g = 0 ∧ gV g = 0) && sSp K (gW g)
  else if gC g = 9 then decide (g / 100 % 10 = 0 ∧ K (at_ (gW g) 1) ≤ g % 100)
  else false
def sDn_ (K : Int → Int) (g : Int) : Int → Int :=
  if 3 ≤ gW g then K
  else if gC g = 1 then sIf (decide (gX g = 0) && bT K (gW g) (gV g)) (bR K (gW g) (gV g)) K
  else if gC g = 2 then sIf (uT K (gW g) (gX g)) (sWrite K (gW g) (gX g) (gV g)) K
  else if gC g = 3 then sIf (decide (gX g = 0) && gT K (gW g) (gV g)) (sBack K (gW g) (gV g)) K
  else if gC g = 4 then sIf (rT K (gW g) (gX g) (gV g)) (sRegret K (gW g) (gX g) (gV g)) K
  else K
/-- a step of a simulation -/
def sSt (K : Int → Int) (v : Int) : Int → Int :=
  if v % 16 ≤ 2 then sIf (bT K (v / 16 % 3) 0) (bR K (v / 16 % 3) 0) K
  else if v % 16 ≤ 4 then sIf (bT K (v / 16 % 3) 1) (bR K (v / 16 % 3) 1) K
  else if v % 16 ≤ 6 then sIf (bT K (v / 16 % 3) 2) (bR K (v / 16 % 3) 2) K
  else if v % 16 = 7 then sIf (bT K (v / 16 % 3) 3) (bR K (v / 16 % 3) 3) K
  else if v % 16 = 8 then sIf (gT K (v / 16 % 3) (v / 64 % 4)) (sBack K (v / 16 % 3) (v / 64 % 4)) K
  else if v % 16 = 9 then sIf (rT K (v / 16 % 3) (v / 64 % 16) (1 + v / 1024 % 99)) (sRegret K (v / 16 % 3) (v / 64 % 16) (1 + v / 1024 % 99)) K
  else sIf (uT K (v / 16 % 3) (v / 64 % 16)) (sWrite K (v / 16 % 3) (v / 64 % 16) (v / 1024 % 100)) K
theorem sIf_I {b : Bool} {R K : Int → Int} {N : Int} (h : sW K N) (hN : N ≤ 639) (hR : b = true → sW R (N + 1)) : sW (sIf b R K) (N + 1) := by
  unfold sIf
  split
  · next e => exact hR e
  · exact h.up (by omega) (by omega)
section STP
variable {K : Int → Int} {N w k c v i : Int}
theorem bR_I (h : sW K N) (hN : N ≤ 639) (hw : 0 ≤ w ∧ w ≤ 2) (e : bT K w k = true) : sW (bR K w k) (N + 1) := by
  refine sW.up (N := N) ?_ (by omega) (by omega)
  unfold bT at e
  unfold bR
  split at e
  · next q => rw [if_pos q]; exact h.begin hw (sCb_t.mp e).1
  · next q => rw [if_neg q]; split at e
              · next q => rw [if_pos q]; exact h.done hw (sOp_t.mp e).1
              · next q => rw [if_neg q]; split at e
                          · next q => rw [if_pos q]; exact h.fail hw (of_decide_eq_true e)
                          · next q => rw [if_neg q]; split at e
                                      · next q => have a := sCp_t.mp e; exact h.point hw a.1 a.2.2
                                      · exact absurd e (by decide)
theorem uT_I (h : sW K N) (hN : N ≤ 639) (hw : 0 ≤ w ∧ w ≤ 2) (hv : 0 ≤ v ∧ v ≤ 99) (e : uT K w c = true) : sW (sWrite K w c v) (N + 1) := by
  have a := of_decide_eq_true e
  exact h.write hw ⟨by omega, by omega⟩ hv hN
theorem gT_I (h : sW K N) (hN : N ≤ 639) (hw : 0 ≤ w ∧ w ≤ 2) (e : gT K w i = true) : sW (sBack K w i) (N + 1) := by
  have e1 : sHp K w i = true := by unfold gT at e; cases hh : sHp K w i with | true => rfl | false => rw [hh] at e; exact absurd e (by simp)
  have e2 := sHp_t.mp e1
  exact (h.back hw e2.1 ⟨e2.2.1, by omega⟩).up (by omega) (by omega)
theorem rT_I (h : sW K N) (hN : N ≤ 639) (hw : 0 ≤ w ∧ w ≤ 2) (hv : 0 ≤ v ∧ v ≤ 99) (e : rT K w c v = true) : sW (sRegret K w c v) (N + 1) := by
  have e1 : decide ((0 ≤ c ∧ c ≤ 15) ∧ ¬ v = 0) = true := by unfold rT at e; cases hh : decide ((0 ≤ c ∧ c ≤ 15) ∧ ¬ v = 0) with | true => rfl | false => rw [hh] at e; exact absurd e (by simp)
  have a := of_decide_eq_true e1
  exact h.regret hw ⟨by omega, by omega⟩ hv hN
end STP
theorem and_2 {a b : Bool} (h : (a && b) = true) : b = true := by cases b with | true => rfl | false => rw [Bool.and_false] at h; exact absurd h (by decide)
theorem sDn_I {K : Int → Int} {N g : Int} (h : sW K N) (hN : N ≤ 639) (hg : 0 ≤ g) : sW (sDn_ K g) (N + 1) := by
  have hX : 0 ≤ gX g ∧ gX g ≤ 99 := by unfold gX; omega
  have hV : 0 ≤ gV g ∧ gV g ≤ 99 := by unfold gV; omega
  have hW : 0 ≤ gW g := by unfold gW; omega
  have u := h.up (N' := N + 1) (by omega) (by omega)
  unfold sDn_
  split
  · exact u
  · split
    · exact sIf_I h hN (fun e => bR_I h hN ⟨by omega, by omega⟩ (and_2 e))
    · split
      · exact sIf_I h hN (fun e => uT_I h hN ⟨by omega, by omega⟩ hV e)
      · split
        · exact sIf_I h hN (fun e => gT_I h hN ⟨by omega, by omega⟩ (and_2 e))
        · split
          · exact sIf_I h hN (fun e => rT_I h hN ⟨by omega, by omega⟩ hV e)
          · exact u
theorem sSt_I {K : Int → Int} {N v : Int} (h : sW K N) (hN : N ≤ 639) (hv : 0 ≤ v) : sW (sSt K v) (N + 1) := by
  unfold sSt
  split
  · exact sIf_I h hN (fun e => bR_I h hN ⟨by omega, by omega⟩ e)
  · split
    · exact sIf_I h hN (fun e => bR_I h hN ⟨by omega, by omega⟩ e)
    · split
      · exact sIf_I h hN (fun e => bR_I h hN ⟨by omega, by omega⟩ e)
      · split
        · exact sIf_I h hN (fun e => bR_I h hN ⟨by omega, by omega⟩ e)
        · split
          · exact sIf_I h hN (fun e => gT_I h hN ⟨by omega, by omega⟩ e)
          · split
            · exact sIf_I h hN (fun e => rT_I h hN ⟨by omega, by omega⟩ ⟨by omega, by omega⟩ e)
            · exact sIf_I h hN (fun e => uT_I h hN ⟨by omega, by omega⟩ ⟨by omega, by omega⟩ e)
