/-! the text, as the class reads it, and as the reference does (written by program: wip/whole/gen/class25.py) -/
def dG (n : Int) (tx : Int → Int) (p : Int) : Int := zRg n tx p - 48
def nG (n : Int) (tx : Int → Int) (p : Int) : Int := 10 * dG n tx p + dG n tx (p + 1)
def fTx (n : Int) (tx : Int → Int) (c p : Int) : Bool :=
  if 0 ≤ dG n tx p ∧ dG n tx p ≤ 9 then
    (if c = 67 then sBt (10 * dG n tx p) 0 15 else if c = 99 then sBt (nG n tx (p - 1)) 0 15 else if c = 105 then decide (dG n tx p < 4) else if c = 109 then decide (dG n tx p ≤ 3)
     else if c = 110 then sBt (nG n tx (p - 1)) 1 99 else if c = 119 then decide (dG n tx p < 3) else true)
  else false
def sHi (c : Int) : Nat := if c = 98 ∨ c = 112 ∨ c = 100 ∨ c = 102 then 0 else if c = 115 then 1 else if c = 103 then 2 else if c = 114 then 3 else if c = 109 then 4 else 5
theorem sHi_R (c : Int) : sHi c < 6 := by unfold sHi; (repeat' split) <;> decide
def cF (n : Int) (tx : Int → Int) (i : Nat) (s : Int) : Nat → Int → Int
  | 0, k => k
  | d + 1, k => if s + k < n ∧ fTx n tx (zLc i k.toNat) (s + k) = true then cF n tx i s d (k + 1) else k
section RD
variable {n : Int} {tx : Int → Int} {p q : Int}
theorem dG_R (hx : ∀ j : Int, 0 ≤ j → j < n → 0 ≤ tx j ∧ tx j ≤ 255) : -48 ≤ dG n tx p ∧ dG n tx p ≤ 207 := by
  unfold dG zRg
  split
  · next h => have := hx p h.1 h.2; omega
  · omega
theorem dG_n (h : 0 ≤ dG n tx p) : (0 ≤ p ∧ p < n) ∧ dG n tx p = tx p - 48 := by
  unfold dG zRg at h ⊢
  split at h
  · next e => exact ⟨e, by rw [if_pos e]⟩
  · omega
theorem tDg_y {a b : Int} (h : 0 ≤ dG n tx q) (h9 : dG n tx q ≤ 9) (ha : a ≤ dG n tx q) (hb : dG n tx q ≤ b) : tDg n a b tx (true, q) = (dG n tx q, (true, q + 1)) := by
  obtain ⟨hq, e⟩ := dG_n h
  have hD : tD n q tx = dG n tx q := by unfold tD; rw [if_pos hq.2, e]
  have hk : tOk n q a b tx = true := by unfold tOk; rw [hD]; exact decide_eq_true ⟨⟨h, h9⟩, ha, hb⟩
  show (if (true && tOk n q a b tx) = true then tD n q tx else a, ((true && tOk n q a b tx), tSp (true && tOk n q a b tx) q)) = _
  rw [hk, hD]
  rfl
theorem tDg_n {a b : Int} (h0 : 0 ≤ q) (h : ¬ ((0 ≤ dG n tx q ∧ dG n tx q ≤ 9) ∧ a ≤ dG n tx q ∧ dG n tx q ≤ b)) : tDg n a b tx (true, q) = (a, (false, q)) := by
  have hk : tOk n q a b tx = false := by
    unfold tOk
    refine decide_eq_false (fun e => h ?_)
    unfold tD at e
    by_cases hq : q < n
    · rw [if_pos hq] at e
      have e2 : dG n tx q = tx q - 48 := by unfold dG zRg; rw [if_pos ⟨h0, hq⟩]
      rw [e2]; exact e
    · rw [if_neg hq] at e; omega
  show (if (true && tOk n q a b tx) = true then tD n q tx else a, ((true && tOk n q a b tx), tSp (true && tOk n q a b tx) q)) = _
  rw [hk]
  rfl
theorem tDg_F {a b : Int} : tDg n a b tx (false, q) = (a, (false, q)) := rfl
theorem tCl_F : (tCl n tx (false, q)).2 = (false, q) := rfl
theorem tTw_F {m : Int} : (tTw n m tx (false, q)).2 = (false, q) := rfl
theorem tCl_y (h0 : 0 ≤ dG n tx q ∧ dG n tx q ≤ 1) (h1 : 0 ≤ dG n tx (q + 1) ∧ dG n tx (q + 1) ≤ 9) (h2 : nG n tx q ≤ 15) : tCl n tx (true, q) = (nG n tx q, (true, q + 1 + 1)) := by
  unfold nG at h2
  unfold tCl
  rw [tDg_y (a := 0) (b := 1) h0.1 (by omega) h0.1 h0.2]
  dsimp only
  by_cases z : dG n tx q = 1
  · rw [if_pos z, tDg_y (q := q + 1) (a := 0) (b := 5) h1.1 h1.2 h1.1 (by omega)]; rfl
  · rw [if_neg z, tDg_y (q := q + 1) (a := 0) (b := 9) h1.1 h1.2 h1.1 h1.2]; rfl
theorem tCl_1 (hq : 0 ≤ q) (h0 : ¬ (0 ≤ dG n tx q ∧ dG n tx q ≤ 1)) : (tCl n tx (true, q)).2 = (false, q) := by
  unfold tCl
  rw [tDg_n (a := 0) (b := 1) hq (by omega)]
  rfl
theorem tCl_2 (hq : 0 ≤ q) (h0 : 0 ≤ dG n tx q ∧ dG n tx q ≤ 1) (h1 : ¬ ((0 ≤ dG n tx (q + 1) ∧ dG n tx (q + 1) ≤ 9) ∧ nG n tx q ≤ 15)) : (tCl n tx (true, q)).2 = (false, q + 1) := by
  unfold nG at h1
  unfold tCl
  rw [tDg_y (a := 0) (b := 1) h0.1 (by omega) h0.1 h0.2]
  dsimp only
  by_cases z : dG n tx q = 1
  · rw [if_pos z, tDg_n (q := q + 1) (a := 0) (b := 5) (by omega) (by omega)]
  · rw [if_neg z, tDg_n (q := q + 1) (a := 0) (b := 9) (by omega) (by omega)]
theorem tTw_y {m : Int} (hm : 0 ≤ m ∧ m ≤ 1) (h0 : 0 ≤ dG n tx q ∧ dG n tx q ≤ 9) (h1 : 0 ≤ dG n tx (q + 1) ∧ dG n tx (q + 1) ≤ 9) (h2 : m ≤ nG n tx q) : tTw n m tx (true, q) = (nG n tx q, (true, q + 1 + 1)) := by
  unfold nG at h2
  unfold tTw
  rw [tDg_y (a := 0) (b := 9) h0.1 h0.2 h0.1 h0.2]
  dsimp only
  by_cases z : dG n tx q = 0
  · rw [if_pos z, tDg_y (q := q + 1) (a := m) (b := 9) h1.1 h1.2 (by omega) h1.2]; rfl
  · rw [if_neg z, tDg_y (q := q + 1) (a := 0) (b := 9) h1.1 h1.2 h1.1 h1.2]; rfl
theorem tTw_1 {m : Int} (hq : 0 ≤ q) (h0 : ¬ (0 ≤ dG n tx q ∧ dG n tx q ≤ 9)) : (tTw n m tx (true, q)).2 = (false, q) := by
  unfold tTw
  rw [tDg_n (a := 0) (b := 9) hq (by omega)]
  rfl
theorem tTw_2 {m : Int} (hm : 0 ≤ m ∧ m ≤ 1) (hq : 0 ≤ q) (h0 : 0 ≤ dG n tx q ∧ dG n tx q ≤ 9) (h1 : ¬ ((0 ≤ dG n tx (q + 1) ∧ dG n tx (q + 1) ≤ 9) ∧ m ≤ nG n tx q)) : (tTw n m tx (true, q)).2 = (false, q + 1) := by
  unfold nG at h1
  unfold tTw
  rw [tDg_y (a := 0) (b := 9) h0.1 h0.2 h0.1 h0.2]
  dsimp only
  by_cases z : dG n tx q = 0
  · rw [if_pos z, tDg_n (q := q + 1) (a := m) (b := 9) (by omega) (by omega)]
  · rw [if_neg z, tDg_n (q := q + 1) (a := 0) (b := 9) (by omega) (by omega)]
/-- what fits, sign by sign -/
theorem fT_w : fTx n tx 119 p = true ↔ (0 ≤ dG n tx p ∧ dG n tx p ≤ 2) := by
  show (if _ then decide _ else false) = true ↔ _
  by_cases z : 0 ≤ dG n tx p ∧ dG n tx p ≤ 9
  · rw [if_pos z, decide_eq_true_iff]; omega
  · rw [if_neg z]; exact ⟨fun h => absurd h (by decide), fun h => by omega⟩
theorem fT_i : fTx n tx 105 p = true ↔ (0 ≤ dG n tx p ∧ dG n tx p ≤ 3) := by
  show (if _ then decide _ else false) = true ↔ _
  by_cases z : 0 ≤ dG n tx p ∧ dG n tx p ≤ 9
  · rw [if_pos z, decide_eq_true_iff]; omega
  · rw [if_neg z]; exact ⟨fun h => absurd h (by decide), fun h => by omega⟩
theorem fT_m : fTx n tx 109 p = true ↔ (0 ≤ dG n tx p ∧ dG n tx p ≤ 3) := by
  show (if _ then decide _ else false) = true ↔ _
  by_cases z : 0 ≤ dG n tx p ∧ dG n tx p ≤ 9
  · rw [if_pos z, decide_eq_true_iff]; omega
  · rw [if_neg z]; exact ⟨fun h => absurd h (by decide), fun h => by omega⟩
theorem fT_C : fTx n tx 67 p = true ↔ (0 ≤ dG n tx p ∧ dG n tx p ≤ 1) := by
  show (if _ then sBt _ _ _ else false) = true ↔ _
  by_cases z : 0 ≤ dG n tx p ∧ dG n tx p ≤ 9
  · rw [if_pos z, sBt_t]; omega
  · rw [if_neg z]; exact ⟨fun h => absurd h (by decide), fun h => by omega⟩
theorem fT_c : fTx n tx 99 p = true ↔ ((0 ≤ dG n tx p ∧ dG n tx p ≤ 9) ∧ 0 ≤ nG n tx (p - 1) ∧ nG n tx (p - 1) ≤ 15) := by
  show (if _ then sBt _ _ _ else false) = true ↔ _
  by_cases z : 0 ≤ dG n tx p ∧ dG n tx p ≤ 9
  · rw [if_pos z, sBt_t]; omega
  · rw [if_neg z]; exact ⟨fun h => absurd h (by decide), fun h => by omega⟩
theorem fT_n : fTx n tx 110 p = true ↔ ((0 ≤ dG n tx p ∧ dG n tx p ≤ 9) ∧ 1 ≤ nG n tx (p - 1) ∧ nG n tx (p - 1) ≤ 99) := by
  show (if _ then sBt _ _ _ else false) = true ↔ _
  by_cases z : 0 ≤ dG n tx p ∧ dG n tx p ≤ 9
  · rw [if_pos z, sBt_t]; omega
  · rw [if_neg z]; exact ⟨fun h => absurd h (by decide), fun h => by omega⟩
theorem fT_D : fTx n tx 68 p = true ↔ (0 ≤ dG n tx p ∧ dG n tx p ≤ 9) := by
  show (if _ then true else false) = true ↔ _
  by_cases z : 0 ≤ dG n tx p ∧ dG n tx p ≤ 9
  · rw [if_pos z]; exact ⟨fun _ => z, fun _ => rfl⟩
  · rw [if_neg z]; exact ⟨fun h => absurd h (by decide), fun h => by omega⟩
theorem fT_d : fTx n tx 100 p = true ↔ (0 ≤ dG n tx p ∧ dG n tx p ≤ 9) := by
  show (if _ then true else false) = true ↔ _
  by_cases z : 0 ≤ dG n tx p ∧ dG n tx p ≤ 9
  · rw [if_pos z]; exact ⟨fun _ => z, fun _ => rfl⟩
  · rw [if_neg z]; exact ⟨fun h => absurd h (by decide), fun h => by omega⟩
theorem fT_0 {c : Int} (h : fTx n tx c p = true) : 0 ≤ dG n tx p := by
  unfold fTx at h
  split at h
  · next e => exact e.1
  · exact absurd h (by decide)
theorem cF_t {i d : Nat} {s k k' c pp : Int} (hc : zLc i k.toNat = c) (hp : s + k = pp) (hk : k + 1 = k') (h : fTx n tx c pp = true) : cF n tx i s (d + 1) k = cF n tx i s d k' := by
  subst hc hp hk
  exact if_pos ⟨(dG_n (fT_0 h)).1.2, h⟩
theorem cF_f {i d : Nat} {s k c pp : Int} (hc : zLc i k.toNat = c) (hp : s + k = pp) (h : ¬ fTx n tx c pp = true) : cF n tx i s (d + 1) k = k := by
  subst hc hp
  exact if_neg (fun e => h e.2)
theorem cF_le {i : Nat} {s : Int} : ∀ (d : Nat) (k : Int), k ≤ cF n tx i s d k ∧ cF n tx i s d k ≤ k + d
  | 0, k => ⟨Int.le_refl _, by show k ≤ _; omega⟩
  | d + 1, k => by
    unfold cF
    have := cF_le (i := i) (s := s) d (k + 1)
    split <;> omega
end RD
/-- a command of the text: is it done, what it leaves -/
def oT (n : Int) (tx R : Int → Int) (p : Int) : Bool :=
  if zRg n tx p = 98 then atT R 0 (dG n tx (p + 1)) 0 0 else if zRg n tx p = 100 then atT R 1 (dG n tx (p + 1)) 0 0 else if zRg n tx p = 102 then atT R 2 (dG n tx (p + 1)) 0 0 else if zRg n tx p = 103 then atT R 5 (dG n tx (p + 1)) (nG n tx (p + 2)) (nG n tx (p + 2 + 2))
  else if zRg n tx p = 112 then atT R 3 (dG n tx (p + 1)) 0 0 else if zRg n tx p = 114 then atT R 4 (dG n tx (p + 1)) (dG n tx (p + 2)) 0 else if zRg n tx p = 115 then atT R 6 (dG n tx (p + 1)) (nG n tx (p + 2)) (nG n tx (p + 2 + 2)) else true
def oR (n : Int) (tx R : Int → Int) (p : Int) : Int → Int :=
  if zRg n tx p = 98 then atR R 0 (dG n tx (p + 1)) 0 0 else if zRg n tx p = 100 then atR R 1 (dG n tx (p + 1)) 0 0 else if zRg n tx p = 102 then atR R 2 (dG n tx (p + 1)) 0 0 else if zRg n tx p = 103 then atR R 5 (dG n tx (p + 1)) (nG n tx (p + 2)) (nG n tx (p + 2 + 2))
  else if zRg n tx p = 112 then atR R 3 (dG n tx (p + 1)) 0 0 else if zRg n tx p = 114 then atR R 4 (dG n tx (p + 1)) (dG n tx (p + 2)) 0 else if zRg n tx p = 115 then atR R 6 (dG n tx (p + 1)) (nG n tx (p + 2)) (nG n tx (p + 2 + 2)) else zU R 32 (dG n tx (p + 1))
section CMD
variable {n : Int} {tx : Int → Int} {p lo : Int} {R : Int → Int}
theorem tEx_t {q : Int} {d : Bool} {R1 : Int → Int} : tEx (true, q) d lo R R1 = ((true, q), (if d = true then lo else lo + 1), sIf d R1 R) := by
  cases d <;> rfl
theorem tCm_o {k : Int} (hc : tx p = k) (hk : tLet k = true) (hm : k ≠ 109) : tCm n tx (true, p) lo R = tCk k n tx (tDg n 0 2 tx (true, p + 1)) lo R := by
  unfold tCm
  rw [if_neg (by rw [tNx_f.mpr (fun e => hm (hc.symm.trans e.2))]; decide)]
  show tCk (tx p) n tx (tDg n 0 2 tx (tAc (tLet (tx p)) (true, p))) lo R = _
  rw [hc, hk]
  rfl
theorem tBa_y {k : Int} {kk : Int} (h0 : 0 ≤ p) (hp : p < n) (hc : tx p = k) (hk : tLet k = true) (hm : k ≠ 109) (h1 : k ≠ 115) (h2 : k ≠ 103) (h3 : k ≠ 114) (hd : ∀ w, tBaD R k w = alD R kk w 0 0) (hr : ∀ w, tBaR R k w = opD R kk w 0 0) (hw : 0 ≤ dG n tx (p + 1) ∧ dG n tx (p + 1) ≤ 2) :
    tCm n tx (true, p) lo R = ((true, p + 1 + 1), (if atT R kk (dG n tx (p + 1)) 0 0 = true then lo else lo + 1), atR R kk (dG n tx (p + 1)) 0 0) := by
  rw [tCm_o hc hk hm, tDg_y hw.1 (by omega) hw.1 hw.2]
  unfold tCk
  rw [if_neg h1, if_neg h2, if_neg h3]
  show tEx (true, p + 1 + 1) (tBaD R k (dG n tx (p + 1))) lo R (tBaR R k (dG n tx (p + 1))) = _
  rw [tEx_t, hd, hr, atT_w hw, atR_i hw]
theorem tBa_n {k : Int} (h0 : 0 ≤ p) (hc : tx p = k) (hk : tLet k = true) (hm : k ≠ 109) (h1 : k ≠ 115) (h2 : k ≠ 103) (h3 : k ≠ 114) (hw : ¬ (0 ≤ dG n tx (p + 1) ∧ dG n tx (p + 1) ≤ 2)) : (tCm n tx (true, p) lo R).1 = (false, p + 1) := by
  rw [tCm_o hc hk hm, tDg_n (by omega) (by omega)]
  unfold tCk
  rw [if_neg h1, if_neg h2, if_neg h3]
  rfl
theorem cmd_s (h0 : 0 ≤ p) (hp : p < n) (hc : tx p = 115) : (cF n tx 1 (p + 1) 5 0 = 5 ∧ tCm n tx (true, p) lo R = ((true, p + 1 + 5), (if atT R 6 (dG n tx (p + 1)) (nG n tx (p + 2)) (nG n tx (p + 2 + 2)) = true then lo else lo + 1), atR R 6 (dG n tx (p + 1)) (nG n tx (p + 2)) (nG n tx (p + 2 + 2)))) ∨ (cF n tx 1 (p + 1) 5 0 < 5 ∧ (tCm n tx (true, p) lo R).1 = (false, p + 1 + cF n tx 1 (p + 1) 5 0)) := by
  have hT : tCm n tx (true, p) lo R = tWr n tx (tDg n 0 2 tx (true, p + 1)).1 (tDg n 0 2 tx (true, p + 1)).2 lo R := tCm_o hc rfl (by decide)
  have hT1 : (tCm n tx (true, p) lo R).1 = (tTw n 0 tx (tCl n tx (tDg n 0 2 tx (true, p + 1)).2).2).2 := by rw [hT]; rfl
  by_cases e0 : 0 ≤ dG n tx (p + 1) ∧ dG n tx (p + 1) ≤ 2
  · rw [cF_t (c := 119) (pp := p + 1) (k' := 1) rfl (by omega) rfl (fT_w.mpr e0)]
    by_cases e1 : 0 ≤ dG n tx (p + 1 + 1) ∧ dG n tx (p + 1 + 1) ≤ 1
    · rw [cF_t (c := 67) (pp := p + 1 + 1) (k' := 2) rfl (by omega) rfl (fT_C.mpr e1)]
      by_cases e2 : (0 ≤ dG n tx (p + 1 + 1 + 1) ∧ dG n tx (p + 1 + 1 + 1) ≤ 9) ∧ nG n tx (p + 1 + 1) ≤ 15
      · have e2' : 0 ≤ nG n tx (p + 1 + 1) := by unfold nG; omega
        rw [cF_t (c := 99) (pp := p + 1 + 1 + 1) (k' := 3) rfl (by omega) rfl (fT_c.mpr ⟨e2.1, by rw [show p + 1 + 1 + 1 - 1 = p + 1 + 1 by omega]; exact ⟨e2', e2.2⟩⟩)]
        by_cases e3 : 0 ≤ dG n tx (p + 1 + 1 + 1 + 1) ∧ dG n tx (p + 1 + 1 + 1 + 1) ≤ 9
        · rw [cF_t (c := 68) (pp := p + 1 + 1 + 1 + 1) (k' := 4) rfl (by omega) rfl (fT_D.mpr e3)]
          by_cases e4 : (0 ≤ dG n tx (p + 1 + 1 + 1 + 1 + 1) ∧ dG n tx (p + 1 + 1 + 1 + 1 + 1) ≤ 9) ∧ 0 ≤ nG n tx (p + 1 + 1 + 1 + 1)
          · left
            have e4' : nG n tx (p + 1 + 1 + 1 + 1) ≤ 99 := by unfold nG; omega
            rw [cF_t (c := 100) (pp := p + 1 + 1 + 1 + 1 + 1) (k' := 5) rfl (by omega) rfl (fT_d.mpr e4.1)]
            refine ⟨rfl, ?_⟩
            have e4z : 0 ≤ nG n tx (p + 1 + 1 + 1 + 1) := by omega
            rw [hT, tDg_y e0.1 (by omega) e0.1 e0.2]
            unfold tWr
            rw [tCl_y e1 e2.1 e2.2, tTw_y (by omega) e3 e4.1 e4.2, tEx_t, show p + 2 = p + 1 + 1 by omega, show p + 1 + 1 + 2 = p + 1 + 1 + 1 + 1 by omega, show p + 1 + 5 = p + 1 + 1 + 1 + 1 + 1 + 1 by omega, atT_w e0, atR_i e0]
            rw [show alD R 6 (dG n tx (p + 1)) (nG n tx (p + 1 + 1)) (nG n tx (p + 1 + 1 + 1 + 1)) = decide (sRe R (dG n tx (p + 1)) (nG n tx (p + 1 + 1)) = 0) from (by show (sBt _ 0 15 && (sBt _ 0 99 && _)) = _; rw [sBt_t.mpr ⟨e2', e2.2⟩, sBt_t.mpr ⟨by omega, e4'⟩]; rfl)]
            rfl
          · right
            rw [cF_f (c := 100) (pp := p + 1 + 1 + 1 + 1 + 1) rfl (by omega) (fun z => e4 ⟨fT_d.mp z, by have z2 := fT_d.mp z; unfold nG; omega⟩), hT1, tDg_y e0.1 (by omega) e0.1 e0.2, tCl_y e1 e2.1 e2.2, tTw_2 (by omega) (by omega) e3 e4]
            exact ⟨by decide, by rw [show p + 1 + 4 = p + 1 + 1 + 1 + 1 + 1 by omega]⟩
        · right
          rw [cF_f (c := 68) (pp := p + 1 + 1 + 1 + 1) rfl (by omega) (fun z => e3 (fT_D.mp z)), hT1, tDg_y e0.1 (by omega) e0.1 e0.2, tCl_y e1 e2.1 e2.2, tTw_1 (by omega) e3]
          exact ⟨by decide, by rw [show p + 1 + 3 = p + 1 + 1 + 1 + 1 by omega]⟩
      · right
        rw [cF_f (c := 99) (pp := p + 1 + 1 + 1) rfl (by omega) (fun z => e2 ⟨(fT_c.mp z).1, by have z2 := (fT_c.mp z).2; rw [show p + 1 + 1 + 1 - 1 = p + 1 + 1 by omega] at z2; exact z2.2⟩), hT1, tDg_y e0.1 (by omega) e0.1 e0.2, tCl_2 (by omega) e1 e2, tTw_F]
        exact ⟨by decide, by rw [show p + 1 + 2 = p + 1 + 1 + 1 by omega]⟩
    · right
      rw [cF_f (c := 67) (pp := p + 1 + 1) rfl (by omega) (fun z => e1 (fT_C.mp z)), hT1, tDg_y e0.1 (by omega) e0.1 e0.2, tCl_1 (by omega) e1, tTw_F]
      exact ⟨by decide, rfl⟩
  · right
    rw [cF_f (c := 119) (pp := p + 1) rfl (by omega) (fun z => e0 (fT_w.mp z)), hT1, tDg_n (by omega) (by omega), tCl_F, tTw_F]
    exact ⟨by decide, by rw [Int.add_zero]⟩
theorem cmd_g (h0 : 0 ≤ p) (hp : p < n) (hc : tx p = 103) : (cF n tx 2 (p + 1) 5 0 = 5 ∧ tCm n tx (true, p) lo R = ((true, p + 1 + 5), (if atT R 5 (dG n tx (p + 1)) (nG n tx (p + 2)) (nG n tx (p + 2 + 2)) = true then lo else lo + 1), atR R 5 (dG n tx (p + 1)) (nG n tx (p + 2)) (nG n tx (p + 2 + 2)))) ∨ (cF n tx 2 (p + 1) 5 0 < 5 ∧ (tCm n tx (true, p) lo R).1 = (false, p + 1 + cF n tx 2 (p + 1) 5 0)) := by
  have hT : tCm n tx (true, p) lo R = tRg n tx (tDg n 0 2 tx (true, p + 1)).1 (tDg n 0 2 tx (true, p + 1)).2 lo R := tCm_o hc rfl (by decide)
  have hT1 : (tCm n tx (true, p) lo R).1 = (tTw n 1 tx (tCl n tx (tDg n 0 2 tx (true, p + 1)).2).2).2 := by rw [hT]; rfl
  by_cases e0 : 0 ≤ dG n tx (p + 1) ∧ dG n tx (p + 1) ≤ 2
  · rw [cF_t (c := 119) (pp := p + 1) (k' := 1) rfl (by omega) rfl (fT_w.mpr e0)]
    by_cases e1 : 0 ≤ dG n tx (p + 1 + 1) ∧ dG n tx (p + 1 + 1) ≤ 1
    · rw [cF_t (c := 67) (pp := p + 1 + 1) (k' := 2) rfl (by omega) rfl (fT_C.mpr e1)]
      by_cases e2 : (0 ≤ dG n tx (p + 1 + 1 + 1) ∧ dG n tx (p + 1 + 1 + 1) ≤ 9) ∧ nG n tx (p + 1 + 1) ≤ 15
      · have e2' : 0 ≤ nG n tx (p + 1 + 1) := by unfold nG; omega
        rw [cF_t (c := 99) (pp := p + 1 + 1 + 1) (k' := 3) rfl (by omega) rfl (fT_c.mpr ⟨e2.1, by rw [show p + 1 + 1 + 1 - 1 = p + 1 + 1 by omega]; exact ⟨e2', e2.2⟩⟩)]
        by_cases e3 : 0 ≤ dG n tx (p + 1 + 1 + 1 + 1) ∧ dG n tx (p + 1 + 1 + 1 + 1) ≤ 9
        · rw [cF_t (c := 68) (pp := p + 1 + 1 + 1 + 1) (k' := 4) rfl (by omega) rfl (fT_D.mpr e3)]
          by_cases e4 : (0 ≤ dG n tx (p + 1 + 1 + 1 + 1 + 1) ∧ dG n tx (p + 1 + 1 + 1 + 1 + 1) ≤ 9) ∧ 1 ≤ nG n tx (p + 1 + 1 + 1 + 1)
          · left
            have e4' : nG n tx (p + 1 + 1 + 1 + 1) ≤ 99 := by unfold nG; omega
            rw [cF_t (c := 110) (pp := p + 1 + 1 + 1 + 1 + 1) (k' := 5) rfl (by omega) rfl (fT_n.mpr ⟨e4.1, by rw [show p + 1 + 1 + 1 + 1 + 1 - 1 = p + 1 + 1 + 1 + 1 by omega]; exact ⟨e4.2, e4'⟩⟩)]
            refine ⟨rfl, ?_⟩
            have e4z : 0 ≤ nG n tx (p + 1 + 1 + 1 + 1) := by omega
            rw [hT, tDg_y e0.1 (by omega) e0.1 e0.2]
            unfold tRg
            rw [tCl_y e1 e2.1 e2.2, tTw_y (by omega) e3 e4.1 e4.2, tEx_t, show p + 2 = p + 1 + 1 by omega, show p + 1 + 1 + 2 = p + 1 + 1 + 1 + 1 by omega, show p + 1 + 5 = p + 1 + 1 + 1 + 1 + 1 + 1 by omega, atT_w e0, atR_i e0]
            rw [show alD R 5 (dG n tx (p + 1)) (nG n tx (p + 1 + 1)) (nG n tx (p + 1 + 1 + 1 + 1)) = sCr R (dG n tx (p + 1)) (nG n tx (p + 1 + 1)) from (by show (sBt _ 0 15 && (sBt _ 1 99 && _)) = _; rw [sBt_t.mpr ⟨e2', e2.2⟩, sBt_t.mpr ⟨by omega, e4'⟩]; rfl)]
            rfl
          · right
            rw [cF_f (c := 110) (pp := p + 1 + 1 + 1 + 1 + 1) rfl (by omega) (fun z => e4 ⟨(fT_n.mp z).1, by have z2 := (fT_n.mp z).2; rw [show p + 1 + 1 + 1 + 1 + 1 - 1 = p + 1 + 1 + 1 + 1 by omega] at z2; exact z2.1⟩), hT1, tDg_y e0.1 (by omega) e0.1 e0.2, tCl_y e1 e2.1 e2.2, tTw_2 (by omega) (by omega) e3 e4]
            exact ⟨by decide, by rw [show p + 1 + 4 = p + 1 + 1 + 1 + 1 + 1 by omega]⟩
        · right
          rw [cF_f (c := 68) (pp := p + 1 + 1 + 1 + 1) rfl (by omega) (fun z => e3 (fT_D.mp z)), hT1, tDg_y e0.1 (by omega) e0.1 e0.2, tCl_y e1 e2.1 e2.2, tTw_1 (by omega) e3]
          exact ⟨by decide, by rw [show p + 1 + 3 = p + 1 + 1 + 1 + 1 by omega]⟩
      · right
        rw [cF_f (c := 99) (pp := p + 1 + 1 + 1) rfl (by omega) (fun z => e2 ⟨(fT_c.mp z).1, by have z2 := (fT_c.mp z).2; rw [show p + 1 + 1 + 1 - 1 = p + 1 + 1 by omega] at z2; exact z2.2⟩), hT1, tDg_y e0.1 (by omega) e0.1 e0.2, tCl_2 (by omega) e1 e2, tTw_F]
        exact ⟨by decide, by rw [show p + 1 + 2 = p + 1 + 1 + 1 by omega]⟩
    · right
      rw [cF_f (c := 67) (pp := p + 1 + 1) rfl (by omega) (fun z => e1 (fT_C.mp z)), hT1, tDg_y e0.1 (by omega) e0.1 e0.2, tCl_1 (by omega) e1, tTw_F]
      exact ⟨by decide, rfl⟩
  · right
    rw [cF_f (c := 119) (pp := p + 1) rfl (by omega) (fun z => e0 (fT_w.mp z)), hT1, tDg_n (by omega) (by omega), tCl_F, tTw_F]
    exact ⟨by decide, by rw [Int.add_zero]⟩
theorem cmd_r (h0 : 0 ≤ p) (hp : p < n) (hc : tx p = 114) : (cF n tx 3 (p + 1) 2 0 = 2 ∧ tCm n tx (true, p) lo R = ((true, p + 1 + 2), (if atT R 4 (dG n tx (p + 1)) (dG n tx (p + 2)) 0 = true then lo else lo + 1), atR R 4 (dG n tx (p + 1)) (dG n tx (p + 2)) 0)) ∨ (cF n tx 3 (p + 1) 2 0 < 2 ∧ (tCm n tx (true, p) lo R).1 = (false, p + 1 + cF n tx 3 (p + 1) 2 0)) := by
  have hT : tCm n tx (true, p) lo R = tBk n tx (tDg n 0 2 tx (true, p + 1)).1 (tDg n 0 2 tx (true, p + 1)).2 lo R := tCm_o hc rfl (by decide)
  have hT1 : (tCm n tx (true, p) lo R).1 = (tDg n 0 3 tx (tDg n 0 2 tx (true, p + 1)).2).2 := by rw [hT]; rfl
  by_cases e0 : 0 ≤ dG n tx (p + 1) ∧ dG n tx (p + 1) ≤ 2
  · rw [cF_t (c := 119) (pp := p + 1) (k' := 1) rfl (by omega) rfl (fT_w.mpr e0)]
    by_cases e1 : 0 ≤ dG n tx (p + 1 + 1) ∧ dG n tx (p + 1 + 1) ≤ 3
    · left
      rw [cF_t (c := 105) (pp := p + 1 + 1) (k' := 2) rfl (by omega) rfl (fT_i.mpr e1)]
      refine ⟨rfl, ?_⟩
      rw [hT, tDg_y e0.1 (by omega) e0.1 e0.2]
      unfold tBk
      rw [tDg_y e1.1 (by omega) e1.1 e1.2, tEx_t, show p + 2 = p + 1 + 1 by omega, show p + 1 + 2 = p + 1 + 1 + 1 by omega, atT_w e0, atR_i e0]
      rfl
    · right
      rw [cF_f (c := 105) (pp := p + 1 + 1) rfl (by omega) (fun z => e1 (fT_i.mp z)), hT1, tDg_y e0.1 (by omega) e0.1 e0.2, tDg_n (by omega) (by omega)]
      exact ⟨by decide, rfl⟩
  · right
    rw [cF_f (c := 119) (pp := p + 1) rfl (by omega) (fun z => e0 (fT_w.mp z)), hT1, tDg_n (by omega) (by omega), tDg_F]
    exact ⟨by decide, by rw [Int.add_zero]⟩
theorem cmd_m (h0 : 0 ≤ p) (hp : p < n) (hc : tx p = 109) : (cF n tx 4 (p + 1) 1 0 = 1 ∧ tCm n tx (true, p) lo R = ((true, p + 1 + 1), lo, zU R 32 (dG n tx (p + 1)))) ∨ (cF n tx 4 (p + 1) 1 0 < 1 ∧ (tCm n tx (true, p) lo R).1 = (false, p + 1 + cF n tx 4 (p + 1) 1 0)) := by
  have hT : tCm n tx (true, p) lo R = tMe n tx (true, p + 1) lo R := by
    unfold tCm
    rw [if_pos (tNx_t.mpr ⟨hp, hc⟩)]
    rfl
  by_cases e0 : 0 ≤ dG n tx (p + 1) ∧ dG n tx (p + 1) ≤ 3
  · left
    rw [cF_t (c := 109) (pp := p + 1) (k' := 1) rfl (by omega) rfl (fT_m.mpr e0)]
    refine ⟨rfl, ?_⟩
    rw [hT]
    unfold tMe
    rw [tDg_y e0.1 (by omega) e0.1 e0.2]
    rfl
  · right
    rw [cF_f (c := 109) (pp := p + 1) rfl (by omega) (fun z => e0 (fT_m.mp z)), hT]
    unfold tMe
    rw [tDg_n (by omega) (by omega)]
    exact ⟨by decide, by rw [Int.add_zero]⟩
theorem cmd_b {k : Int} {kk : Int} (h0 : 0 ≤ p) (hp : p < n) (hc : tx p = k) (hk : tLet k = true) (hm : k ≠ 109) (h1 : k ≠ 115) (h2 : k ≠ 103) (h3 : k ≠ 114) (hd : ∀ w, tBaD R k w = alD R kk w 0 0) (hr : ∀ w, tBaR R k w = opD R kk w 0 0) :
    (cF n tx 0 (p + 1) 1 0 = 1 ∧ tCm n tx (true, p) lo R = ((true, p + 1 + 1), (if atT R kk (dG n tx (p + 1)) 0 0 = true then lo else lo + 1), atR R kk (dG n tx (p + 1)) 0 0)) ∨ (cF n tx 0 (p + 1) 1 0 < 1 ∧ (tCm n tx (true, p) lo R).1 = (false, p + 1 + cF n tx 0 (p + 1) 1 0)) := by
  by_cases e0 : 0 ≤ dG n tx (p + 1) ∧ dG n tx (p + 1) ≤ 2
  · left
    rw [cF_t (c := 119) (pp := p + 1) (k' := 1) rfl (by omega) rfl (fT_w.mpr e0)]
    exact ⟨rfl, tBa_y h0 hp hc hk hm h1 h2 h3 hd hr e0⟩
  · right
    rw [cF_f (c := 119) (pp := p + 1) rfl (by omega) (fun z => e0 (fT_w.mp z)), tBa_n h0 hc hk hm h1 h2 h3 e0]
    exact ⟨by decide, by rw [Int.add_zero]⟩
theorem cmd_o (hp : p < n) (h : sHi (tx p) = 5) : (tCm n tx (true, p) lo R).1 = (false, p) := by
  have hn : tLet (tx p) = false ∧ tx p ≠ 109 ∧ tx p ≠ 115 ∧ tx p ≠ 103 ∧ tx p ≠ 114 := by
    unfold sHi at h
    (repeat' split at h) <;> first | exact absurd h (by decide) | exact ⟨decide_eq_false (by omega), by omega, by omega, by omega, by omega⟩
  unfold tCm
  rw [if_neg (by rw [tNx_f.mpr (fun e => hn.2.1 e.2)]; decide)]
  show (tCk (tx p) n tx (tDg n 0 2 tx (tAc (tLet (tx p)) (true, p))) lo R).1 = _
  rw [hn.1]
  unfold tCk
  rw [if_neg hn.2.2.1, if_neg hn.2.2.2.1, if_neg hn.2.2.2.2]
  rfl
/-- every command -/
theorem cmd (h0 : 0 ≤ p) (hp : p < n) (h5 : ¬ sHi (tx p) = 5) : (cF n tx (sHi (tx p)) (p + 1) (zLn (sHi (tx p))) 0 = (zLn (sHi (tx p)) : Nat) ∧ tCm n tx (true, p) lo R = ((true, p + 1 + (zLn (sHi (tx p)) : Nat)), (if oT n tx R p = true then lo else lo + 1), oR n tx R p)) ∨
    (cF n tx (sHi (tx p)) (p + 1) (zLn (sHi (tx p))) 0 < (zLn (sHi (tx p)) : Nat) ∧ (tCm n tx (true, p) lo R).1 = (false, p + 1 + cF n tx (sHi (tx p)) (p + 1) (zLn (sHi (tx p))) 0)) := by
  have hz : zRg n tx p = tx p := if_pos ⟨h0, hp⟩
  unfold oT oR
  rw [hz]
  rcases (show tx p = 98 ∨ tx p = 112 ∨ tx p = 100 ∨ tx p = 102 ∨ tx p = 115 ∨ tx p = 103 ∨ tx p = 114 ∨ tx p = 109 from by
    unfold sHi at h5
    (repeat' split at h5) <;> omega) with c | c | c | c | c | c | c | c
  · have q := cmd_b (n := n) (tx := tx) (p := p) (lo := lo) (R := R) (k := 98) (kk := 0) h0 hp c rfl (by decide) (by decide) (by decide) (by decide) (fun _ => rfl) (fun _ => rfl)
    rw [c]
    exact q
  · have q := cmd_b (n := n) (tx := tx) (p := p) (lo := lo) (R := R) (k := 112) (kk := 3) h0 hp c rfl (by decide) (by decide) (by decide) (by decide) (fun _ => rfl) (fun _ => rfl)
    rw [c]
    exact q
  · have q := cmd_b (n := n) (tx := tx) (p := p) (lo := lo) (R := R) (k := 100) (kk := 1) h0 hp c rfl (by decide) (by decide) (by decide) (by decide) (fun _ => rfl) (fun _ => rfl)
    rw [c]
    exact q
  · have q := cmd_b (n := n) (tx := tx) (p := p) (lo := lo) (R := R) (k := 102) (kk := 2) h0 hp c rfl (by decide) (by decide) (by decide) (by decide) (fun _ => rfl) (fun _ => rfl)
    rw [c]
    exact q
  · have q := cmd_s (n := n) (tx := tx) (p := p) (lo := lo) (R := R) h0 hp c
    rw [c]
    exact q
  · have q := cmd_g (n := n) (tx := tx) (p := p) (lo := lo) (R := R) h0 hp c
    rw [c]
    exact q
  · have q := cmd_r (n := n) (tx := tx) (p := p) (lo := lo) (R := R) h0 hp c
    rw [c]
    exact q
  · have q := cmd_m (n := n) (tx := tx) (p := p) (lo := lo) (R := R) h0 hp c
    rw [c]
    exact q
theorem tRn_F {q lo : Int} {R : Int → Int} : ∀ d : Nat, tRn d n tx ((false, q), lo, R) = ((false, q), lo, R)
  | 0 => rfl
  | d + 1 => if_neg (fun e => absurd e.1 Bool.false_ne_true)
theorem tRn_s {d : Nat} (hp : p < n) : tRn (d + 1) n tx ((true, p), lo, R) = tRn d n tx (tCm n tx (true, p) lo R) := if_pos ⟨rfl, hp⟩
theorem tRn_e {d : Nat} (hp : ¬ p < n) : tRn d n tx ((true, p), lo, R) = ((true, p), lo, R) := by
  cases d with
  | zero => rfl
  | succ d => exact if_neg (fun e => hp e.2)
theorem tRn_f1 {d : Nat} {q : Int} (hp : p < n) (h : (tCm n tx (true, p) lo R).1 = (false, q)) : (tRn (d + 1) n tx ((true, p), lo, R)).1 = (false, q) := by
  rw [tRn_s hp]
  generalize tCm n tx (true, p) lo R = Z at h ⊢
  obtain ⟨s, l, K⟩ := Z
  have h : s = (false, q) := h
  subst h
  rw [tRn_F]
theorem tAll_1 (h : 0 < n ∧ tx 0 = 87) : tAll n tx = tRn 120 n tx ((true, 1), 0, sClean) := by
  unfold tAll
  rw [tNx_t.mpr h]
  rfl
theorem tAll_0 (h : ¬ (0 < n ∧ tx 0 = 87)) : (tAll n tx).1 = (false, 0) := by
  unfold tAll
  rw [tNx_f.mpr h]
  show (tRn 120 n tx ((false, 0), 0, sClean)).1 = _
  rw [tRn_F]
end CMD
