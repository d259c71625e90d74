/-! the reference: reading one command -/
theorem tCl_R {n : Int} {tx : Int → Int} {s : zP} (hs : 0 ≤ s.2 ∧ s.2 ≤ n) : (0 ≤ (tCl n tx s).1 ∧ (tCl n tx s).1 < 16) ∧ 0 ≤ (tCl n tx s).2.2 ∧ (tCl n tx s).2.2 ≤ n := by
  have a := tDg_R (a := 0) (b := 1) (tx := tx) hs (by omega)
  have b := tDg_R (a := 0) (b := if (tDg n 0 1 tx s).1 = 1 then 5 else 9) (tx := tx) a.2 (by split <;> omega)
  have c := b.1.2
  refine ⟨⟨?_, ?_⟩, b.2⟩
  · show 0 ≤ 10 * (tDg n 0 1 tx s).1 + _; omega
  · show 10 * (tDg n 0 1 tx s).1 + _ < 16
    by_cases h : (tDg n 0 1 tx s).1 = 1
    · rw [if_pos h] at c ⊢; omega
    · rw [if_neg h] at c ⊢; omega
theorem tTw_R {n m : Int} {tx : Int → Int} {s : zP} (hs : 0 ≤ s.2 ∧ s.2 ≤ n) (hm : 0 ≤ m ∧ m ≤ 1) : (m ≤ (tTw n m tx s).1 ∧ (tTw n m tx s).1 ≤ 99) ∧ 0 ≤ (tTw n m tx s).2.2 ∧ (tTw n m tx s).2.2 ≤ n := by
  have a := tDg_R (a := 0) (b := 9) (tx := tx) hs (by omega)
  have b := tDg_R (a := if (tDg n 0 9 tx s).1 = 0 then m else 0) (b := 9) (tx := tx) a.2 (by split <;> omega)
  have c := b.1.1
  refine ⟨⟨?_, ?_⟩, b.2⟩
  · show m ≤ 10 * (tDg n 0 9 tx s).1 + _
    by_cases h : (tDg n 0 9 tx s).1 = 0
    · rw [if_pos h] at c ⊢; omega
    · rw [if_neg h] at c ⊢; omega
  · show 10 * (tDg n 0 9 tx s).1 + _ ≤ 99
    omega
/-- (place, how many left out, the row) -/
abbrev zT : Type := zP × Int × (Int → Int)
def tEx (s : zP) (d : Bool) (lo : Int) (R R1 : Int → Int) : zT := (s, tDo s.1 d lo, if (s.1 && d) = true then R1 else R)
def tWr (n : Int) (tx : Int → Int) (w : Int) (s : zP) (lo : Int) (R : Int → Int) : zT :=
  tEx (tTw n 0 tx (tCl n tx s).2).2 (decide (sRe R w (tCl n tx s).1 = 0)) lo R (sWrite R w (tCl n tx s).1 (tTw n 0 tx (tCl n tx s).2).1)
def tRg (n : Int) (tx : Int → Int) (w : Int) (s : zP) (lo : Int) (R : Int → Int) : zT :=
  tEx (tTw n 1 tx (tCl n tx s).2).2 (sCr R w (tCl n tx s).1) lo R (sRegret R w (tCl n tx s).1 (tTw n 1 tx (tCl n tx s).2).1)
def tBk (n : Int) (tx : Int → Int) (w : Int) (s : zP) (lo : Int) (R : Int → Int) : zT :=
  tEx (tDg n 0 3 tx s).2 (sHp R w (tDg n 0 3 tx s).1 && !sSp R w) lo R (sBack R w (tDg n 0 3 tx s).1)
def tBaD (R : Int → Int) (k w : Int) : Bool := if k = 98 then sCb R w else if k = 112 then sCp R w else if k = 100 then sOp R w else decide (0 < R (at_ w 0))
def tBaR (R : Int → Int) (k w : Int) : Int → Int := if k = 98 then sBegin R w else if k = 112 then sPoint R w else if k = 100 then sDone R w else sFail R w
def tBa (k w : Int) (s : zP) (lo : Int) (R : Int → Int) : zT := tEx s (tBaD R k w) lo R (tBaR R k w)
