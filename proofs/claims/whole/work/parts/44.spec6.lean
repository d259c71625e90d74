/-! the reference's object: what its methods do -/
def mFi (fi ac : Int) : Int := if ac = 14 then (fi + 1) % 16 else fi
def mAc (ac : Int) : Int := if ac = 14 then 14 else ac + 1
def mIx (fi ac : Int) : Int := (mFi fi ac + (mAc ac - 1)) % 16
/-- reading the text: places and digits -/
def tNx (n sp c : Int) (tx : Int → Int) : Bool := decide (sp < n ∧ tx sp = c)
def tD (n sp : Int) (tx : Int → Int) : Int := if sp < n then tx sp - 48 else -1
def tOk (n sp a b : Int) (tx : Int → Int) : Bool := decide ((0 ≤ tD n sp tx ∧ tD n sp tx ≤ 9) ∧ a ≤ tD n sp tx ∧ tD n sp tx ≤ b)
def tSp (gd : Bool) (sp : Int) : Int := if gd = true then sp + 1 else sp
/-- the reader's place: (is all good so far, spot) -/
abbrev zP : Type := Bool × Int
def tAc (b : Bool) (s : zP) : zP := (s.1 && b, tSp (s.1 && b) s.2)
def tDg (n a b : Int) (tx : Int → Int) (s : zP) : Int × zP := (if (s.1 && tOk n s.2 a b tx) = true then tD n s.2 tx else a, tAc (tOk n s.2 a b tx) s)
def tCl (n : Int) (tx : Int → Int) (s : zP) : Int × zP :=
  (10 * (tDg n 0 1 tx s).1 + (tDg n 0 (if (tDg n 0 1 tx s).1 = 1 then 5 else 9) tx (tDg n 0 1 tx s).2).1, (tDg n 0 (if (tDg n 0 1 tx s).1 = 1 then 5 else 9) tx (tDg n 0 1 tx s).2).2)
/-- two digits; the first not 0 or, with m = 1, the second not 0 after a 0 -/
def tTw (n m : Int) (tx : Int → Int) (s : zP) : Int × zP :=
  (10 * (tDg n 0 9 tx s).1 + (tDg n (if (tDg n 0 9 tx s).1 = 0 then m else 0) 9 tx (tDg n 0 9 tx s).2).1, (tDg n (if (tDg n 0 9 tx s).1 = 0 then m else 0) 9 tx (tDg n 0 9 tx s).2).2)
theorem tDg_R {n a b : Int} {tx : Int → Int} {s : zP} (hs : 0 ≤ s.2 ∧ s.2 ≤ n) (hab : a ≤ b) : (a ≤ (tDg n a b tx s).1 ∧ (tDg n a b tx s).1 ≤ b) ∧ 0 ≤ (tDg n a b tx s).2.2 ∧ (tDg n a b tx s).2.2 ≤ n := by
  unfold tDg tAc
  by_cases h : (s.1 && tOk n s.2 a b tx) = true
  · have h2 : tOk n s.2 a b tx = true := by cases hh : tOk n s.2 a b tx with
      | true => rfl
      | false => rw [hh, Bool.and_false] at h; exact absurd h (by decide)
    have h3 := of_decide_eq_true h2
    have h4 : s.2 < n := by unfold tD at h3; split at h3 <;> omega
    rw [if_pos h]
    unfold tSp
    rw [if_pos h]
    exact ⟨h3.2, (show 0 ≤ s.2 + 1 by omega), (show s.2 + 1 ≤ n by omega)⟩
  · rw [if_neg h]
    unfold tSp
    rw [if_neg h]
    exact ⟨⟨Int.le_refl a, hab⟩, hs.1, hs.2⟩
/-- a command that can be done is done; else it counts as left out -/
def tDo (g d : Bool) (lo : Int) : Int := if (g && !d) = true then lo + 1 else lo
