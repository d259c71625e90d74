/-! the reference's object as a whole -/
def zMs (E : zE) (H : Heap) (r : zH) (q : Nat) (Q : Nat → Nat) (n : Int) (tx G : Int → Int) (fi ac : Int) (dd : Nat → Int → Int) (kp ik : Int → Int) (rf : Int) : Prop :=
  ∃ (sp : Int) (gd : Bool) (lo : Int) (rd tr : Int → Int), zMo E H r q Q rf n sp gd lo fi ac ∧ zA E H r 100001 (Q 1) 120 tx ∧ zA E H r 100002 (Q 2) 4086 rd ∧ zA E H r 100003 (Q 3) 4086 G ∧ zA E H r 100004 (Q 4) 4086 tr ∧ zDy E H r Q dd ∧ zA E H r 100009 (Q 9) 8172 kp ∧ zZ E H r 100010 (Q 10) 2 ik
/-- what holds of its numbers -/
def mOK (n : Int) (tx G : Int → Int) (fi ac : Int) (ik : Int → Int) (N : Int) : Prop :=
  (0 ≤ n ∧ n ≤ 120) ∧ (∀ j : Int, 0 ≤ j → j < n → 0 ≤ tx j ∧ tx j ≤ 255) ∧ sW G N ∧ N ≤ 639 ∧ (0 ≤ fi ∧ fi < 16) ∧ (0 ≤ ac ∧ ac ≤ 14) ∧ ∀ j : Int, 0 ≤ j → j < 2 → 0 ≤ ik j ∧ ik j ≤ 1
def cApp (n v : Int) : Int := if 0 ≤ v ∧ v ≤ 255 then (if n = 120 then 2 else 0) else 1
def tPos (n : Int) (tx : Int → Int) : Int := if (tAll n tx).1.1 = true then -1 else (tAll n tx).1.2
theorem tPos_t {n : Int} {tx : Int → Int} (h : (tAll n tx).1.1 = true) : tPos n tx = -1 := if_pos h
theorem zCpy_all {f g : Int → Int} {j : Int} (h0 : 0 ≤ j) (h1 : j < 4086) : zCpy f g 0 0 4086 j = f j := by unfold zCpy; rw [if_pos (by omega)]; exact congrArg f (by omega)
