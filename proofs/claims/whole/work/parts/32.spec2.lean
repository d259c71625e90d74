/-! what changes the state: as functions of the row -/
def zFl (g : Int → Int) (p k : Int) : Int → Int := fun j => if p ≤ j ∧ j < p + k then 0 else g j
def zLk (g : Int → Int) (w k : Int) : Int → Int := fun j => if 16 ≤ j ∧ j < 16 + k ∧ g j = w + 1 then 0 else g j
theorem zU_s {g : Int → Int} {i v : Int} : zU g i v i = v := if_pos rfl
theorem zU_n {g : Int → Int} {i v j : Int} (h : j ≠ i) : zU g i v j = g j := if_neg h
theorem zU_e {g : Int → Int} {i v j : Int} (h : j = i) : zU g i v j = v := if_pos h
theorem zFl_n {g : Int → Int} {p k j : Int} (h : ¬ (p ≤ j ∧ j < p + k)) : zFl g p k j = g j := if_neg h
theorem zFl_0 {g : Int → Int} {p : Int} : zFl g p 0 = g := by funext j; unfold zFl; rw [if_neg (by omega)]
theorem zFl_s {g : Int → Int} {p k i : Int} (h : 0 ≤ k) (e : i = p + k) : zU (zFl g p k) i 0 = zFl g p (k + 1) := by
  subst e
  funext j
  unfold zU zFl
  by_cases h1 : j = p + k
  · rw [if_pos h1, if_pos (by omega)]
  · rw [if_neg h1]
    by_cases h2 : p ≤ j ∧ j < p + k
    · rw [if_pos h2, if_pos (by omega)]
    · rw [if_neg h2, if_neg (by omega)]
theorem zCpy_0 {f g : Int → Int} {sp dp : Int} : zCpy f g sp dp 0 = g := by funext j; unfold zCpy; rw [if_neg (by omega)]
theorem zCpy_s {f g : Int → Int} {sp dp k : Int} (h : 0 ≤ k) : zU (zCpy f g sp dp k) (dp + k) (f (sp + k)) = zCpy f g sp dp (k + 1) := by
  funext j
  unfold zU zCpy
  by_cases h1 : j = dp + k
  · rw [if_pos h1, if_pos (by omega), show sp + (j - dp) = sp + k by omega]
  · rw [if_neg h1]
    by_cases h2 : dp ≤ j ∧ j < dp + k
    · rw [if_pos h2, if_pos (by omega)]
    · rw [if_neg h2, if_neg (by omega)]
theorem zLk_0 {g : Int → Int} {w : Int} : zLk g w 0 = g := by funext j; unfold zLk; rw [if_neg (by omega)]
/-- a new object's row -/
def sClean : Int → Int := fun j => if j = 32 then 1 else 0
def sBegin (G : Int → Int) (w : Int) : Int → Int := zU (zU (zU (zFl G (wA w (G (at_ w 0)) 0) 13) (wA w (G (at_ w 0)) 0) (G (at_ w 1))) (wA w (G (at_ w 0)) 1) (G (at_ w 2))) (at_ w 0) (G (at_ w 0) + 1)
def sEnter (G : Int → Int) (w c : Int) : Int → Int := zU (zU G (at_ w (70 + G (at_ w 1))) (100 * c + G c)) (at_ w 1) (G (at_ w 1) + 1)
def sWrite (G : Int → Int) (w c v : Int) : Int → Int := zU (zU (sEnter (zU G (16 + c) (w + 1)) w c) c v) 34 (G 34 + 1)
def sPoint (G : Int → Int) (w : Int) : Int → Int := zU (zU (zU G (sIn G w (5 + G (sIn G w 2))) (G (at_ w 1))) (sIn G w (9 + G (sIn G w 2))) (G (at_ w 2))) (sIn G w 2) (G (sIn G w 2) + 1)
/-- one write is undone -/
def sUs (G : Int → Int) (w : Int) : Int → Int := zU (zU G (at_ w 1) (G (at_ w 1) - 1)) (G (at_ w (70 + (G (at_ w 1) - 1))) / 100) (G (at_ w (70 + (G (at_ w 1) - 1))) % 100)
def sUn : Nat → (Int → Int) → Int → (Int → Int)
  | 0, G, _ => G
  | n + 1, G, w => sUn n (sUs G w) w
def sBack (G : Int → Int) (w i : Int) : Int → Int := zU (zU (sUn (G (at_ w 1) - G (sIn G w (5 + i))).toNat G w) (at_ w 2) (G (sIn G w (9 + i)))) (sIn G w 2) (i + 1)
def sRegret (G : Int → Int) (w c n : Int) : Int → Int := zU (zU (zU G (16 + c) (w + 1)) (at_ w (710 + G (at_ w 2))) (100 * c + n)) (at_ w 2) (G (at_ w 2) + 1)
def sEnd (G : Int → Int) (w : Int) : Int → Int := zLk (zU (zU G (at_ w 1) 0) (at_ w 2) 0) w 16
def sDone (G : Int → Int) (w : Int) : Int → Int := if G (at_ w 0) = 1 then zU (sEnd (zU G (at_ w 0) (G (at_ w 0) - 1)) w) (at_ w 3) (G (at_ w 3) + 1) else zU G (at_ w 0) (G (at_ w 0) - 1)
/-- one regret is done: before that, what is logged -/
def sRl (G : Int → Int) (w : Int) (o : Bool) : Int → Int := if o = true then zU G (at_ w 2) (G (at_ w 2) - 1) else sEnter (zU G (at_ w 2) (G (at_ w 2) - 1)) w (G (at_ w (710 + (G (at_ w 2) - 1))) / 100)
def sRs (G : Int → Int) (w : Int) (o : Bool) : Int → Int := zU (zU (sRl G w o) (G (at_ w (710 + (G (at_ w 2) - 1))) / 100) ((G (G (at_ w (710 + (G (at_ w 2) - 1))) / 100) + G (at_ w (710 + (G (at_ w 2) - 1))) % 100) % 100)) 35 (G 35 + 1)
def sRn : Nat → (Int → Int) → Int → Bool → (Int → Int)
  | 0, G, _, _ => G
  | n + 1, G, w, o => sRn n (sRs G w o) w o
/-- a failure till its regrets are done -/
def sF0 (G : Int → Int) (w : Int) : Int → Int := zU (sUn (G (at_ w 1) - G (sIn G w 0)).toNat G w) (at_ w 0) (G (at_ w 0) - 1)
def sF1 (G : Int → Int) (w : Int) : Int → Int := sRn (G (at_ w 2) - G (sIn G w 1)).toNat (sF0 G w) w (decide (G (at_ w 0) = 1))
def sFail (G : Int → Int) (w : Int) : Int → Int :=
  if G (at_ w 0) = 1 then zU (sEnd (sF1 G w) w) (at_ w 4) (G (at_ w 4) + 1)
  else if sF1 G w (sIn (sF1 G w) w 3) < sF1 G w 32 then zU (zU (sF1 G w) (sIn (sF1 G w) w 3) (sF1 G w (sIn (sF1 G w) w 3) + 1)) 33 (sF1 G w 33 + 1)
  else zU (sF1 G w) (sIn (sF1 G w) w 4) 1
def sFailR (G : Int → Int) (w : Int) : Int := if G (at_ w 0) = 1 then 0 else if sF1 G w (sIn (sF1 G w) w 3) < sF1 G w 32 then 1 else 2
