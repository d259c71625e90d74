/-! sums -/
def zSum : Nat → (Int → Int) → Int
  | 0, _ => 0
  | n + 1, f => zSum n f + f n
theorem zSum_R {f : Int → Int} {b : Int} : ∀ (n : Nat), (∀ k : Int, 0 ≤ k → k < n → 0 ≤ f k ∧ f k ≤ b) → 0 ≤ zSum n f ∧ zSum n f ≤ n * b
  | 0, _ => by show 0 ≤ (0 : Int) ∧ (0 : Int) ≤ _; omega
  | n + 1, h => by
    have a := zSum_R n (fun k k0 k1 => h k k0 (by omega))
    have c := h n (by omega) (by omega)
    have e : ((n + 1 : Nat) : Int) * b = n * b + b := by rw [Int.natCast_add, Int.add_mul]; simp
    show 0 ≤ zSum n f + f n ∧ zSum n f + f n ≤ _
    omega
theorem zSum_c {f g : Int → Int} : ∀ (n : Nat), (∀ k : Int, 0 ≤ k → k < n → f k = g k) → zSum n f = zSum n g
  | 0, _ => rfl
  | n + 1, h => by
    show zSum n f + f n = zSum n g + g n
    rw [zSum_c n (fun k k0 k1 => h k k0 (by omega)), h n (by omega) (by omega)]
theorem zSum_1 {f : Int → Int} {n : Nat} {v : Int} (h : f n = v) : zSum n f + v = zSum (n + 1) f := by rw [← h]; rfl
def sLc (G : Int → Int) (w c : Int) : Int := if ¬ G (16 + c) = 0 ∧ (w = -1 ∨ G (16 + c) = w + 1) then 1 else 0
def sDf (T G : Int → Int) (c : Int) : Int := if T c = G c then 0 else 1
