/-! the reference: scripts and simulations -/
theorem c_X6_tenToI {E : zE} (hst : E.1.stackTraces = false) {H : Heap} {z : Int} (m : Nat) (hz : z = (m : Int)) (hm : m ≤ 20) : zC E yX6_tenTo cX6_tenTo 4 (some .long) 0 0 [.int (iI z)] H 0 0 (zRl (zTen m) (zSm H)) zN := by
  subst hz; exact c_X6_tenTo hst hm
theorem zTen_R : ∀ m : Nat, m < 16 → 1 ≤ zTen m ∧ zTen m ≤ 1000000000000000 := by decide
/-- a script's groups, d of them to go, i done -/
def sRu : Nat → Int → Int → (Int → Int) → Int
  | 0, _, _, _ => -1
  | d + 1, s, i, K => if sDo K (s / zTen (5 * d) % 100000) = true then sRu d s (i + 1) (sDn_ K (s / zTen (5 * d) % 100000)) else i
def cRs (n s : Int) : Int := if 1 ≤ n ∧ n ≤ 3 then (if 0 ≤ s ∧ s ≤ zTen (5 * n.toNat) - 1 then 0 else 1) else 1
/-- the numbers of a simulation -/
def nxL (x : Int64) : Int64 := x * 6364136223846793005 + 1442695040888963407
def drL (x : Int64) : Int := ((x.toUInt64 >>> 33).toNat : Int)
theorem drL_R {x : Int64} : 0 ≤ drL x ∧ drL x < 2147483648 := by
  unfold drL
  have h : (x.toUInt64 >>> 33).toNat = x.toUInt64.toNat / 2 ^ 33 := by rw [UInt64.toNat_shiftRight, Nat.shiftRight_eq_div_pow]; rfl
  have h2 := x.toUInt64.toNat_lt
  rw [h]
  omega
theorem drL_e {x : Int64} : (x.toUInt64 >>> ((iI 33).toInt64.toUInt64 &&& Int64.toUInt64 63)).toInt64 = iL (drL x) := by
  have e : ((iI 33).toInt64.toUInt64 &&& Int64.toUInt64 63) = 33 := by decide
  rw [e]
  unfold drL iL
  generalize x.toUInt64 >>> 33 = u
  apply Int64.toBitVec_inj.mp
  show u.toBitVec = BitVec.ofInt 64 (u.toNat : Int)
  rw [BitVec.ofInt_natCast]
  exact (BitVec.ofNat_toNat 64 u.toBitVec).symm
def sSm (f : Int64 → Int64) (g : Int64 → Int) : Nat → Int64 → (Int → Int) → (Int → Int)
  | 0, _, K => K
  | d + 1, x, K => sSm f g d (f x) (sSt K (g (f x)))
theorem sSm_s {f : Int64 → Int64} {g : Int64 → Int} {d : Nat} {x : Int64} {K : Int → Int} : sSm f g (d + 1) x K = sSm f g d (f x) (sSt K (g (f x))) := rfl
theorem sSm_0 {f : Int64 → Int64} {g : Int64 → Int} {x : Int64} {K : Int → Int} : sSm f g 0 x K = K := rfl
def cSi (k : Int) : Int := if 1 ≤ k ∧ k ≤ 99 then 0 else 1
def vSi (x : Int64) (k : Int) (G : Int → Int) : Int := 1000 * (sSm nxL drL k.toNat x G 33 - G 33) + sSm nxL drL k.toNat x G 34 - G 34
theorem zDv {s t : Int} (h : 0 ≤ s) (ht : 1 ≤ t) : 0 ≤ s / t ∧ s / t ≤ s := ⟨Int.ediv_nonneg h (by omega), Int.ediv_le_self t h⟩
