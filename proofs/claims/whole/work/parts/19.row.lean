/-! ghosts: each cell has a tag (r), each row's array a length (k), by its tag -/
abbrev zH : Type := (Nat → Nat) × (Nat → Nat)
/-- from a heap to a later one: only cells whose tags are in T have changed -/
def zFr (H : Heap) (r : zH) (H1 : Heap) (r1 : zH) (T : Nat → Prop) : Prop := H.size ≤ H1.size ∧ (∀ q : Nat, q < H.size → r1.1 q = r.1 q) ∧ (∀ q : Nat, q < H.size → ¬ T (r.1 q) → H1[q]? = H[q]?) ∧ ∀ t : Nat, ¬ T t → r1.2 t = r.2 t
theorem zFr.rf {H : Heap} {r : zH} {T : Nat → Prop} : zFr H r H r T := ⟨Nat.le_refl _, fun _ _ => rfl, fun _ _ _ => rfl, fun _ _ => rfl⟩
theorem zFr.tr {H H1 H2 : Heap} {r r1 r2 : zH} {T : Nat → Prop} (a : zFr H r H1 r1 T) (b : zFr H1 r1 H2 r2 T) : zFr H r H2 r2 T :=
  ⟨Nat.le_trans a.1 b.1, fun q h => (b.2.1 q (Nat.lt_of_lt_of_le h a.1)).trans (a.2.1 q h), fun q h n => (b.2.2.1 q (Nat.lt_of_lt_of_le h a.1) (by rw [a.2.1 q h]; exact n)).trans (a.2.2.1 q h n), fun t n => (b.2.2.2 t n).trans (a.2.2.2 t n)⟩
theorem zFr.up {H H1 : Heap} {r r1 : zH} {T U : Nat → Prop} (a : zFr H r H1 r1 T) (h : ∀ t, T t → U t) : zFr H r H1 r1 U := ⟨a.1, a.2.1, fun q hq n => a.2.2.1 q hq (fun z => n (h _ z)), fun t n => a.2.2.2 t (fun z => n (h _ z))⟩
theorem zCh.fr {H H1 : Heap} {q : Nat} (h : zCh H H1 q) (r : zH) : zFr H r H1 r (fun t => t = r.1 q) := ⟨Nat.le_of_eq h.1.symm, fun _ _ => rfl, fun p _ n => h.2 p (fun e => n (by rw [e])), fun _ _ => rfl⟩
/-- a new cell gets its tag -/
def zTag (r : zH) (q t : Nat) : zH := (fun p => if p = q then t else r.1 p, r.2)
/-- a row's new length -/
def zCap (r : zH) (t c : Nat) : zH := (r.1, fun p => if p = t then c else r.2 p)
theorem zTag_1 {r : zH} {q t : Nat} : (zTag r q t).1 q = t := if_pos rfl
theorem zNew.fr {H H1 : Heap} (h : zNew H H1) (r : zH) (t : Nat) (T : Nat → Prop) : zFr H r H1 (zTag r H.size t) T := ⟨by rw [h.1]; omega, fun q hq => if_neg (by omega), fun q hq _ => h.2 q hq, fun _ _ => rfl⟩
theorem zCap.fr {H : Heap} {r : zH} {t c : Nat} : zFr H r H (zCap r t c) (fun s => s = t) := ⟨Nat.le_refl _, fun _ _ => rfl, fun _ _ _ => rfl, fun s n => if_neg n⟩
/-- an object with its tag; a row of numbers with its tag -/
def zO (E : zE) (H : Heap) (r : zH) (t q ci : Nat) (fs : List Value) : Prop := zOb E H q ci fs ∧ r.1 q = t
def zA (E : zE) (H : Heap) (r : zH) (t q n : Nat) (g : Int → Int) : Prop := zIA E H q 0 n g ∧ r.1 q = t
def zQr (E : zE) (H : Heap) (r : zH) (t q k n : Nat) (g : Int → Option Nat) : Prop := zRA E H q k n g ∧ r.1 q = t
section ZFR
variable {E : zE} {H H1 : Heap} {r r1 : zH} {T : Nat → Prop} {t q ci n k : Nat} {fs : List Value} {g : Int → Int} {gr : Int → Option Nat}
theorem zO.fr (h : zO E H r t q ci fs) (f : zFr H r H1 r1 T) (n : ¬ T t) : zO E H1 r1 t q ci fs := ⟨h.1.kept (f.2.2.1 q h.1.lt (by rw [h.2]; exact n)), (f.2.1 q h.1.lt).trans h.2⟩
theorem zA.fr (h : zA E H r t q n g) (f : zFr H r H1 r1 T) (m : ¬ T t) : zA E H1 r1 t q n g := ⟨h.1.kept (f.2.2.1 q h.1.lt (by rw [h.2]; exact m)), (f.2.1 q h.1.lt).trans h.2⟩
theorem zQr.fr (h : zQr E H r t q k n gr) (f : zFr H r H1 r1 T) (m : ¬ T t) : zQr E H1 r1 t q k n gr := ⟨h.1.kept (f.2.2.1 q h.1.lt (by rw [h.2]; exact m)), (f.2.1 q h.1.lt).trans h.2⟩
end ZFR
/-- a Row: 'n' numbers 'g', at most 'most' -/
def zRow (E : zE) (H : Heap) (r : zH) (t q : Nat) (most : Nat) (n : Int) (g : Int → Int) : Prop :=
  ∃ (it : Nat) (f : Int → Int), zO E H r t q 1 [.int (iI most), .ref it, .int (iI n)] ∧ zA E H r (t + 1) it (r.2 (t + 1)) f ∧ (∀ i : Int, 0 ≤ i → i < n → f i = g i) ∧ 0 ≤ n ∧ n ≤ r.2 (t + 1) ∧ 1 ≤ r.2 (t + 1) ∧ r.2 (t + 1) ≤ most ∧ most ≤ 1024
theorem zRow.fr {E : zE} {H H1 : Heap} {r r1 : zH} {T : Nat → Prop} {t q most : Nat} {n : Int} {g : Int → Int} (h : zRow E H r t q most n g) (f : zFr H r H1 r1 T) (a : ¬ T t) (b : ¬ T (t + 1)) : zRow E H1 r1 t q most n g := by
  obtain ⟨it, f0, h1, h2, h3⟩ := h
  have e := f.2.2.2 (t + 1) b
  exact ⟨it, f0, h1.fr f a, by rw [e]; exact h2.fr f b, by rw [e]; exact h3⟩
theorem zRow.to {E : zE} {H : Heap} {r : zH} {t q most : Nat} {n : Int} {g g1 : Int → Int} (h : zRow E H r t q most n g) (e : ∀ i : Int, 0 ≤ i → i < n → g i = g1 i) : zRow E H r t q most n g1 := by
  obtain ⟨it, f0, h1, h2, h3, h4⟩ := h
  exact ⟨it, f0, h1, h2, fun i a b => (h3 i a b).trans (e i a b), h4⟩
