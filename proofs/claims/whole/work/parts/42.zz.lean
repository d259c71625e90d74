/-! the reference's object -/
def zZ (E : zE) (H : Heap) (r : zH) (t q n : Nat) (g : Int → Int) : Prop := zIA E H q 1 n g ∧ r.1 q = t
section ZZ
variable {E : zE} {H H1 : Heap} {r r1 : zH} {T : Nat → Prop} {t q n : Nat} {g : Int → Int}
theorem zZ.fr (h : zZ E H r t q n g) (f : zFr H r H1 r1 T) (m : ¬ T t) : zZ E H1 r1 t q n g := ⟨h.1.kept (f.2.2.1 q h.1.lt (by rw [h.2]; exact m)), (f.2.1 q h.1.lt).trans h.2⟩
theorem zZ.ch (h : zZ E H r t q n g) (c : zCh H H1 q) : zFr H r H1 r (fun s => s = t) := by rw [← h.2]; exact c.fr r
/-- its fields -/
def zMo (E : zE) (H : Heap) (r : zH) (q : Nat) (Q : Nat → Nat) (rf n sp : Int) (gd : Bool) (lo fi ac : Int) : Prop :=
  zO E H r 100000 q 6 [.int (iI rf), .ref (Q 1), .int (iI n), .int (iI sp), .int (iI (zb gd)), .int (iI lo), .ref (Q 2), .ref (Q 3), .ref (Q 4), .ref (Q 5), .ref (Q 6), .ref (Q 7), .ref (Q 8), .int (iI fi), .int (iI ac), .ref (Q 9), .ref (Q 10)]
def zDy (E : zE) (H : Heap) (r : zH) (Q : Nat → Nat) (dd : Nat → Int → Int) : Prop := zA E H r 100005 (Q 5) 16344 (dd 0) ∧ zA E H r 100006 (Q 6) 16344 (dd 1) ∧ zA E H r 100007 (Q 7) 16344 (dd 2) ∧ zA E H r 100008 (Q 8) 16344 (dd 3)
theorem zDy.fr {Q : Nat → Nat} {dd : Nat → Int → Int} (h : zDy E H r Q dd) (f : zFr H r H1 r1 T) (a : ¬ T 100005) (b : ¬ T 100006) (c : ¬ T 100007) (d : ¬ T 100008) : zDy E H1 r1 Q dd := ⟨h.1.fr f a, h.2.1.fr f b, h.2.2.1.fr f c, h.2.2.2.fr f d⟩
/-- a state is laid down in the diary -/
def zDw (dd : Nat → Int → Int) (i : Int) (G : Int → Int) : Nat → Int → Int := fun k => if (k : Int) = i / 4 then zCpy G (dd k) 0 (4086 * (i % 4)) 4086 else dd k
/-- a state is taken up -/
def zDr (dd : Nat → Int → Int) (i : Int) : Int → Int := fun j => dd (i / 4).toNat (4086 * (i % 4) + j)
def zTen : Nat → Int
  | 0 => 1
  | n + 1 => zTen n * 10
end ZZ
