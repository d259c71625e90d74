/-! the class's object, held against the reference's numbers -/
/-- saved states -/
def zSl (E : zE) (H : Heap) (r : zH) (a : Nat → Nat) (sf : Int → Bool) (KS : Int → Int → Int) : Prop := ∀ i : Nat, i < 2 → sf i = true → zSt E H r a (1024 + 64 * i) (KS i)
theorem zSl.fr {E : zE} {H H1 : Heap} {r r1 : zH} {a : Nat → Nat} {sf : Int → Bool} {KS : Int → Int → Int} {T : Nat → Prop} (h : zSl E H r a sf KS) (f : zFr H r H1 r1 T) (n : ∀ s, 1024 ≤ s → s < 1152 → ¬ T s) : zSl E H1 r1 a sf KS :=
  fun i hi hf => (h i hi hf).fr f (fun s p q => n s (by omega) (by omega))
theorem zSl.at {E : zE} {H : Heap} {r : zH} {a : Nat → Nat} {sf : Int → Bool} {KS : Int → Int → Int} (h : zSl E H r a sf KS) {i : Int} (h0 : 0 ≤ i) (h1 : i < 2) (hf : sf i = true) : zSt E H r a (1024 + 64 * i.toNat) (KS i) := by
  have k := h i.toNat (by omega)
  rw [zto h0] at k
  exact k hf
theorem zSl.set {E : zE} {H H1 : Heap} {r r1 : zH} {a a1 : Nat → Nat} {fl : Int → Bool} {F : Int → Int → Int} {T : Nat → Prop} {i : Int} {S : Int → Int} (h : zSl E H r a fl F) (f : zFr H r H1 r1 T) (h0 : 0 ≤ i) (h1 : i < 2) (n : ∀ s, 1024 ≤ s → s < 1152 → (s < 1024 + 64 * i.toNat ∨ 1088 + 64 * i.toNat ≤ s) → ¬ T s)
    (ha : ∀ s, (s < 1024 + 64 * i.toNat ∨ 1088 + 64 * i.toNat ≤ s) → a1 s = a s) (k : zSt E H1 r1 a1 (1024 + 64 * i.toNat) S) : zSl E H1 r1 a1 (fun j => if j = i then true else fl j) (fun j => if j = i then S else F j) := fun v hv hf => by
  by_cases z : (v : Int) = i
  · have z' : i.toNat = v := by omega
    dsimp only
    rw [if_pos z]
    rw [z'] at k
    exact k
  · dsimp only at hf ⊢
    rw [if_neg z] at hf ⊢
    exact ((h v hv hf).fr f (fun s p q => n s (by omega) (by omega) (by omega))).a (fun s p q => ha s (by omega))
/-- the object -/
def zFw (E : zE) (H : Heap) (r : zH) (a : Nat → Nat) (n : Int) (tx G : Int → Int) (nx cn : Int) (fl : Int → Bool) (F : Int → Int → Int) (sf : Int → Bool) (KS : Int → Int → Int) (ik : Int → Int) : Prop :=
  zO E H r 1200 (a 1200) 5 [.ref (a 1202), .ref (a 0), .ref (a 64), .ref (a 1204), .ref (a 1206), .ref (a 1207)] ∧ zRow E H r 1202 (a 1202) 120 n tx ∧ r.2 1203 = 120 ∧ zSt E H r a 0 G ∧ (∃ S : Int → Int, zSt E H r a 64 S) ∧ zHy E H r a nx cn fl F ∧
  zQr E H r 1206 (a 1206) 2 2 (zOp sf (fun i => a (1024 + 64 * i.toNat))) ∧ zSl E H r a sf KS ∧ zZ E H r 1207 (a 1207) 2 ik
/-- the states behind one another, in the class's ring and in the reference's -/
def hRel (nx ac : Int) (fl : Int → Bool) (F : Int → Int → Int) (fi : Int) (dd : Nat → Int → Int) : Prop :=
  ∀ k : Int, 0 ≤ k → k < ac → fl ((nx + 13 - k) % 14) = true ∧ ∀ j : Int, 0 ≤ j → j < 4086 → F ((nx + 13 - k) % 14) j = zDr dd ((fi + (ac - 1 - k)) % 16) j
def kRel (sf : Int → Bool) (KS : Int → Int → Int) (kp ik : Int → Int) : Prop :=
  ∀ s : Int, 0 ≤ s → s < 2 → ik s = 1 → sf s = true ∧ ∀ j : Int, 0 ≤ j → j < 4086 → KS s j = kp (4086 * s + j)
/-- the class's object and the reference's numbers -/
def zCm (E : zE) (H : Heap) (r : zH) (a : Nat → Nat) (n : Int) (tx G : Int → Int) (fi ac : Int) (dd : Nat → Int → Int) (kp ik : Int → Int) : Prop :=
  ∃ (nx : Int) (fl : Int → Bool) (F : Int → Int → Int) (sf : Int → Bool) (KS : Int → Int → Int), zFw E H r a n tx G nx ac fl F sf KS ik ∧ hRel nx ac fl F fi dd ∧ kRel sf KS kp ik
/-- bounds of what is remembered and saved -/
def cOK (n : Int) (tx G : Int → Int) (fi ac : Int) (dd : Nat → Int → Int) (kp ik : Int → Int) (N : Int) : Prop :=
  mOK n tx G fi ac ik N ∧ (∀ k : Int, 0 ≤ k → k < ac → sW (zDr dd ((fi + (ac - 1 - k)) % 16)) N) ∧ ∀ s : Int, 0 ≤ s → s < 2 → ik s = 1 → sW (fun j => kp (4086 * s + j)) N
theorem zDw_e {dd : Nat → Int → Int} {i j : Int} {G : Int → Int} (hi : 0 ≤ i ∧ i < 16) (hj : 0 ≤ j ∧ j < 4086) : zDr (zDw dd i G) i j = G j := by
  unfold zDr zDw
  rw [if_pos (by omega)]
  unfold zCpy
  rw [if_pos (by omega)]
  exact congrArg G (by omega)
theorem zDw_n {dd : Nat → Int → Int} {i i' j : Int} {G : Int → Int} (hi : 0 ≤ i ∧ i < 16) (hi' : 0 ≤ i' ∧ i' < 16) (hn : i' ≠ i) (hj : 0 ≤ j ∧ j < 4086) : zDr (zDw dd i G) i' j = zDr dd i' j := by
  unfold zDr zDw
  by_cases q : ((i' / 4).toNat : Int) = i / 4
  · rw [if_pos q]
    unfold zCpy
    rw [if_neg (by omega)]
  · rw [if_neg q]
theorem hRel.rem {nx ac fi : Int} {fl : Int → Bool} {F : Int → Int → Int} {dd : Nat → Int → Int} {G : Int → Int} (h : hRel nx ac fl F fi dd) (hn : 0 ≤ nx ∧ nx < 14) (ha : 0 ≤ ac ∧ ac ≤ 14) (hf : 0 ≤ fi ∧ fi < 16) :
    hRel ((nx + 1) % 14) (min 14 (ac + 1)) (fun j => if j = nx then true else fl j) (fun j => if j = nx then G else F j) (mFi fi ac) (zDw dd (mIx fi ac) G) := by
  have m1 : mAc ac = min 14 (ac + 1) := by unfold mAc; split <;> omega
  have hx : mIx fi ac = (mFi fi ac + (min 14 (ac + 1) - 1)) % 16 := by unfold mIx; rw [m1]
  have hfi : (ac = 14 ∧ mFi fi ac = (fi + 1) % 16) ∨ (ac < 14 ∧ mFi fi ac = fi) := by
    unfold mFi
    by_cases q : ac = 14
    · rw [if_pos q]; exact Or.inl ⟨q, rfl⟩
    · rw [if_neg q]; exact Or.inr ⟨by omega, rfl⟩
  intro k k0 k1
  by_cases z : k = 0
  · subst z
    have e : ((nx + 1) % 14 + 13 - 0) % 14 = nx := by omega
    rw [e]
    refine ⟨if_pos rfl, fun j j0 j1 => ?_⟩
    dsimp only
    rw [if_pos rfl, show (mFi fi ac + (min 14 (ac + 1) - 1 - 0)) % 16 = mIx fi ac by rw [hx]; omega]
    exact (zDw_e (by rw [hx]; omega) ⟨j0, j1⟩).symm
  · have e : ((nx + 1) % 14 + 13 - k) % 14 = (nx + 13 - (k - 1)) % 14 := by omega
    have e1 : (nx + 13 - (k - 1)) % 14 ≠ nx := by omega
    obtain ⟨g1, g2⟩ := h (k - 1) (by omega) (by omega)
    rw [e]
    refine ⟨(if_neg e1).trans g1, fun j j0 j1 => ?_⟩
    dsimp only
    rw [if_neg e1, g2 j j0 j1]
    have e2 : (mFi fi ac + (min 14 (ac + 1) - 1 - k)) % 16 = (fi + (ac - 1 - (k - 1))) % 16 := by omega
    rw [e2]
    exact (zDw_n (by rw [hx]; omega) (by omega) (by rw [hx]; omega) ⟨j0, j1⟩).symm
theorem hRel.back {nx ac fi : Int} {fl : Int → Bool} {F : Int → Int → Int} {dd : Nat → Int → Int} (h : hRel nx ac fl F fi dd) (hn : 0 ≤ nx ∧ nx < 14) (hc : 0 < ac) (h14 : ac ≤ 14) : hRel ((nx + 14 - 1) % 14) (ac - 1) fl F fi dd := fun k k0 k1 => by
  obtain ⟨g1, g2⟩ := h (k + 1) (by omega) (by omega)
  have e : ((nx + 14 - 1) % 14 + 13 - k) % 14 = (nx + 13 - (k + 1)) % 14 := by omega
  rw [e, show ac - 1 - 1 - k = ac - 1 - (k + 1) by omega]
  exact ⟨g1, g2⟩
theorem hRel.no {nx fi : Int} {fl : Int → Bool} {F : Int → Int → Int} {dd : Nat → Int → Int} : hRel nx 0 fl F fi dd := fun k k0 k1 => by omega
/-- it depends on 4086 numbers alone -/
theorem zSt.to {E : zE} {H : Heap} {r : zH} {a : Nat → Nat} {t : Nat} {G G1 : Int → Int} {N : Int} (h : zSt E H r a t G) (hG : sW G N) (e : ∀ j : Int, 0 ≤ j → j < 4086 → G1 j = G j) : zSt E H r a t G1 := by
  obtain ⟨h1, h2, h3, h4, h5⟩ := h
  refine ⟨by rw [e 32 (by omega) (by omega), e 33 (by omega) (by omega), e 34 (by omega) (by omega), e 35 (by omega) (by omega)]; exact h1, h2, h3.to (fun c p q => (e c p (by omega)).symm), h4.to (fun c p q => by rw [e (16 + c) (by omega) (by omega)]), fun v hv => ?_⟩
  have l := hG.l (w := v) ⟨by omega, by omega⟩
  exact (h5 v hv).to ⟨l.1, by omega, l.2.1, by omega⟩ (fun i p q => (hG.k (w := v) ⟨by omega, by omega⟩ p q).2.2.1.2) (fun j p q => e j (by have := at_e v 0; omega) (by have := at_e v 1350; omega))
theorem sW.cong {G G1 : Int → Int} {N : Int} (h : sW G N) (e : ∀ j : Int, 0 ≤ j → j < 4086 → G1 j = G j) : sW G1 N :=
  ⟨fun w hw => (h.1 w hw).c h.2.2.2.2 (fun j p q => e j (by have := at_e w 0; omega) (by have := at_e w 1350; omega)), fun c p q => by rw [e c p (by omega)]; exact h.2.1 c p q, fun c p q => by rw [e _ (by omega) (by omega)]; exact h.2.2.1 c p q, by rw [e 32 (by omega) (by omega)]; exact h.2.2.2.1, h.2.2.2.2⟩
/-! the room of a call -/
def zPs (r : zH) : Nat := zPh 0 r + zPh 64 r
theorem zPh_fr {H H1 : Heap} {r r1 : zH} {T : Nat → Prop} {t : Nat} (f : zFr H r H1 r1 T) (n : ∀ s, t ≤ s → s < t + 64 → ¬ T s) : zPh t r1 = zPh t r := by
  have k : ∀ s, t ≤ s → s < t + 64 → r1.2 s = r.2 s := fun s p q => f.2.2.2 s (n s p q)
  unfold zPh
  rw [k _ (by omega) (by omega), k _ (by omega) (by omega), k _ (by omega) (by omega), k _ (by omega) (by omega), k _ (by omega) (by omega), k _ (by omega) (by omega), k _ (by omega) (by omega), k _ (by omega) (by omega), k _ (by omega) (by omega), k _ (by omega) (by omega), k _ (by omega) (by omega), k _ (by omega) (by omega)]
theorem zPh_le {r r1 : zH} {t : Nat} (h : ∀ s, r.2 s ≤ r1.2 s) : zPh t r ≤ zPh t r1 := by
  have h1 := h (t + 9); have h2 := h (t + 11); have h3 := h (t + 13); have h4 := h (t + 15)
  have h5 := h (t + 25); have h6 := h (t + 27); have h7 := h (t + 29); have h8 := h (t + 31)
  have h9 := h (t + 41); have ha := h (t + 43); have hb := h (t + 45); have hc := h (t + 47)
  unfold zPh
  omega
/-- a call used no more than a copy, a new state and what its rows grew -/
def zGv (H : Heap) (r : zH) (H1 : Heap) (r1 : zH) : Prop := H1.size + zPs r ≤ H.size + zPs r1 + 66 ∧ zSz H1 + 20 * zPs r ≤ zSz H + 20 * zPs r1 + 6690
theorem zGv.rf {H : Heap} {r : zH} : zGv H r H r := ⟨by omega, by omega⟩
/-- what a call leaves -/
def zCp (E : zE) (H : Heap) (r : zH) (a : Nat → Nat) (n : Int) (tx G : Int → Int) (fi ac : Int) (dd : Nat → Int → Int) (kp ik : Int → Int) : Heap → Prop := fun H1 =>
  ∃ (r1 : zH) (a1 : Nat → Nat), a1 1200 = a 1200 ∧ zFr H r H1 r1 (fun s => s < 1300) ∧ zGv H r H1 r1 ∧ zCm E H1 r1 a1 n tx G fi ac dd kp ik
/-- a throw: which, and what it used -/
def zExs (H H1 : Heap) : Prop := zEx H H1 ∧ H1.size ≤ H.size + 1 ∧ zSz H1 ≤ zSz H + 6
def zXc (c : Int) (e1 e2 e3 : String) (H : Heap) : String → Heap → Prop := fun X H1 => ((c = 1 ∧ X = e1) ∨ (c = 2 ∧ X = e2) ∨ (c = 3 ∧ X = e3)) ∧ zExs H H1
def xB : String := "java/lang/IndexOutOfBoundsException"
def xA : String := "java/lang/IllegalArgumentException"
def xS : String := "java/lang/IllegalStateException"
def zT1x (e : String) (H : Heap) : String → Heap → Prop := fun X H1 => X = e ∧ zExs H H1
/-- it never returns -/
def zNv : Option Value → Heap → Prop := fun _ _ => False
