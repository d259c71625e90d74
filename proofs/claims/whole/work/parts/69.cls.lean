/-! the class's objects over the reference's row: a worker, a state -/
/-- its works, from the tag t on -/
def zWs (E : zE) (H : Heap) (r : zH) (a : Nat → Nat) (t : Nat) (V : Int → Int → Int) : Prop :=
  ∀ i : Nat, i < 5 → zO E H r (t + i) (a (t + i)) 3 [.int (iI (V i 0)), .int (iI (V i 1)), .int (iI (V i 2)), .int (iI (V i 3)), .int (iI (V i 4))]
theorem zWs.fr {E : zE} {H H1 : Heap} {r r1 : zH} {a : Nat → Nat} {t : Nat} {V : Int → Int → Int} {T : Nat → Prop} (h : zWs E H r a t V) (f : zFr H r H1 r1 T) (n : ∀ s, t ≤ s → s < t + 5 → ¬ T s) : zWs E H1 r1 a t V :=
  fun i hi => (h i hi).fr f (n _ (by omega) (by omega))
theorem zWs.at {E : zE} {H : Heap} {r : zH} {a : Nat → Nat} {t : Nat} {V : Int → Int → Int} (h : zWs E H r a t V) {e : Int} (h0 : 0 ≤ e) (h1 : e < 5) : zO E H r (t + e.toNat) (a (t + e.toNat)) 3 [.int (iI (V e 0)), .int (iI (V e 1)), .int (iI (V e 2)), .int (iI (V e 3)), .int (iI (V e 4))] := by
  have k := h e.toNat (by omega)
  rw [zto h0] at k
  exact k
/-- one work's numbers are others -/
def zVs (V : Int → Int → Int) (e v0 v1 v2 v3 v4 : Int) : Int → Int → Int := fun i k => if i = e then (if k = 0 then v0 else if k = 1 then v1 else if k = 2 then v2 else if k = 3 then v3 else v4) else V i k
theorem zVs_n {V : Int → Int → Int} {e v0 v1 v2 v3 v4 i k : Int} (h : i ≠ e) : zVs V e v0 v1 v2 v3 v4 i k = V i k := if_neg h
theorem zVs_e {V : Int → Int → Int} {e v0 v1 v2 v3 v4 k : Int} : zVs V e v0 v1 v2 v3 v4 e k = (if k = 0 then v0 else if k = 1 then v1 else if k = 2 then v2 else if k = 3 then v3 else v4) := if_pos rfl
theorem zWs.set {E : zE} {H H1 : Heap} {r r1 : zH} {a : Nat → Nat} {t : Nat} {V : Int → Int → Int} {T : Nat → Prop} {e v0 v1 v2 v3 v4 : Int} (h : zWs E H r a t V) (f : zFr H r H1 r1 T) (h0 : 0 ≤ e) (h1 : e < 5) (n : ∀ s, t ≤ s → s < t + 5 → s ≠ t + e.toNat → ¬ T s)
    (o : zO E H1 r1 (t + e.toNat) (a (t + e.toNat)) 3 [.int (iI v0), .int (iI v1), .int (iI v2), .int (iI v3), .int (iI v4)]) : zWs E H1 r1 a t (zVs V e v0 v1 v2 v3 v4) := fun i hi => by
  by_cases q : (i : Int) = e
  · have q' : e.toNat = i := by omega
    rw [q, zVs_e, zVs_e, zVs_e, zVs_e, zVs_e]
    rw [q'] at o
    exact o
  · rw [zVs_n q, zVs_n q, zVs_n q, zVs_n q, zVs_n q]
    exact (h i hi).fr f (n _ (by omega) (by omega) (by omega))
/-- how a work's numbers and the rows of points are those of the reference's row -/
def gWk (G : Int → Int) (w i np : Int) (f1 f2 : Int → Int) (V : Int → Int → Int) : Prop :=
  V i 0 = G (wA w i 0) ∧ V i 1 = G (wA w i 1) ∧ V i 3 = G (wA w i 3) ∧ V i 4 = G (wA w i 4) ∧ (if i + 1 < G (at_ w 0) then V (i + 1) 2 else np) - V i 2 = G (wA w i 2) ∧ (0 ≤ V i 2 ∧ V i 2 ≤ 4 * i) ∧
  ∀ j : Int, 0 ≤ j → j < G (wA w i 2) → f1 (V i 2 + j) = G (wA w i (5 + j)) ∧ f2 (V i 2 + j) = G (wA w i (9 + j))
def gRl (G : Int → Int) (w np : Int) (f1 f2 : Int → Int) (V : Int → Int → Int) : Prop :=
  (0 ≤ G (at_ w 0) ∧ G (at_ w 0) ≤ 5) ∧ (0 ≤ np ∧ np ≤ 4 * G (at_ w 0)) ∧ (∀ i : Int, 0 ≤ i → i < G (at_ w 0) → gWk G w i np f1 f2 V) ∧
  (∀ i i' : Int, 0 ≤ i → i ≤ i' → i' < G (at_ w 0) → V i 2 ≤ V i' 2) ∧ ∀ i : Int, 0 ≤ i → i < G (at_ w 0) → V i 2 ≤ np
/-- a worker: its own number w, from the tag t on -/
def zWd (E : zE) (H : Heap) (r : zH) (a : Nat → Nat) (t : Nat) (w : Int) (G : Int → Int) (np : Int) (f1 f2 : Int → Int) (V : Int → Int → Int) : Prop :=
  zO E H r t (a t) 4 [.int (iI w), .ref (a (t + 1)), .ref (a (t + 2)), .ref (a (t + 4)), .ref (a (t + 6)), .ref (a (t + 8)), .int (iI (G (at_ w 0))), .int (iI (G (at_ w 3))), .int (iI (G (at_ w 4)))] ∧
  zQr E H r (t + 1) (a (t + 1)) 4 5 (fun i => some (a (t + 10 + i.toNat))) ∧ zRow E H r (t + 2) (a (t + 2)) 1024 (G (at_ w 1)) (fun k => G (at_ w (70 + k))) ∧ zRow E H r (t + 4) (a (t + 4)) 1024 (G (at_ w 2)) (fun k => G (at_ w (710 + k))) ∧
  zRow E H r (t + 6) (a (t + 6)) 20 np f1 ∧ zRow E H r (t + 8) (a (t + 8)) 20 np f2 ∧ zWs E H r a (t + 10) V ∧ gRl G w np f1 f2 V
def zWkr (E : zE) (H : Heap) (r : zH) (a : Nat → Nat) (t : Nat) (w : Int) (G : Int → Int) : Prop := ∃ (np : Int) (f1 f2 : Int → Int) (V : Int → Int → Int), zWd E H r a t w G np f1 f2 V
section ZWK
variable {E : zE} {H H1 : Heap} {r r1 : zH} {a : Nat → Nat} {t : Nat} {w : Int} {G G1 : Int → Int} {T : Nat → Prop}
theorem zWkr.fr (h : zWkr E H r a t w G) (f : zFr H r H1 r1 T) (n : ∀ s, t ≤ s → s < t + 16 → ¬ T s) : zWkr E H1 r1 a t w G := by
  obtain ⟨np, f1, f2, V, h1, h2, h3, h4, h5, h6, h7, h8⟩ := h
  exact ⟨np, f1, f2, V, h1.fr f (n _ (by omega) (by omega)), h2.fr f (n _ (by omega) (by omega)), h3.fr f (n _ (by omega) (by omega)) (n _ (by omega) (by omega)), h4.fr f (n _ (by omega) (by omega)) (n _ (by omega) (by omega)),
    h5.fr f (n _ (by omega) (by omega)) (n _ (by omega) (by omega)), h6.fr f (n _ (by omega) (by omega)) (n _ (by omega) (by omega)), h7.fr f (fun s a b => n s (by omega) (by omega)), h8⟩
/-- it depends on the row's own part alone -/
theorem zWkr.to (h : zWkr E H r a t w G) (hG : 0 ≤ G (at_ w 1) ∧ G (at_ w 1) ≤ 640 ∧ 0 ≤ G (at_ w 2) ∧ G (at_ w 2) ≤ 640) (hk : ∀ i : Int, 0 ≤ i → i < G (at_ w 0) → G (wA w i 2) ≤ 4) (e : ∀ j : Int, at_ w 0 ≤ j → j < at_ w 1350 → G1 j = G j) : zWkr E H r a t w G1 := by
  obtain ⟨np, f1, f2, V, h1, h2, h3, h4, h5, h6, h7, h8, h9, h10, h11⟩ := h
  have q : ∀ k : Int, 0 ≤ k → k < 1350 → G1 (at_ w k) = G (at_ w k) := fun k a b => e _ (by rw [at_e, at_e]; omega) (by rw [at_e, at_e]; omega)
  refine ⟨np, f1, f2, V, by rw [q 0 (by omega) (by omega), q 3 (by omega) (by omega), q 4 (by omega) (by omega)]; exact h1, h2, ?_, ?_, h5, h6, h7, ?_⟩
  · rw [q 1 (by omega) (by omega)]
    exact h3.to (fun k a b => (q _ (by omega) (by omega)).symm)
  · rw [q 2 (by omega) (by omega)]
    exact h4.to (fun k a b => (q _ (by omega) (by omega)).symm)
  · unfold gRl
    rw [q 0 (by omega) (by omega)]
    refine ⟨h8, h9, fun i a b => ?_, h11⟩
    have p : ∀ k : Int, 0 ≤ k → k ≤ 12 → G1 (wA w i k) = G (wA w i k) := fun k c d => by
      unfold wA
      exact q _ (by omega) (by omega)
    obtain ⟨g0, g1, g3, g4, g2, g5, g6⟩ := h10 i a b
    unfold gWk
    rw [q 0 (by omega) (by omega), p 0 (by omega) (by omega), p 1 (by omega) (by omega), p 2 (by omega) (by omega), p 3 (by omega) (by omega), p 4 (by omega) (by omega)]
    refine ⟨g0, g1, g3, g4, g2, g5, fun j c d => ?_⟩
    have := hk i a b
    rw [p _ (by omega) (by omega), p _ (by omega) (by omega)]
    exact g6 j c d
end ZWK
/-- the other workers of the state at t -/
def zOth (E : zE) (H : Heap) (r : zH) (a : Nat → Nat) (t : Nat) (w : Int) (G : Int → Int) : Prop := ∀ v : Nat, v < 3 → (v : Int) ≠ w → zWkr E H r a (t + 6 + 16 * v) v G
theorem zOth.fr {E : zE} {H H1 : Heap} {r r1 : zH} {a : Nat → Nat} {t : Nat} {w : Int} {G : Int → Int} {T : Nat → Prop} (h : zOth E H r a t w G) (f : zFr H r H1 r1 T) (n : ∀ s, t + 6 ≤ s → s < t + 54 → (s < t + 6 + 16 * w.toNat ∨ t + 22 + 16 * w.toNat ≤ s) → ¬ T s) (hw : 0 ≤ w) : zOth E H1 r1 a t w G :=
  fun v hv hn => (h v hv hn).fr f (fun s p q => n s (by omega) (by omega) (by omega))
/-- a state, from the tag t on -/
def zSt (E : zE) (H : Heap) (r : zH) (a : Nat → Nat) (t : Nat) (G : Int → Int) : Prop :=
  zO E H r t (a t) 2 [.ref (a (t + 2)), .ref (a (t + 4)), .ref (a (t + 1)), .int (iI (G 32)), .int (iI (G 33)), .int (iI (G 34)), .int (iI (G 35))] ∧
  zQr E H r (t + 1) (a (t + 1)) 3 3 (fun i => some (a (t + 6 + 16 * i.toNat))) ∧ zRow E H r (t + 2) (a (t + 2)) 16 16 G ∧ zRow E H r (t + 4) (a (t + 4)) 16 16 (fun c => G (16 + c) - 1) ∧
  ∀ v : Nat, v < 3 → zWkr E H r a (t + 6 + 16 * v) v G
theorem zSt.fr {E : zE} {H H1 : Heap} {r r1 : zH} {a : Nat → Nat} {t : Nat} {G : Int → Int} {T : Nat → Prop} (h : zSt E H r a t G) (f : zFr H r H1 r1 T) (n : ∀ s, t ≤ s → s < t + 54 → ¬ T s) : zSt E H1 r1 a t G := by
  obtain ⟨h1, h2, h3, h4, h5⟩ := h
  exact ⟨h1.fr f (n _ (by omega) (by omega)), h2.fr f (n _ (by omega) (by omega)), h3.fr f (n _ (by omega) (by omega)) (n _ (by omega) (by omega)), h4.fr f (n _ (by omega) (by omega)) (n _ (by omega) (by omega)), fun v hv => (h5 v hv).fr f (fun s p q => n s (by omega) (by omega))⟩
/-- one worker, the others -/
theorem zSt_w {E : zE} {H : Heap} {r : zH} {a : Nat → Nat} {t : Nat} {G : Int → Int} {w : Int} (h : ∀ v : Nat, v < 3 → zWkr E H r a (t + 6 + 16 * v) v G) (hw : 0 ≤ w ∧ w ≤ 2) : zWkr E H r a (t + 6 + 16 * w.toNat) w G ∧ zOth E H r a t w G := by
  have k := h w.toNat (by omega)
  rw [zto hw.1] at k
  exact ⟨k, fun v hv _ => h v hv⟩
theorem zSt_a {E : zE} {H : Heap} {r : zH} {a : Nat → Nat} {t : Nat} {G : Int → Int} {w : Int} (hw : 0 ≤ w ∧ w ≤ 2) (k : zWkr E H r a (t + 6 + 16 * w.toNat) w G) (o : zOth E H r a t w G) : ∀ v : Nat, v < 3 → zWkr E H r a (t + 6 + 16 * v) v G := fun v hv => by
  by_cases q : (v : Int) = w
  · have q' : w.toNat = v := by omega
    rw [q'] at k
    rw [q]
    exact k
  · exact o v hv q
theorem zOth.to {E : zE} {H : Heap} {r : zH} {a : Nat → Nat} {t : Nat} {G G1 : Int → Int} {w N : Int} (h : zOth E H r a t w G) (hG : sW G N) (e : ∀ j : Int, 36 ≤ j → ¬ (at_ w 0 ≤ j ∧ j < at_ w 1350) → G1 j = G j) : zOth E H r a t w G1 := fun v hv hn => by
  have l := hG.l (w := v) ⟨by omega, by omega⟩
  refine (h v hv hn).to ⟨l.1, by omega, l.2.1, by omega⟩ (fun i a b => (hG.k (w := v) ⟨by omega, by omega⟩ a b).2.2.1.2) (fun j p q => e j ?_ ?_)
  · have := at_e v 0; omega
  · have := at_e v 0; have := at_e v 1350; have := at_e w 0; have := at_e w 1350; omega
/-! what the rows of a state may yet grow -/
def zPh (t : Nat) (r : zH) : Nat := (r.2 (t + 9) + r.2 (t + 11) + r.2 (t + 13) + r.2 (t + 15)) + (r.2 (t + 25) + r.2 (t + 27) + r.2 (t + 29) + r.2 (t + 31)) + (r.2 (t + 41) + r.2 (t + 43) + r.2 (t + 45) + r.2 (t + 47))
theorem zPh_up {t w d m s : Nat} {r r1 : zH} (e : r1.2 = (zCap r s m).2) (hs : s = t + 9 + 16 * w + 2 * d) (hw : w < 3) (hd : d < 4) : zPh t r1 + r.2 s = zPh t r + m := by
  have k : ∀ p : Nat, r1.2 p = if p = s then m else r.2 p := fun p => by rw [e]; rfl
  have hh : (w = 0 ∨ w = 1 ∨ w = 2) ∧ (d = 0 ∨ d = 1 ∨ d = 2 ∨ d = 3) := by omega
  unfold zPh
  rw [k, k, k, k, k, k, k, k, k, k, k, k]
  obtain ⟨rfl | rfl | rfl, rfl | rfl | rfl | rfl⟩ := hh <;> simp only [Nat.add_assoc, Nat.reduceMul, Nat.reduceAdd] at hs <;> subst hs <;> simp <;> omega
/-- the room that was used went into rows that grew -/
def zGw (t : Nat) (H : Heap) (r : zH) (H1 : Heap) (r1 : zH) : Prop := H1.size + zPh t r ≤ H.size + zPh t r1 ∧ zSz H1 + 20 * zPh t r ≤ zSz H + 20 * zPh t r1
theorem zGw.tr {t : Nat} {H H1 H2 : Heap} {r r1 r2 : zH} (a : zGw t H r H1 r1) (b : zGw t H1 r1 H2 r2) : zGw t H r H2 r2 := by
  obtain ⟨a1, a2⟩ := a
  obtain ⟨b1, b2⟩ := b
  exact ⟨by omega, by omega⟩
theorem zGw.rf {t : Nat} {H : Heap} {r : zH} : zGw t H r H r := ⟨Nat.le_refl _, Nat.le_refl _⟩
theorem zGw.o {t : Nat} {H H1 : Heap} {r : zH} (h1 : H1.size ≤ H.size + 0) (h2 : zSz H1 ≤ zSz H + 0) : zGw t H r H1 r := ⟨by omega, by omega⟩
/-- what an operation on the state at t leaves -/
def zUp (E : zE) (H : Heap) (r : zH) (a : Nat → Nat) (t : Nat) (G1 : Int → Int) : Heap → Prop := fun H1 => ∃ r1 : zH, zFr H r H1 r1 (fun s => t ≤ s ∧ s < t + 64) ∧ zGw t H r H1 r1 ∧ zSt E H1 r1 a t G1
theorem zRow.cap {E : zE} {H : Heap} {r : zH} {t q most : Nat} {n : Int} {g : Int → Int} (h : zRow E H r t q most n g) : r.2 (t + 1) ≤ most ∧ most ≤ 1024 := by
  obtain ⟨it, f, -, -, -, -, -, -, h1, h2⟩ := h
  exact ⟨h1, h2⟩
theorem zRow.n {E : zE} {H : Heap} {r : zH} {t q most : Nat} {n : Int} {g : Int → Int} (h : zRow E H r t q most n g) : 0 ≤ n ∧ n ≤ most := by
  obtain ⟨it, f, -, -, -, h0, h1, -, h2, -⟩ := h
  exact ⟨h0, by omega⟩
theorem zPc_R {c most : Nat} {n : Int} (h : c ≤ most) (hn : 0 ≤ n) : c ≤ zPc c most n ∧ zPc c most n ≤ most := by
  unfold zPc
  split <;> omega
