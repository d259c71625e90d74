/-! how the operations on a worker keep the relation of its works to the row (written by program: wip/whole/gen/rel.py) -/
theorem zWkr.mk {E : zE} {H : Heap} {r : zH} {a : Nat → Nat} {t : Nat} {w : Int} {G : Int → Int} {np n1 n2 d ow ob : Int} {g1 g2 f1 f2 : Int → Int} {V : Int → Int → Int}
    (hO : zO E H r t (a t) 4 [.int (iI w), .ref (a (t + 1)), .ref (a (t + 2)), .ref (a (t + 4)), .ref (a (t + 6)), .ref (a (t + 8)), .int (iI d), .int (iI ow), .int (iI ob)])
    (hQ : zQr E H r (t + 1) (a (t + 1)) 4 5 (fun i => some (a (t + 10 + i.toNat)))) (hL : zRow E H r (t + 2) (a (t + 2)) 1024 n1 g1) (hR : zRow E H r (t + 4) (a (t + 4)) 1024 n2 g2)
    (hp : zRow E H r (t + 6) (a (t + 6)) 20 np f1) (hq : zRow E H r (t + 8) (a (t + 8)) 20 np f2) (hW : zWs E H r a (t + 10) V)
    (e0 : G (at_ w 0) = d) (e3 : G (at_ w 3) = ow) (e4 : G (at_ w 4) = ob) (e1 : G (at_ w 1) = n1) (e2 : G (at_ w 2) = n2) (eL : ∀ k : Int, 0 ≤ k → k < n1 → g1 k = G (at_ w (70 + k))) (eR : ∀ k : Int, 0 ≤ k → k < n2 → g2 k = G (at_ w (710 + k))) (hg : gRl G w np f1 f2 V) : zWkr E H r a t w G := by
  subst e0 e1 e2 e3 e4
  exact ⟨np, f1, f2, V, hO, hQ, hL.to eL, hR.to eR, hp, hq, hW, hg⟩
section REL
variable {G : Int → Int} {w N np : Int} {f1 f2 : Int → Int} {V : Int → Int → Int}
theorem sBegin_at (hw : 0 ≤ w) (hd : 0 ≤ G (at_ w 0) ∧ G (at_ w 0) < 5) : sBegin G w (at_ w 0) = G (at_ w 0) + 1 ∧ sBegin G w (at_ w 1) = G (at_ w 1) ∧ sBegin G w (at_ w 2) = G (at_ w 2) ∧ sBegin G w (at_ w 3) = G (at_ w 3) ∧ sBegin G w (at_ w 4) = G (at_ w 4) ∧
    (∀ k : Int, 70 ≤ k → sBegin G w (at_ w k) = G (at_ w k)) ∧ (∀ i k : Int, 0 ≤ i → i < G (at_ w 0) → 0 ≤ k → k ≤ 12 → sBegin G w (wA w i k) = G (wA w i k)) ∧
    sBegin G w (wA w (G (at_ w 0)) 0) = G (at_ w 1) ∧ sBegin G w (wA w (G (at_ w 0)) 1) = G (at_ w 2) ∧ ∀ k : Int, 2 ≤ k → k ≤ 12 → sBegin G w (wA w (G (at_ w 0)) k) = 0 := by
  have e : ∀ j : Int, sBegin G w j = if j = 36 + 1350 * w + 0 then G (at_ w 0) + 1 else if j = 36 + 1350 * w + (5 + 13 * G (at_ w 0) + 1) then G (36 + 1350 * w + 2) else if j = 36 + 1350 * w + (5 + 13 * G (at_ w 0) + 0) then G (36 + 1350 * w + 1) else if 36 + 1350 * w + (5 + 13 * G (at_ w 0) + 0) ≤ j ∧ j < 36 + 1350 * w + (5 + 13 * G (at_ w 0) + 0) + 13 then 0 else G j := fun j => rfl
  generalize G (at_ w 0) = d at *
  refine ⟨?_, ?_, ?_, ?_, ?_, fun k a => ?_, fun i k a b c d' => ?_, ?_, ?_, fun k a b => ?_⟩
  all_goals
    simp only [wA_e, at_e]
    rw [e]
    (repeat first | rw [if_pos (by omega)] | rw [if_neg (by omega)])
theorem gRl.begin (h : gRl G w np f1 f2 V) (hw : 0 ≤ w) (hd : G (at_ w 0) < 5) (hN4 : ∀ i : Int, 0 ≤ i → i < G (at_ w 0) → G (wA w i 2) ≤ 4) : gRl (sBegin G w) w np f1 f2 (zVs V (G (at_ w 0)) (G (at_ w 1)) (G (at_ w 2)) np 0 0) := by
  obtain ⟨h0, hn, hk, hm, hp⟩ := h
  obtain ⟨b0, b1, b2, b3, b4, bk, bi, c0, c1, ck⟩ := sBegin_at (G := G) hw ⟨h0.1, hd⟩
  unfold gRl
  rw [b0]
  have v2 : ∀ i : Int, zVs V (G (at_ w 0)) (G (at_ w 1)) (G (at_ w 2)) np 0 0 i 2 = if i = G (at_ w 0) then np else V i 2 := fun i => by
    by_cases q : i = G (at_ w 0)
    · rw [if_pos q, q, zVs_e]; rfl
    · rw [if_neg q, zVs_n q]
  refine ⟨⟨by omega, by omega⟩, ⟨by omega, by omega⟩, fun i i0 i1 => ?_, fun i i' i0 i1 i2 => ?_, fun i i0 i1 => ?_⟩
  · by_cases q : i = G (at_ w 0)
    · subst q
      unfold gWk
      rw [b0, v2, v2, if_pos rfl, if_neg (show ¬ G (at_ w 0) + 1 < G (at_ w 0) + 1 by omega), c0, c1, ck 2 (by omega) (by omega), ck 3 (by omega) (by omega), ck 4 (by omega) (by omega), zVs_e, zVs_e, zVs_e, zVs_e]
      exact ⟨rfl, rfl, rfl, rfl, by omega, ⟨hn.1, hn.2⟩, fun j a b => by omega⟩
    · obtain ⟨g0, g1, g3, g4, g2, g5, g6⟩ := hk i i0 (by omega)
      unfold gWk
      rw [b0, v2, v2, if_neg q, bi i 0 i0 (by omega) (by omega) (by omega), bi i 1 i0 (by omega) (by omega) (by omega), bi i 2 i0 (by omega) (by omega) (by omega), bi i 3 i0 (by omega) (by omega) (by omega), bi i 4 i0 (by omega) (by omega) (by omega), zVs_n q, zVs_n q, zVs_n q, zVs_n q, if_pos (by omega)]
      refine ⟨g0, g1, g3, g4, ?_, g5, fun j a b => ?_⟩
      · rw [← g2]
        by_cases z : i + 1 = G (at_ w 0)
        · rw [if_pos z, if_neg (by omega)]
        · rw [if_neg z, if_pos (by omega)]
      · have g7 := g6 j a b
        by_cases z : j ≤ 3
        · rw [bi i (5 + j) i0 (by omega) (by omega) (by omega), bi i (9 + j) i0 (by omega) (by omega) (by omega)]
          exact g7
        · have : G (wA w i 2) ≤ 4 := hN4 i i0 (by omega)
          omega
  · rw [v2, v2]
    by_cases q : i' = G (at_ w 0)
    · rw [if_pos q]
      by_cases z : i = G (at_ w 0)
      · rw [if_pos z]; exact Int.le_refl _
      · rw [if_neg z]; exact hp i i0 (by omega)
    · rw [if_neg q, if_neg (by omega)]; exact hm i i' i0 i1 (by omega)
  · rw [v2]
    by_cases q : i = G (at_ w 0)
    · rw [if_pos q]; exact Int.le_refl _
    · rw [if_neg q]; exact hp i i0 (by omega)
theorem sPoint_e (j : Int) : sPoint G w j = if j = sIn G w 2 then G (sIn G w 2) + 1 else if j = sIn G w (9 + G (sIn G w 2)) then G (at_ w 2) else if j = sIn G w (5 + G (sIn G w 2)) then G (at_ w 1) else G j := rfl
theorem sPoint_at (hw : 0 ≤ w) (hd : 0 < G (at_ w 0) ∧ G (at_ w 0) ≤ 5) (hp : 0 ≤ G (sIn G w 2) ∧ G (sIn G w 2) < 4) : (∀ k : Int, (0 ≤ k ∧ k ≤ 4) ∨ 70 ≤ k → sPoint G w (at_ w k) = G (at_ w k)) ∧
    (∀ i k : Int, 0 ≤ i → i < G (at_ w 0) - 1 → 0 ≤ k → k ≤ 12 → sPoint G w (wA w i k) = G (wA w i k)) ∧ (∀ k : Int, 0 ≤ k → k ≤ 12 → k ≠ 2 → k ≠ 5 + G (sIn G w 2) → k ≠ 9 + G (sIn G w 2) → sPoint G w (wA w (G (at_ w 0) - 1) k) = G (wA w (G (at_ w 0) - 1) k)) ∧
    sPoint G w (wA w (G (at_ w 0) - 1) 2) = G (sIn G w 2) + 1 ∧ sPoint G w (wA w (G (at_ w 0) - 1) (5 + G (sIn G w 2))) = G (at_ w 1) ∧ sPoint G w (wA w (G (at_ w 0) - 1) (9 + G (sIn G w 2))) = G (at_ w 2) := by
  have e : ∀ j : Int, sPoint G w j = if j = 36 + 1350 * w + (5 + 13 * (G (at_ w 0) - 1) + 2) then G (sIn G w 2) + 1 else if j = 36 + 1350 * w + (5 + 13 * (G (at_ w 0) - 1) + (9 + G (sIn G w 2))) then G (36 + 1350 * w + 2) else if j = 36 + 1350 * w + (5 + 13 * (G (at_ w 0) - 1) + (5 + G (sIn G w 2))) then G (36 + 1350 * w + 1) else G j := fun j => rfl
  generalize G (sIn G w 2) = p at *
  generalize G (at_ w 0) = d at *
  refine ⟨fun k a => ?_, fun i k a b c d' => ?_, fun k a b c d' f => ?_, ?_, ?_, ?_⟩
  all_goals
    simp only [wA_e, at_e]
    rw [e]
    (repeat first | rw [if_pos (by omega)] | rw [if_neg (by omega)])
theorem gRl.point (h : gRl G w np f1 f2 V) (hw : 0 ≤ w) (hd : 0 < G (at_ w 0)) (hp : 0 ≤ G (sIn G w 2) ∧ G (sIn G w 2) < 4) (hN4 : ∀ i : Int, 0 ≤ i → i < G (at_ w 0) → 0 ≤ G (wA w i 2) ∧ G (wA w i 2) ≤ 4) : gRl (sPoint G w) w (np + 1) (zU f1 np (G (at_ w 1))) (zU f2 np (G (at_ w 2))) V ∧ np < 20 := by
  obtain ⟨h0, hn, hk, hm, hq⟩ := h
  obtain ⟨b0, bi, bt, c2, c5, c9⟩ := sPoint_at (G := G) hw ⟨hd, h0.2⟩ hp
  have e0 := b0 0 (by omega)
  have ht := hk (G (at_ w 0) - 1) (by omega) (by omega)
  have hin : sIn G w 2 = wA w (G (at_ w 0) - 1) 2 := rfl
  have hnp : np - V (G (at_ w 0) - 1) 2 = G (sIn G w 2) := by
    have := ht.2.2.2.2.1
    rw [if_neg (by omega)] at this
    exact this
  have hb := ht.2.2.2.2.2.1
  refine ⟨?_, by omega⟩
  unfold gRl
  rw [e0]
  refine ⟨h0, ⟨by omega, by omega⟩, fun i i0 i1 => ?_, hm, fun i i0 i1 => by have := hq i i0 i1; omega⟩
  obtain ⟨g0, g1, g3, g4, g2, g5, g6⟩ := hk i i0 i1
  have gn := hN4 i i0 i1
  unfold gWk
  rw [e0]
  by_cases q : i = G (at_ w 0) - 1
  · subst q
    rw [if_neg (by omega), bt 0 (by omega) (by omega) (by omega) (by omega) (by omega), bt 1 (by omega) (by omega) (by omega) (by omega) (by omega), bt 3 (by omega) (by omega) (by omega) (by omega) (by omega), bt 4 (by omega) (by omega) (by omega) (by omega) (by omega), c2]
    refine ⟨g0, g1, g3, g4, by omega, g5, fun j a b => ?_⟩
    by_cases z : j = G (sIn G w 2)
    · subst z
      rw [c5, c9, zU_e (by omega), zU_e (by omega)]
      exact ⟨rfl, rfl⟩
    · rw [bt (5 + j) (by omega) (by omega) (by omega) (by omega) (by omega), bt (9 + j) (by omega) (by omega) (by omega) (by omega) (by omega), zU_n (by omega), zU_n (by omega)]
      exact g6 j a (by rw [hin] at z b; omega)
  · rw [bi i 0 i0 (by omega) (by omega) (by omega), bi i 1 i0 (by omega) (by omega) (by omega), bi i 2 i0 (by omega) (by omega) (by omega), bi i 3 i0 (by omega) (by omega) (by omega), bi i 4 i0 (by omega) (by omega) (by omega)]
    rw [if_pos (by omega)] at g2 ⊢
    have m1 := hq (i + 1) (by omega) (by omega)
    refine ⟨g0, g1, g3, g4, g2, g5, fun j a b => ?_⟩
    rw [bi i (5 + j) i0 (by omega) (by omega) (by omega), bi i (9 + j) i0 (by omega) (by omega) (by omega), zU_n (by omega), zU_n (by omega)]
    exact g6 j a b
/-- the innermost work is left -/
theorem gRl.leave {G1 : Int → Int} (h : gRl G w np f1 f2 V) (hd : 0 < G (at_ w 0)) (hN4 : ∀ i : Int, 0 ≤ i → i < G (at_ w 0) → 0 ≤ G (wA w i 2) ∧ G (wA w i 2) ≤ 4) (e0 : G1 (at_ w 0) = G (at_ w 0) - 1) (e : ∀ i k : Int, 0 ≤ i → i < G (at_ w 0) - 1 → 0 ≤ k → k ≤ 12 → G1 (wA w i k) = G (wA w i k)) : gRl G1 w (V (G (at_ w 0) - 1) 2) f1 f2 V := by
  obtain ⟨h0, hn, hk, hm, hq⟩ := h
  have ht := hk (G (at_ w 0) - 1) (by omega) (by omega)
  have hb := ht.2.2.2.2.2.1
  unfold gRl
  rw [e0]
  refine ⟨⟨by omega, by omega⟩, ⟨by omega, by omega⟩, fun i i0 i1 => ?_, fun i i' a b c => hm i i' a b (by omega), fun i a b => hm i _ a (by omega) (by omega)⟩
  obtain ⟨g0, g1, g3, g4, g2, g5, g6⟩ := hk i i0 (by omega)
  have gn := hN4 i i0 (by omega)
  unfold gWk
  rw [e0, e i 0 i0 i1 (by omega) (by omega), e i 1 i0 i1 (by omega) (by omega), e i 2 i0 i1 (by omega) (by omega), e i 3 i0 i1 (by omega) (by omega), e i 4 i0 i1 (by omega) (by omega)]
  refine ⟨g0, g1, g3, g4, ?_, g5, fun j a b => ?_⟩
  · rw [if_pos (by omega)] at g2
    rw [← g2]
    by_cases z : i + 1 < G (at_ w 0) - 1
    · rw [if_pos z]
    · rw [if_neg z, show G (at_ w 0) - 1 = i + 1 by omega]
  · rw [e i (5 + j) i0 i1 (by omega) (by omega), e i (9 + j) i0 i1 (by omega) (by omega)]
    exact g6 j a b
/-- going back to a point -/
theorem gRl.back {G1 : Int → Int} {q : Int} (h : gRl G w np f1 f2 V) (hd : 0 < G (at_ w 0)) (hi : 0 ≤ q ∧ q < G (sIn G w 2)) (hN4 : ∀ i : Int, 0 ≤ i → i < G (at_ w 0) → 0 ≤ G (wA w i 2) ∧ G (wA w i 2) ≤ 4) (e0 : G1 (at_ w 0) = G (at_ w 0)) (e2 : G1 (wA w (G (at_ w 0) - 1) 2) = q + 1) (e : ∀ i k : Int, 0 ≤ i → i < G (at_ w 0) → 0 ≤ k → k ≤ 12 → (i < G (at_ w 0) - 1 ∨ k ≠ 2) → G1 (wA w i k) = G (wA w i k)) : gRl G1 w (V (G (at_ w 0) - 1) 2 + q + 1) f1 f2 V := by
  obtain ⟨h0, hn, hk, hm, hq⟩ := h
  have ht := hk (G (at_ w 0) - 1) (by omega) (by omega)
  have hin : sIn G w 2 = wA w (G (at_ w 0) - 1) 2 := rfl
  rw [hin] at hi
  have hb := ht.2.2.2.2.2.1
  have hn4 := hN4 (G (at_ w 0) - 1) (by omega) (by omega)
  unfold gRl
  rw [e0]
  refine ⟨h0, ⟨by omega, by omega⟩, fun i i0 i1 => ?_, hm, fun i a b => by have := hm i _ a (show i ≤ G (at_ w 0) - 1 by omega) (by omega); omega⟩
  obtain ⟨g0, g1, g3, g4, g2, g5, g6⟩ := hk i i0 (by omega)
  have gn := hN4 i i0 (by omega)
  unfold gWk
  rw [e0, e i 0 i0 i1 (by omega) (by omega) (by omega), e i 1 i0 i1 (by omega) (by omega) (by omega), e i 3 i0 i1 (by omega) (by omega) (by omega), e i 4 i0 i1 (by omega) (by omega) (by omega)]
  by_cases z : i = G (at_ w 0) - 1
  · subst z
    rw [if_neg (by omega), e2]
    refine ⟨g0, g1, g3, g4, by omega, g5, fun j a b => ?_⟩
    rw [e _ (5 + j) i0 i1 (by omega) (by omega) (by omega), e _ (9 + j) i0 i1 (by omega) (by omega) (by omega)]
    exact g6 j a (by omega)
  · rw [e i 2 i0 i1 (by omega) (by omega) (by omega)]
    rw [if_pos (by omega)] at g2 ⊢
    refine ⟨g0, g1, g3, g4, g2, g5, fun j a b => ?_⟩
    rw [e i (5 + j) i0 i1 (by omega) (by omega) (by omega), e i (9 + j) i0 i1 (by omega) (by omega) (by omega)]
    exact g6 j a b
theorem gRl.clear {G1 : Int → Int} (e0 : G1 (at_ w 0) = 0) : gRl G1 w 0 f1 f2 V := by
  unfold gRl
  rw [e0]
  exact ⟨by omega, by omega, fun i a b => by omega, fun i i' a b c => by omega, fun i a b => by omega⟩
/-- the same works -/
theorem gRl.to {G1 : Int → Int} (h : gRl G w np f1 f2 V) (hN4 : ∀ i : Int, 0 ≤ i → i < G (at_ w 0) → 0 ≤ G (wA w i 2) ∧ G (wA w i 2) ≤ 4) (e0 : G1 (at_ w 0) = G (at_ w 0)) (e : ∀ i k : Int, 0 ≤ i → i < G (at_ w 0) → 0 ≤ k → k ≤ 12 → G1 (wA w i k) = G (wA w i k)) : gRl G1 w np f1 f2 V := by
  obtain ⟨h0, hn, hk, hm, hq⟩ := h
  unfold gRl
  rw [e0]
  refine ⟨h0, hn, fun i i0 i1 => ?_, hm, hq⟩
  obtain ⟨g0, g1, g3, g4, g2, g5, g6⟩ := hk i i0 i1
  have gn := hN4 i i0 i1
  unfold gWk
  rw [e0, e i 0 i0 i1 (by omega) (by omega), e i 1 i0 i1 (by omega) (by omega), e i 2 i0 i1 (by omega) (by omega), e i 3 i0 i1 (by omega) (by omega), e i 4 i0 i1 (by omega) (by omega)]
  refine ⟨g0, g1, g3, g4, g2, g5, fun j a b => ?_⟩
  rw [e i (5 + j) i0 i1 (by omega) (by omega), e i (9 + j) i0 i1 (by omega) (by omega)]
  exact g6 j a b
/-- one work's forgiven failures, or whether it is spoiled -/
theorem gRl.mild {G1 : Int → Int} {z v3 v4 : Int} (h : gRl G w np f1 f2 V) (hz : 0 ≤ z ∧ z < G (at_ w 0)) (hN4 : ∀ i : Int, 0 ≤ i → i < G (at_ w 0) → 0 ≤ G (wA w i 2) ∧ G (wA w i 2) ≤ 4) (e0 : G1 (at_ w 0) = G (at_ w 0)) (e3 : G1 (wA w z 3) = v3) (e4 : G1 (wA w z 4) = v4) (e : ∀ i k : Int, 0 ≤ i → i < G (at_ w 0) → 0 ≤ k → k ≤ 12 → (i ≠ z ∨ (k ≠ 3 ∧ k ≠ 4)) → G1 (wA w i k) = G (wA w i k)) : gRl G1 w np f1 f2 (zVs V z (V z 0) (V z 1) (V z 2) v3 v4) := by
  obtain ⟨h0, hn, hk, hm, hq⟩ := h
  have v2 : ∀ i : Int, zVs V z (V z 0) (V z 1) (V z 2) v3 v4 i 2 = V i 2 := fun i => by
    by_cases q : i = z
    · rw [q, zVs_e]; rfl
    · rw [zVs_n q]
  unfold gRl
  rw [e0]
  refine ⟨h0, hn, fun i i0 i1 => ?_, fun i i' a b c => by rw [v2, v2]; exact hm i i' a b c, fun i a b => by rw [v2]; exact hq i a b⟩
  obtain ⟨g0, g1, g3, g4, g2, g5, g6⟩ := hk i i0 i1
  have gn := hN4 i i0 i1
  unfold gWk
  rw [e0, v2, v2, e i 0 i0 i1 (by omega) (by omega) (by omega), e i 1 i0 i1 (by omega) (by omega) (by omega), e i 2 i0 i1 (by omega) (by omega) (by omega)]
  have g7 : ∀ j : Int, 0 ≤ j → j < G (wA w i 2) → f1 (V i 2 + j) = G1 (wA w i (5 + j)) ∧ f2 (V i 2 + j) = G1 (wA w i (9 + j)) := fun j a b => by
    rw [e i (5 + j) i0 i1 (by omega) (by omega) (by omega), e i (9 + j) i0 i1 (by omega) (by omega) (by omega)]
    exact g6 j a b
  by_cases q : i = z
  · subst q
    rw [e3, e4, zVs_e, zVs_e, zVs_e, zVs_e]
    exact ⟨g0, g1, rfl, rfl, g2, g5, g7⟩
  · rw [e i 3 i0 i1 (by omega) (by omega) (by omega), e i 4 i0 i1 (by omega) (by omega) (by omega), zVs_n q, zVs_n q, zVs_n q, zVs_n q]
    exact ⟨g0, g1, g3, g4, g2, g5, g7⟩
end REL
