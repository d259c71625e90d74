/-! the class: what its operations on a state do to the reference's row -/
/-- the oldest value is the first that is found -/
theorem sOd_none {G : Int → Int} {w c v : Int} : ∀ n : Nat, (∀ k : Int, 0 ≤ k → k < n → G (at_ w (70 + k)) / 100 ≠ c) → sOd n G w c v = v
  | 0, _ => rfl
  | n + 1, h => by
    show sOd n G w c (if G (at_ w (70 + n)) / 100 = c then _ else v) = v
    rw [if_neg (h n (by omega) (by omega))]
    exact sOd_none n (fun k a b => h k a (by omega))
theorem sOd_some {G : Int → Int} {w c : Int} : ∀ (n : Nat) {v k : Int}, 0 ≤ k → k < n → G (at_ w (70 + k)) / 100 = c → (∀ j : Int, 0 ≤ j → j < k → G (at_ w (70 + j)) / 100 ≠ c) → sOd n G w c v = G (at_ w (70 + k)) % 100
  | 0, _, _, h0, h1, _, _ => by omega
  | n + 1, v, k, h0, h1, e, h => by
    show sOd n G w c (if G (at_ w (70 + n)) / 100 = c then G (at_ w (70 + n)) % 100 else v) = _
    by_cases q : k = n
    · subst q
      rw [if_pos e]
      exact sOd_none n h
    · exact sOd_some n h0 (by omega) e h
/-- of the other workers -/
def sOb (G : Int → Int) (w : Int) : Prop := ∀ v : Int, 0 ≤ v → v ≤ 2 → v ≠ w → (0 ≤ G (at_ v 0) ∧ G (at_ v 0) ≤ 5) ∧ (0 ≤ G (at_ v 1) ∧ G (at_ v 1) ≤ 640 ∧ 0 ≤ G (at_ v 2) ∧ G (at_ v 2) ≤ 640) ∧ ∀ i : Int, 0 ≤ i → i < G (at_ v 0) → G (wA v i 2) ≤ 4
/-- what holds also in the middle of an operation -/
def sWi (G : Int → Int) (w : Int) : Prop := (0 ≤ w ∧ w ≤ 2) ∧ (0 ≤ G (at_ w 0) ∧ G (at_ w 0) ≤ 5) ∧ (0 ≤ G (at_ w 1) ∧ G (at_ w 1) ≤ 640) ∧ (0 ≤ G (at_ w 2) ∧ G (at_ w 2) ≤ 640) ∧ eOK G w ∧ rOK G w ∧ vOK G ∧ kOK G ∧
  (∀ i : Int, 0 ≤ i → i < G (at_ w 0) → (0 ≤ G (wA w i 2) ∧ G (wA w i 2) ≤ 4) ∧ (0 ≤ G (wA w i 3) ∧ G (wA w i 3) ≤ 3)) ∧ sOb G w ∧ (0 ≤ G 32 ∧ G 32 ≤ 3)
section OPS
variable {G G1 : Int → Int} {w N : Int}
theorem sOb.to (h : sOb G w) (e : ∀ j : Int, 36 ≤ j → ¬ (at_ w 0 ≤ j ∧ j < at_ w 1350) → G1 j = G j) : sOb G1 w := fun v v0 v2 hv => by
  obtain ⟨h0, h1, h2⟩ := h v v0 v2 hv
  have p := at_e w 0
  have p' := at_e w 1350
  have q : ∀ k : Int, 0 ≤ k → k < 1350 → G1 (at_ v k) = G (at_ v k) := fun k a b => e _ (by rw [at_e]; omega) (by rw [at_e v]; omega)
  rw [q 0 (by omega) (by omega), q 1 (by omega) (by omega), q 2 (by omega) (by omega)]
  refine ⟨h0, h1, fun i a b => ?_⟩
  unfold wA
  rw [q _ (by omega) (by omega)]
  exact h2 i a b
theorem sW.i (h : sW G N) (hw : 0 ≤ w ∧ w ≤ 2) : sWi G w := by
  have hm := h.m hw
  have hl := h.l hw
  refine ⟨hw, hm, ⟨by omega, by omega⟩, ⟨by omega, by omega⟩, fun k a b => h.e hw a b, fun k a b => h.r hw a b, h.2.1, h.2.2.1, fun i a b => ⟨(h.k hw a b).2.2.1, (h.k hw a b).2.2.2.1⟩, fun v v0 v2 hv => ?_, h.2.2.2.1⟩
  have hm' := h.m (w := v) ⟨v0, v2⟩
  have hl' := h.l (w := v) ⟨v0, v2⟩
  exact ⟨hm', ⟨by omega, by omega, by omega, by omega⟩, fun i a b => (h.k (w := v) ⟨v0, v2⟩ a b).2.2.1.2⟩
/-- changes within one worker, the values, the locks -/
theorem sWi.to (h : sWi G w) (e : ∀ j : Int, 36 ≤ j → ¬ (at_ w 0 ≤ j ∧ j < at_ w 1350) → G1 j = G j) (e0 : 0 ≤ G1 (at_ w 0) ∧ G1 (at_ w 0) ≤ G (at_ w 0)) (e1 : 0 ≤ G1 (at_ w 1) ∧ G1 (at_ w 1) ≤ 640) (e2 : 0 ≤ G1 (at_ w 2) ∧ G1 (at_ w 2) ≤ 640) (hE : eOK G1 w) (hR : rOK G1 w) (hV : vOK G1) (hK : kOK G1)
    (ek : ∀ i k : Int, 0 ≤ i → i < G (at_ w 0) → 2 ≤ k → k ≤ 3 → G1 (wA w i k) = G (wA w i k)) (e32 : G1 32 = G 32) : sWi G1 w := by
  obtain ⟨hw, hm, -, -, -, -, -, -, hk, hO, h32⟩ := h
  refine ⟨hw, ⟨e0.1, by omega⟩, e1, e2, hE, hR, hV, hK, fun i a b => ?_, hO.to e, by rw [e32]; exact h32⟩
  rw [ek i 2 a (by omega) (by omega) (by omega), ek i 3 a (by omega) (by omega) (by omega)]
  exact hk i a (by omega)
theorem sWi.un (h : sWi G w) {n : Nat} (hn : (n : Int) ≤ G (at_ w 1)) : sWi (sUn n G w) w ∧ (∀ j : Int, 16 ≤ j → j ≠ at_ w 1 → sUn n G w j = G j) ∧ sUn n G w (at_ w 1) = G (at_ w 1) - n := by
  obtain ⟨hw, hm, hl, hr, hE, hR, hV, hK, hk, hO, h32⟩ := id h
  obtain ⟨u1, u2⟩ := sUn_n n hw.1 hE hn
  have a1 := at_e w 1
  have a0 := at_e w 0
  have a2 := at_e w 2
  have ap := at_e w 1350
  refine ⟨h.to (fun j a b => u1 j (by omega) (by omega)) (by rw [u1 _ (by omega) (by omega)]; omega) (by rw [u2]; omega) (by rw [u1 _ (by omega) (by omega)]; exact hr) (fun k a b => ?_) (fun k a b => ?_) (sUn_v n hw.1 hE hn hV) (fun c a b => ?_) (fun i k a b c d => ?_) (u1 32 (by omega) (by omega)), u1, u2⟩
  · have := at_e w (70 + k)
    rw [u2] at b
    rw [u1 _ (by omega) (by omega)]
    exact hE k a (by omega)
  · have := at_e w (710 + k)
    rw [u1 _ (by omega) (by omega)] at b ⊢
    exact hR k a b
  · rw [u1 _ (by omega) (by omega)]; exact hK c a b
  · have := wA_e w i k
    exact u1 _ (by omega) (by omega)
theorem sWi.rn {o : Bool} (h : sWi G w) {n : Nat} (hn : (n : Int) ≤ G (at_ w 2)) (hl6 : o = false → G (at_ w 1) + n ≤ 640) : sWi (sRn n G w o) w ∧ sRn n G w o (at_ w 2) = G (at_ w 2) - n ∧ sRn n G w o (at_ w 1) = (if o = true then G (at_ w 1) else G (at_ w 1) + n) ∧
    ∀ j : Int, 16 ≤ j → j ≠ 35 → j ≠ at_ w 1 → j ≠ at_ w 2 → ¬ (at_ w 70 ≤ j ∧ j ≤ at_ w 709) → sRn n G w o j = G j := by
  obtain ⟨hw, hm, hl, hr, hE, hR, hV, hK, hk, hO, h32⟩ := id h
  obtain ⟨⟨-, s1, s2, s3, s4, s5⟩, n2, n1, nj⟩ := sRn_I n (G := G) (w := w) (o := o) ⟨hw.1, ⟨hl.1, hl6⟩, ⟨hn, hr.2⟩, hR, hE, hV⟩
  have a1 := at_e w 1
  have a0 := at_e w 0
  have a2 := at_e w 2
  have a70 := at_e w 70
  have a709 := at_e w 709
  have ap := at_e w 1350
  refine ⟨h.to (fun j a b => nj j (by omega) (by omega) (by omega) (by omega) (by omega)) (by rw [nj _ (by omega) (by omega) (by omega) (by omega) (by omega)]; omega) ⟨s1.1, ?_⟩ (by rw [n2]; omega) s4 s3 s5 (fun c a b => ?_) (fun i k a b c d => ?_) (nj 32 (by omega) (by omega) (by omega) (by omega) (by omega)), n2, n1, nj⟩
  · rw [n1]
    split
    · exact hl.2
    · next q => exact hl6 (by cases o with | true => exact absurd rfl q | false => rfl)
  · rw [nj _ (by omega) (by omega) (by omega) (by omega) (by omega)]; exact hK c a b
  · have := wA_e w i k
    exact nj _ (by omega) (by omega) (by omega) (by omega) (by omega)
theorem sWi.dec (h : sWi G w) (hd : 0 < G (at_ w 0)) : sWi (zU G (at_ w 0) (G (at_ w 0) - 1)) w := by
  obtain ⟨hw, hm, hl, hr, hE, hR, hV, hK, hk, hO, h32⟩ := id h
  have a1 := at_e w 1
  have a0 := at_e w 0
  have a2 := at_e w 2
  have ap := at_e w 1350
  refine h.to (fun j a b => zU_n (by omega)) (by rw [zU_s]; omega) (by rw [zU_n (by omega)]; exact hl) (by rw [zU_n (by omega)]; exact hr) (fun k a b => ?_) (fun k a b => ?_) (fun c a b => ?_) (fun c a b => ?_) (fun i k a b c d => ?_) (zU_n (by omega))
  · have := at_e w (70 + k)
    rw [zU_n (by omega)] at b ⊢
    exact hE k a b
  · have := at_e w (710 + k)
    rw [zU_n (by omega)] at b ⊢
    exact hR k a b
  · rw [zU_n (by omega)]; exact hV c a b
  · rw [zU_n (by omega)]; exact hK c a b
  · have := wA_e w i k
    exact zU_n (by omega)
theorem zU_c {g : Int → Int} {i j a b : Int} (h : i ≠ j) : zU (zU g i a) j b = zU (zU g j b) i a := by
  funext k
  by_cases p : k = i
  · subst p; rw [zU_n h, zU_s, zU_s]
  · by_cases q : k = j
    · subst q; rw [zU_s, zU_n p, zU_s]
    · rw [zU_n q, zU_n p, zU_n p, zU_n q]
/-- doing regrets does not see how many works there are -/
theorem sRs_d {o : Bool} {v : Int} (hw : 0 ≤ w) (hr : 0 ≤ G (at_ w (710 + (G (at_ w 2) - 1))) ∧ G (at_ w (710 + (G (at_ w 2) - 1))) < 1600) (h2 : 1 ≤ G (at_ w 2)) (h1 : 0 ≤ G (at_ w 1)) : sRs (zU G (at_ w 0) v) w o = zU (sRs G w o) (at_ w 0) v := by
  have a0 := at_e w 0
  have a1 := at_e w 1
  have a2 := at_e w 2
  have ar := at_e w (710 + (G (at_ w 2) - 1))
  have al := at_e w (70 + G (at_ w 1))
  have x1 : zU G (at_ w 0) v (at_ w 1) = G (at_ w 1) := zU_n (by omega)
  have x2 : zU G (at_ w 0) v (at_ w 2) = G (at_ w 2) := zU_n (by omega)
  have xr : zU G (at_ w 0) v (at_ w (710 + (G (at_ w 2) - 1))) = G (at_ w (710 + (G (at_ w 2) - 1))) := zU_n (by omega)
  unfold sRs
  rw [x2, xr, show zU G (at_ w 0) v (G (at_ w (710 + (G (at_ w 2) - 1))) / 100) = G (G (at_ w (710 + (G (at_ w 2) - 1))) / 100) from zU_n (by omega), show zU G (at_ w 0) v 35 = G 35 from zU_n (by omega)]
  have key : sRl (zU G (at_ w 0) v) w o = zU (sRl G w o) (at_ w 0) v := by
    cases o with
    | true =>
      rw [sRl_t rfl, sRl_t rfl, x2, zU_c (by omega)]
    | false =>
      rw [sRl_f rfl, sRl_f rfl, x2, xr, zU_c (show at_ w 0 ≠ at_ w 2 by omega)]
      unfold sEnter
      have y1 : zU (zU G (at_ w 2) (G (at_ w 2) - 1)) (at_ w 0) v (at_ w 1) = G (at_ w 1) := by rw [zU_n (by omega), zU_n (by omega)]
      have y1' : zU G (at_ w 2) (G (at_ w 2) - 1) (at_ w 1) = G (at_ w 1) := zU_n (by omega)
      have y2 : zU (zU G (at_ w 2) (G (at_ w 2) - 1)) (at_ w 0) v (G (at_ w (710 + (G (at_ w 2) - 1))) / 100) = zU G (at_ w 2) (G (at_ w 2) - 1) (G (at_ w (710 + (G (at_ w 2) - 1))) / 100) := zU_n (by omega)
      rw [y1, y1', y2, zU_c (show at_ w 0 ≠ at_ w (70 + G (at_ w 1)) by omega), zU_c (show at_ w 0 ≠ at_ w 1 by omega)]
  rw [key, zU_c (show at_ w 0 ≠ G (at_ w (710 + (G (at_ w 2) - 1))) / 100 by omega), zU_c (show at_ w 0 ≠ 35 by omega)]
theorem sRn_d {o : Bool} {v : Int} : ∀ (n : Nat) {G : Int → Int}, sRI G w o n → sRn n (zU G (at_ w 0) v) w o = zU (sRn n G w o) (at_ w 0) v
  | 0, _, _ => rfl
  | n + 1, G, h => by
    have h' : sRI G w o ((n : Int) + 1) := h
    obtain ⟨hw, ⟨h1, -⟩, h2, hr, -, -⟩ := id h'
    show sRn n (sRs (zU G (at_ w 0) v) w o) w o = zU (sRn n (sRs G w o) w o) (at_ w 0) v
    rw [sRs_d hw (hr (G (at_ w 2) - 1) (by omega) (by omega)) (by omega) h1]
    exact sRn_d n (h'.s (by omega)).1
/-- a failure, as the class does it -/
theorem sF1_c (h : sWi G w) (hd : 0 < G (at_ w 0)) (h0 : 0 ≤ G (sIn G w 0) ∧ G (sIn G w 0) ≤ G (at_ w 1)) (h1 : 0 ≤ G (sIn G w 1) ∧ G (sIn G w 1) ≤ G (at_ w 2)) (h6 : G (at_ w 1) + G (at_ w 2) ≤ 640) :
    sF1 G w = zU (sRn (G (at_ w 2) - G (sIn G w 1)).toNat (sUn (G (at_ w 1) - G (sIn G w 0)).toNat G w) w (decide (G (at_ w 0) = 1))) (at_ w 0) (G (at_ w 0) - 1) := by
  obtain ⟨hu, u1, u2⟩ := h.un (n := (G (at_ w 1) - G (sIn G w 0)).toNat) (by omega)
  obtain ⟨hw, hm, hl, hr, hE, hR, hV, hK, hk, hO, h32⟩ := id hu
  have a1 := at_e w 1
  have a2 := at_e w 2
  have x2 : sUn (G (at_ w 1) - G (sIn G w 0)).toNat G w (at_ w 2) = G (at_ w 2) := u1 _ (by omega) (by omega)
  unfold sF1 sF0
  refine sRn_d _ ⟨hw.1, ⟨hl.1, fun _ => ?_⟩, ⟨?_, hr.2⟩, hR, hE, hV⟩
  · rw [u2]; omega
  · rw [x2]; omega
/-! places of what an operation leaves -/
theorem sWrite_e {c v : Int} (hw : 0 ≤ w) (hc : 0 ≤ c ∧ c < 16) (hl : 0 ≤ G (at_ w 1)) (j : Int) : sWrite G w c v j = if j = 34 then G 34 + 1 else if j = c then v else if j = 36 + 1350 * w + 1 then G (at_ w 1) + 1 else if j = 36 + 1350 * w + (70 + G (at_ w 1)) then 100 * c + G c else if j = 16 + c then w + 1 else G j := by
  have a1 := at_e w 1
  have x1 : zU G (16 + c) (w + 1) (at_ w 1) = G (at_ w 1) := zU_n (by omega)
  have xc : zU G (16 + c) (w + 1) c = G c := zU_n (by omega)
  unfold sWrite sEnter
  rw [x1, xc]
  rfl
theorem sRegret_e {c v : Int} (j : Int) (hw : 0 ≤ w) (hc : 0 ≤ c ∧ c < 16) : sRegret G w c v j = if j = 36 + 1350 * w + 2 then G (at_ w 2) + 1 else if j = 36 + 1350 * w + (710 + G (at_ w 2)) then 100 * c + v else if j = 16 + c then w + 1 else G j := by
  have a2 := at_e w 2
  unfold sRegret
  rfl
end OPS
section ZOP
variable {E : zE} {H : Heap} {r : zH} {a : Nat → Nat} {t : Nat} {G G1 : Int → Int} {w N : Int}
theorem zOth.too (h : zOth E H r a t w G) (hb : sOb G w) (e : ∀ j : Int, 36 ≤ j → ¬ (at_ w 0 ≤ j ∧ j < at_ w 1350) → G1 j = G j) : zOth E H r a t w G1 := fun v hv hn => by
  obtain ⟨b0, b1, b2⟩ := hb v (by omega) (by omega) hn
  refine (h v hv hn).to ⟨b1.1, b1.2.1, b1.2.2.1, b1.2.2.2⟩ b2 (fun j p q => e j ?_ ?_)
  · have := at_e v 0; omega
  · have := at_e v 0; have := at_e v 1350; have := at_e w 0; have := at_e w 1350; omega
theorem zSt.mk {m fg wr rd : Int} {g k : Int → Int} (sO : zO E H r t (a t) 2 [.ref (a (t + 2)), .ref (a (t + 4)), .ref (a (t + 1)), .int (iI m), .int (iI fg), .int (iI wr), .int (iI rd)]) (sQ : zQr E H r (t + 1) (a (t + 1)) 3 3 (fun i => some (a (t + 6 + 16 * i.toNat))))
    (sV : zRow E H r (t + 2) (a (t + 2)) 16 16 g) (sL : zRow E H r (t + 4) (a (t + 4)) 16 16 k) (wk : zWkr E H r a (t + 6 + 16 * w.toNat) w G) (ot : zOth E H r a t w G) (hw : 0 ≤ w ∧ w ≤ 2) (e32 : G 32 = m) (e33 : G 33 = fg) (e34 : G 34 = wr) (e35 : G 35 = rd)
    (eV : ∀ c : Int, 0 ≤ c → c < 16 → g c = G c) (eL : ∀ c : Int, 0 ≤ c → c < 16 → k c = G (16 + c) - 1) : zSt E H r a t G := by
  subst e32 e33 e34 e35
  exact ⟨sO, sQ, sV.to (fun c p q => eV c p (by omega)), sL.to (fun c p q => eL c p (by omega)), zSt_a hw wk ot⟩
end ZOP
