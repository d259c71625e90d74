/-! rules of the walk: arrays made, copied; Math -/
theorem zW.arr {s : State} (h : zW s) {ty : FieldType} (hm : Cond.arrayClass ty ∈ lw_tbl) {args : Array Value} : (Cond.arrayClass ty).before args s = true := word_at (State.WarmedH.refl s) (Or.inr ⟨ty, rfl⟩) (h _ hm rfl)
section ZA2
variable {x : zX} {own : String} {cc : ByteArray} {nL : Nat} {ret : Option FieldType} {nm : String} {F L mc ms : Nat} {H : Heap} {a b pc : Nat} {lv : List (Nat × Value)} {st : List Value} {idx q n t : Nat} {g : Int → Int} {gr : Int → Option Nat} {i : Int}
/-- an object array's kind and its objects' class -/
def zTC (t ci : Nat) : Prop := (t = 2 ∧ ci = 2) ∨ (t = 3 ∧ ci = 4) ∨ (t = 4 ∧ ci = 3)
theorem zTC.at {t ci : Nat} (h : zTC t ci) (ca : Nat → ClassId) : ∃ (t0 : Nat) (r : vw_C), (zTys ca)[t0]? = some (ca t, .object r.1) ∧ vwCl[ci]? = some r := by
  rcases h with ⟨rfl, rfl⟩ | ⟨rfl, rfl⟩ | ⟨rfl, rfl⟩
  · exact ⟨2, (RX2, TX2, 7), rfl, rfl⟩
  · exact ⟨3, (RX4, TX4, 9), rfl, rfl⟩
  · exact ⟨4, (RX3, TX3, 5), rfl, rfl⟩
theorem z_aast {ci v : Nat} {fs : List Value} (hT : zTC t ci) (O : zOk x own cc nL ret nm F L mc ms) (d : decode cc pc = .ok (.aastore, 1)) (ho : zRA (zEn x) H q t n gr) (hv : zOb (zEn x) H v ci fs) (hi : zR i) (h0 : 0 ≤ i) (h1 : i < n) (K : ∀ H1 : Heap, zRA (zEn x) H1 q t n (zUr gr i (some v)) → zCh H H1 q → zG x H1 a b (pc + 1) lv st) : zG x H a b pc lv (.ref v :: .int (iI i) :: .ref q :: st) := by
  obtain ⟨⟨p, e, R, s, m⟩, ⟨args, below, meth, c⟩, E, mc', ms', post, px⟩ := x
  obtain ⟨hx, hb, hml, hr, hown, hlk, htb, hst, hnm, hR, hm1, hm2⟩ := O
  intro hk hf locs ls hl hlv
  obtain ⟨⟨f, hat, hfg⟩, hB⟩ := ho
  obtain ⟨t0, r, ht0, hr0⟩ := hT.at E.2.2.1
  obtain ⟨⟨r', hr', cellV, g1, g2, g3, -⟩, -⟩ := hv
  have hcls := (hk.1.1 ci r hr0).2
  obtain ⟨kA, comp, k1, k2, k3, -⟩ := (hk.1.2 t0 _ ht0).2
  have hcomp : comp = E.2.1.1 ci := Option.some.inj (k3.symm.trans hcls.1)
  subst hcomp
  obtain ⟨kC, hkC, -⟩ := hcls.2
  refine W.aast hx hb hat (fun q h => by cases h) (fun h => by cases h) k1 k2 rfl hkC ⟨fun hh => zix hi h0 h1 (Or.inl hh), by show _ < (arrV _ _ _).slots.size; rw [arrV_size, zcl hi]; exact znat h0 h1⟩ g1 (fun q h => by rw [g3] at h; cases h) (by rw [g2]; exact hkC) (by rw [g2]; exact va_assign hcls) rfl rfl d fun H1 e1 z1 o1 => ?_
  have hC : zCh H H1 q := ⟨z1, o1⟩
  rw [zcl hi] at e1
  refine K H1 ⟨⟨va_up f i.toNat (some v), ?_, ?_⟩, hB⟩ hC (hk.step (hC.F hB)) (hf.tr (hC.F hB)) _ ls (fun z hz => ?_) hlv
  · show H1[q]? = some (vp_cell _ _)
    rw [e1, vp_cell_q, vp_cell_q, arrV_store]
    congr 2
    funext j
    by_cases hj : j = i.toNat
    · subst hj; simp [updV, va_up, va_rf]
    · simp [updV, va_up, hj]
  · intro j hj
    unfold va_up zUr
    by_cases hj2 : j = i.toNat
    · rw [if_pos hj2, if_pos (by omega)]
    · rw [if_neg hj2, if_neg (by omega)]; exact hfg j hj
  · rcases List.mem_append.mp hz with h | h
    · exact hl z h
    · rw [List.mem_singleton.mp h]; exact hB
theorem zPush {H : Heap} {c : Cell} : zNew H (H.push c) := ⟨Array.size_push _, fun r hr => by rw [Array.getElem?_push, if_neg (Nat.ne_of_lt hr)]⟩
theorem z_newi (O : zOk x own cc nL ret nm F L mc ms) (d : decode cc pc = .ok (.newarray .int, 2)) (hi : zR i) (h0 : 0 ≤ i) (hn : i = n) (hsm : n ≤ 100000000) (h1 : a + 1 ≤ mc) (h2 : b + n ≤ ms)
    (K : ∀ H1 : Heap, zIA (zEn x) H1 H.size 0 n (fun _ => 0) → zNew H H1 → zG x H1 (a + 1) (b + n) (pc + 2) lv (.ref H.size :: st)) : zG x H a b pc lv (.int (iI i) :: st) := by
  obtain ⟨⟨p, e, R, s, m⟩, ⟨args, below, meth, c⟩, E, mc', ms', post, px⟩ := x
  obtain ⟨hx, hb, hml, hr, hown, hlk, htb, hst, hnm, hR, hm1, hm2⟩ := O
  intro hk hf locs ls hl hlv
  subst hR
  have hN : (iI i).toNatClampNeg = n := by rw [zcl hi]; omega
  refine W.newa hx hb (atype := .int) (hk.2.2.1.arr (ty := .int) (by decide +kernel)) rfl d rfl (fun h => by rw [iI_0, iI_lt hi zR0] at h; omega) (by rw [hN]; show n * 4 ≤ _; omega) h1 (by rw [hN]; exact h2) fun cA kA comp f1 f2 f3 => ?_
  have e1 : cA = E.2.2.1 0 := Option.some.inj (f1.symm.trans (hk.1.2 0 _ rfl).2)
  subst e1
  rw [hN]
  refine K _ ⟨⟨fun _ => 0, ?_, fun _ _ => iI_0⟩, hk.2.1⟩ zPush (hk.step (zPush.F hk.2.1)) (hf.tr (zPush.F hk.2.1)) locs ls hl hlv
  show (H.push _)[H.size]? = some (vp_cell _ _)
  rw [Array.getElem?_push_size, vp_cell_i, arrV_new]
  rfl
theorem z_newz (O : zOk x own cc nL ret nm F L mc ms) (d : decode cc pc = .ok (.newarray .boolean, 2)) (hi : zR i) (h0 : 0 ≤ i) (hn : i = n) (hsm : n ≤ 100000000) (h1 : a + 1 ≤ mc) (h2 : b + n ≤ ms)
    (K : ∀ H1 : Heap, zIA (zEn x) H1 H.size 1 n (fun _ => 0) → zNew H H1 → zG x H1 (a + 1) (b + n) (pc + 2) lv (.ref H.size :: st)) : zG x H a b pc lv (.int (iI i) :: st) := by
  obtain ⟨⟨p, e, R, s, m⟩, ⟨args, below, meth, c⟩, E, mc', ms', post, px⟩ := x
  obtain ⟨hx, hb, hml, hr, hown, hlk, htb, hst, hnm, hR, hm1, hm2⟩ := O
  intro hk hf locs ls hl hlv
  subst hR
  have hN : (iI i).toNatClampNeg = n := by rw [zcl hi]; omega
  refine W.newa hx hb (atype := .boolean) (hk.2.2.1.arr (ty := .boolean) (by decide +kernel)) rfl d rfl (fun h => by rw [iI_0, iI_lt hi zR0] at h; omega) (by rw [hN]; show n * 1 ≤ _; omega) h1 (by rw [hN]; exact h2) fun cA kA comp f1 f2 f3 => ?_
  have e1 : cA = E.2.2.1 1 := Option.some.inj (f1.symm.trans (hk.1.2 1 _ rfl).2)
  subst e1
  rw [hN]
  refine K _ ⟨⟨fun _ => 0, ?_, fun _ _ => iI_0⟩, hk.2.1⟩ zPush (hk.step (zPush.F hk.2.1)) (hf.tr (zPush.F hk.2.1)) locs ls hl hlv
  show (H.push _)[H.size]? = some (vp_cell _ _)
  rw [Array.getElem?_push_size, vp_cell_i, arrV_new]
  rfl
theorem z_newr {ci : Nat} {C : String} (hT : zTC t ci) (hC : ∃ q, vwCl[ci]? = some q ∧ q.1 = C) (hm9 : Cond.classLink own idx C ∈ lw_tbl) (O : zOk x own cc nL ret nm F L mc ms) (d : decode cc pc = .ok (.anewarray idx, 3)) (hi : zR i) (h0 : 0 ≤ i) (hn : i = n) (hsm : n ≤ 100000000) (h1 : a + 1 ≤ mc) (h2 : b + n ≤ ms) (hov : Cond.arrayOver (.object C) ∈ lw_tbl)
    (K : ∀ H1 : Heap, zRA (zEn x) H1 H.size t n (fun _ => none) → zNew H H1 → zG x H1 (a + 1) (b + n) (pc + 3) lv (.ref H.size :: st)) : zG x H a b pc lv (.int (iI i) :: st) := by
  obtain ⟨⟨p, e, R, s, m⟩, ⟨args, below, meth, c⟩, E, mc', ms', post, px⟩ := x
  obtain ⟨hx, hb, hml, hr, hown, hlk, htb, hst, hnm, hR, hm1, hm2⟩ := O
  intro hk hf locs ls hl hlv
  subst hR
  have hN : (iI i).toNatClampNeg = n := by rw [zcl hi]; omega
  refine W.anew hx hb hown (hk.2.2.1.at hm9 rfl rfl) (va_AO.use (va_AO.of (hk.2.2.1 _ hov rfl))) rfl d rfl (fun h => by rw [iI_0, iI_lt hi zR0] at h; omega) (by rw [hN]; omega) h1 (by rw [hN]; exact h2) fun cA kA comp f1 f2 f3 f4 => ?_
  have e1 : cA = E.2.2.1 t := by
    obtain ⟨t0, r, ht0, hr0⟩ := hT.at E.2.2.1
    obtain ⟨q9, hq9, hC9⟩ := hC
    have hr9 : r.1 = C := by rw [← hC9]; exact congrArg (·.1) (Option.some.inj (hr0.symm.trans hq9))
    obtain ⟨kA9, comp9, k1, k2, k3, k4⟩ := (hk.1.2 t0 _ ht0).2
    rw [hr9] at k4
    exact Option.some.inj (f1.symm.trans k4)
  subst e1
  rw [hN]
  refine K _ ⟨⟨fun _ => none, ?_, fun _ _ => rfl⟩, hk.2.1⟩ zPush (hk.step (zPush.F hk.2.1)) (hf.tr (zPush.F hk.2.1)) locs ls hl hlv
  show (H.push _)[H.size]? = some (vp_cell _ _)
  rw [Array.getElem?_push_size, vp_cell_q, arrV_new]
  rfl
end ZA2
