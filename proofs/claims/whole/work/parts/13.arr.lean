/-! rules of the walk: arrays -/
theorem zArr_i {D : va_G} {cl : List vw_C} {q : Nat} {c : ClassId} {n : Nat} {f : Nat → Int32} {H : Heap} (h : va_at D cl (q, .inl (c, n, .inl f)) H) : va_P D cl [(q, .inl (c, n, .inl f))] H := fun i z hz => by
  rcases i with _ | i
  · cases hz; exact h
  · cases hz
theorem zArr_q {D : va_G} {cl : List vw_C} {q : Nat} {c : ClassId} {n : Nat} {f : Nat → Option Nat} {H : Heap} (h : va_at D cl (q, .inl (c, n, .inr (.inr (.inr (.inr f))))) H) : va_P D cl [(q, .inl (c, n, .inr (.inr (.inr (.inr f)))))] H := fun i z hz => by
  rcases i with _ | i
  · cases hz; exact h
  · cases hz
theorem zArrSz {s : State} {cA : ClassId} {ty : FieldType} (h : ArrOfT s cA ty) (n : Nat) (z : Nat → Value) : s.isArrayOf (arrV cA n z) ty := h n z
theorem znat {n : Nat} {i : Int} (h0 : 0 ≤ i) (h1 : i < n) : i.toNat < n := by omega
theorem zto {i : Int} (h0 : 0 ≤ i) : ((i.toNat : Nat) : Int) = i := Int.toNat_of_nonneg h0
section ZA
variable {x : zX} {own : String} {cc : ByteArray} {nL : Nat} {ret : Option FieldType} {nm : String} {F L mc ms : Nat} {H : Heap} {a b pc : Nat} {lv : List (Nat × Value)} {st : List Value} {idx q n t : Nat} {g : Int → Int} {gr : Int → Option Nat} {i : Int}
theorem z_iald (O : zOk x own cc nL ret nm F L mc ms) (d : decode cc pc = .ok (.iaload, 1)) (ho : zIA (zEn x) H q 0 n g) (hi : zR i) (h0 : 0 ≤ i) (h1 : i < n) (K : zG x H a b (pc + 1) lv (.int (iI (g i)) :: st)) : zG x H a b pc lv (.int (iI i) :: .ref q :: st) := by
  obtain ⟨⟨p, e, R, s, m⟩, ⟨args, below, meth, c⟩, E, mc', ms', post, px⟩ := x
  obtain ⟨hx, hb, hml, hr, hown, hlk, htb, hst, hnm, hR, hm1, hm2⟩ := O
  intro hk hf locs ls hl hlv
  obtain ⟨⟨f, hat, hfg⟩, hB⟩ := ho
  refine va_iald hx hb hk.1 (zArr_i hat) 0 0 rfl rfl (zix hi h0 h1) d ?_
  rw [zcl hi, hfg _ (znat h0 h1), zto h0]
  exact K hk hf locs ls hl hlv
theorem z_zald (O : zOk x own cc nL ret nm F L mc ms) (d : decode cc pc = .ok (.baload, 1)) (ho : zIA (zEn x) H q 1 n g) (hi : zR i) (h0 : 0 ≤ i) (h1 : i < n) (K : zG x H a b (pc + 1) lv (.int (iI (g i)) :: st)) : zG x H a b pc lv (.int (iI i) :: .ref q :: st) := by
  obtain ⟨⟨p, e, R, s, m⟩, ⟨args, below, meth, c⟩, E, mc', ms', post, px⟩ := x
  obtain ⟨hx, hb, hml, hr, hown, hlk, htb, hst, hnm, hR, hm1, hm2⟩ := O
  intro hk hf locs ls hl hlv
  obtain ⟨⟨f, hat, hfg⟩, hB⟩ := ho
  refine va_zald hx hb hk.1 (zArr_i hat) 0 1 rfl rfl (zix hi h0 h1) d ?_
  rw [zcl hi, hfg _ (znat h0 h1), zto h0]
  exact K hk hf locs ls hl hlv
theorem z_aald {T : Nat} (hT : t = 2 ∨ t = 3 ∨ t = 4) (O : zOk x own cc nL ret nm F L mc ms) (d : decode cc pc = .ok (.aaload, 1)) (ho : zRA (zEn x) H q t n gr) (hi : zR i) (h0 : 0 ≤ i) (h1 : i < n) (K : zG x H a b (pc + 1) lv (va_rf (gr i) :: st)) : zG x H a b pc lv (.int (iI i) :: .ref q :: st) := by
  obtain ⟨⟨p, e, R, s, m⟩, ⟨args, below, meth, c⟩, E, mc', ms', post, px⟩ := x
  obtain ⟨hx, hb, hml, hr, hown, hlk, htb, hst, hnm, hR, hm1, hm2⟩ := O
  intro hk hf locs ls hl hlv
  obtain ⟨⟨f, hat, hfg⟩, hB⟩ := ho
  rcases hT with rfl | rfl | rfl
  all_goals
    first
      | refine va_aldq hx hb hk.1 (zArr_q hat) 0 2 rfl rfl (zix hi h0 h1) d ?_
      | refine va_aldq hx hb hk.1 (zArr_q hat) 0 3 rfl rfl (zix hi h0 h1) d ?_
      | refine va_aldq hx hb hk.1 (zArr_q hat) 0 4 rfl rfl (zix hi h0 h1) d ?_
    rw [zcl hi, hfg _ (znat h0 h1), zto h0]
    exact K hk hf locs ls hl hlv
theorem z_alen (hT : t = 0 ∨ t = 1) (O : zOk x own cc nL ret nm F L mc ms) (d : decode cc pc = .ok (.arraylength, 1)) (ho : zIA (zEn x) H q t n g) (K : zG x H a b (pc + 1) lv (.int (iI n) :: st)) : zG x H a b pc lv (.ref q :: st) := by
  obtain ⟨⟨p, e, R, s, m⟩, ⟨args, below, meth, c⟩, E, mc', ms', post, px⟩ := x
  obtain ⟨hx, hb, hml, hr, hown, hlk, htb, hst, hnm, hR, hm1, hm2⟩ := O
  intro hk hf locs ls hl hlv
  obtain ⟨⟨f, hat, hfg⟩, hB⟩ := ho
  rcases hT with rfl | rfl
  · exact va_alen hx hb hk.1 (zArr_i hat) 0 0 rfl rfl (iI_nat n) d (K hk hf locs ls hl hlv)
  · exact va_alen hx hb hk.1 (zArr_i hat) 0 1 rfl rfl (iI_nat n) d (K hk hf locs ls hl hlv)
theorem z_alenR (hT : t = 2 ∨ t = 3 ∨ t = 4) (O : zOk x own cc nL ret nm F L mc ms) (d : decode cc pc = .ok (.arraylength, 1)) (ho : zRA (zEn x) H q t n gr) (K : zG x H a b (pc + 1) lv (.int (iI n) :: st)) : zG x H a b pc lv (.ref q :: st) := by
  obtain ⟨⟨p, e, R, s, m⟩, ⟨args, below, meth, c⟩, E, mc', ms', post, px⟩ := x
  obtain ⟨hx, hb, hml, hr, hown, hlk, htb, hst, hnm, hR, hm1, hm2⟩ := O
  intro hk hf locs ls hl hlv
  obtain ⟨⟨f, hat, hfg⟩, hB⟩ := ho
  rcases hT with rfl | rfl | rfl
  · exact va_alen hx hb hk.1 (zArr_q hat) 0 2 rfl rfl (iI_nat n) d (K hk hf locs ls hl hlv)
  · exact va_alen hx hb hk.1 (zArr_q hat) 0 3 rfl rfl (iI_nat n) d (K hk hf locs ls hl hlv)
  · exact va_alen hx hb hk.1 (zArr_q hat) 0 4 rfl rfl (iI_nat n) d (K hk hf locs ls hl hlv)
theorem z_iast {v : Int} (O : zOk x own cc nL ret nm F L mc ms) (d : decode cc pc = .ok (.iastore, 1)) (ho : zIA (zEn x) H q 0 n g) (hi : zR i) (h0 : 0 ≤ i) (h1 : i < n) (K : ∀ H1 : Heap, zIA (zEn x) H1 q 0 n (zU g i v) → zCh H H1 q → zG x H1 a b (pc + 1) lv st) : zG x H a b pc lv (.int (iI v) :: .int (iI i) :: .ref q :: st) := by
  obtain ⟨⟨p, e, R, s, m⟩, ⟨args, below, meth, c⟩, E, mc', ms', post, px⟩ := x
  obtain ⟨hx, hb, hml, hr, hown, hlk, htb, hst, hnm, hR, hm1, hm2⟩ := O
  intro hk hf locs ls hl hlv
  obtain ⟨⟨f, hat, hfg⟩, hB⟩ := ho
  refine W.iast hx hb hat ((hk.1.2 0 _ rfl).1 n (fun j => .int (f j))) (fun q => by cases q) (by show ¬ (_ ∨ (arrV _ _ _).slots.size ≤ _); rw [arrV_size]; exact zix hi h0 h1) rfl rfl d fun H1 e1 z1 o1 => ?_
  have hC : zCh H H1 q := ⟨z1, o1⟩
  rw [zcl hi] at e1
  refine K H1 ⟨⟨upd f i.toNat (iI v), ?_, ?_⟩, hB⟩ hC (hk.step (hC.F hB)) (hf.tr (hC.F hB)) _ ls (fun z hz => ?_) hlv
  · show H1[q]? = some (vp_cell _ _)
    rw [e1, vp_cell_i, vp_cell_i, arrV_store]
    congr 2
    funext j
    by_cases hj : j = i.toNat
    · subst hj; simp [updV, upd]
    · simp [updV, upd, hj]
  · intro j hj
    unfold upd zU
    by_cases hj2 : j = i.toNat
    · rw [if_pos hj2, if_pos (by omega)]
    · rw [if_neg hj2, if_neg (by omega)]; exact hfg j hj
  · rcases List.mem_append.mp hz with h | h
    · exact hl z h
    · rw [List.mem_singleton.mp h]; exact hB
theorem z_zast {v : Int} (O : zOk x own cc nL ret nm F L mc ms) (hv : v = 0 ∨ v = 1) (d : decode cc pc = .ok (.bastore, 1)) (ho : zIA (zEn x) H q 1 n g) (hi : zR i) (h0 : 0 ≤ i) (h1 : i < n) (K : ∀ H1 : Heap, zIA (zEn x) H1 q 1 n (zU g i v) → zCh H H1 q → zG x H1 a b (pc + 1) lv st) : zG x H a b pc lv (.int (iI v) :: .int (iI i) :: .ref q :: st) := by
  obtain ⟨⟨p, e, R, s, m⟩, ⟨args, below, meth, c⟩, E, mc', ms', post, px⟩ := x
  obtain ⟨hx, hb, hml, hr, hown, hlk, htb, hst, hnm, hR, hm1, hm2⟩ := O
  intro hk hf locs ls hl hlv
  obtain ⟨⟨f, hat, hfg⟩, hB⟩ := ho
  have hnv : vp_nar .boolean (iI v) = iI v := by rcases hv with rfl | rfl <;> decide +kernel
  refine W.zast hx hb hat ((hk.1.2 1 _ rfl).1 n (fun j => .int (f j))) (fun q => by cases q) (by show ¬ (_ ∨ (arrV _ _ _).slots.size ≤ _); rw [arrV_size]; exact zix hi h0 h1) rfl rfl d fun H1 e1 z1 o1 => ?_
  have hC : zCh H H1 q := ⟨z1, o1⟩
  rw [zcl hi] at e1
  refine K H1 ⟨⟨upd f i.toNat (iI v), ?_, ?_⟩, hB⟩ hC (hk.step (hC.F hB)) (hf.tr (hC.F hB)) _ ls (fun z hz => ?_) hlv
  · show H1[q]? = some (vp_cell _ _)
    rw [e1, vp_cell_i, vp_cell_i, arrV_store]
    congr 2
    funext j
    by_cases hj : j = i.toNat
    · subst hj
      simp only [updV, upd, if_true]
      rcases hv with rfl | rfl <;> rfl
    · simp [updV, upd, hj]
  · intro j hj
    unfold upd zU
    by_cases hj2 : j = i.toNat
    · rw [if_pos hj2, if_pos (by omega)]
    · rw [if_neg hj2, if_neg (by omega)]; exact hfg j hj
  · rcases List.mem_append.mp hz with h | h
    · exact hl z h
    · rw [List.mem_singleton.mp h]; exact hB
end ZA
