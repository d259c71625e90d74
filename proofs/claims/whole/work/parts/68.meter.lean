/-! the meter: how much of the room has been used is read off the heap -/
def zSz (H : Heap) : Nat := (H.toList.map (fun c => c.slots.size)).sum
theorem zSz_same {s t : State} {locs : List Loc} {c n : Nat} (h : s.sameButNew t locs c n) : zSz t.heap = zSz s.heap + ((t.heap.toList.drop s.heap.size).map (fun c => c.slots.size)).sum := by
  obtain ⟨-, h2, -, -, -, h6⟩ := h
  have e : (t.heap.toList.take s.heap.size).map (fun c => c.slots.size) = s.heap.toList.map (fun c => c.slots.size) := by
    apply List.ext_getElem?
    intro i
    rw [List.getElem?_map, List.getElem?_map, List.getElem?_take]
    by_cases hi : i < s.heap.size
    · rw [if_pos hi]
      obtain ⟨c', e1, -, e3, -⟩ := h6 i _ (Array.getElem?_eq_getElem hi)
      rw [Array.getElem?_toList, Array.getElem?_toList, e1, Array.getElem?_eq_getElem hi]
      show some c'.slots.size = some _
      rw [e3]
    · rw [if_neg hi, Array.getElem?_toList, Array.getElem?_eq_none (by omega)]
  unfold zSz
  rw [← e, ← List.sum_append, ← List.map_append, List.take_append_drop]
theorem zSz_le {s u : State} {locs : List Loc} {c n : Nat} (h : s.sameButNew u locs c n) : u.heap.size ≤ s.heap.size + c ∧ zSz u.heap ≤ zSz s.heap + n :=
  ⟨h.2.2.1, by rw [zSz_same h]; exact Nat.add_le_add_left h.2.2.2.2.1 _⟩
/-- the heap at the method's entry -/
def zH0 (x : zX) : Heap := x.1.2.2.2.1.heap
section ZM
variable {x : zX} {H : Heap} {a b pc : Nat} {lv : List (Nat × Value)} {st : List Value}
theorem z_meter (K : H.size ≤ (zH0 x).size + a → zSz H ≤ zSz (zH0 x) + b → zG x H a b pc lv st) : zG x H a b pc lv st := by
  obtain ⟨⟨p, e, R, s, m⟩, ⟨args, below, meth, c⟩, E, mc', ms', post, px⟩ := x
  intro hk hf locs ls hl hlv T hT X
  have hs := zSz_le X.same
  refine K ?_ ?_ hk hf locs ls hl hlv T hT X
  · rw [← hT]; exact hs.1
  · rw [← hT]; exact hs.2
theorem z_tight {a' b' : Nat} (h1 : H.size ≤ (zH0 x).size + a') (h2 : zSz H ≤ zSz (zH0 x) + b') (K : zG x H a' b' pc lv st) : zG x H a b pc lv st := by
  obtain ⟨⟨p, e, R, s, m⟩, ⟨args, below, meth, c⟩, E, mc', ms', post, px⟩ := x
  intro hk hf locs ls hl hlv T hT X
  have hs := X.same
  have e2 : zSz T.heap = zSz s.heap + ((T.heap.toList.drop s.heap.size).map (fun c => c.slots.size)).sum := zSz_same (t := T.setVm s.vm) hs
  have h1' : T.heap.size ≤ s.heap.size + a' := by rw [hT]; exact h1
  have h2' : zSz T.heap ≤ zSz s.heap + b' := by rw [hT]; exact h2
  rw [e2] at h2'
  exact K hk hf locs ls hl hlv T hT { X with same := ⟨hs.1, hs.2.1, h1', hs.2.2.2.1, Nat.le_of_add_le_add_left h2', hs.2.2.2.2.2⟩ }
end ZM
theorem zC.of2 {E : zE} {y : MethodName} {cc : ByteArray} {nL : Nat} {ret : Option FieldType} {F L : Nat} {av : List Value} {H : Heap} {mc ms : Nat} {post : Option Value → Heap → Prop} {px : String → Heap → Prop}
    (hy : plainName y.cls = true) (hl : (lg_sl av).length ≤ nL) (hst : E.1.stackTraces = false)
    (body : ∀ x : zX, zOk x y.cls cc nL ret y.name F L mc ms → zEn x = E → zPo x = post → zPx x = px → zH0 x = H → zG x H 0 0 0 (lv_args 0 av) []) : zC E y cc nL ret F L av H mc ms post px := by
  refine vx_ofW hy rfl ?_
  intro p e s m args below meth c s₁ B hml htab hv
  obtain ⟨rfl, rfl, hK⟩ := hv
  have hnm : meth.name = y.name := (name_of_methodNamed B.named B.method).1
  have b := body ((p, e, { frames := F, cells := mc, slots := ms, locals := L }, s, m), (av.toArray, below, meth, c), E, (mc, ms, post, px))
    ⟨B.exec, B.bytes, hml, B.returns, findClass_of_methodNamed B.named, B.notSynchronized, htab, hst, hnm, rfl, rfl, rfl⟩ rfl rfl rfl rfl
  rw [lg_entry_eq]
  exact b hK zF.rf [] _ (fun _ h => nomatch h) (by rw [hml]; exact lv_entry av hl)
section ZSZ
variable {E : zE} {y : MethodName} {cc : ByteArray} {nL : Nat} {ret : Option FieldType} {F L : Nat} {av : List Value} {H : Heap} {mc ms : Nat} {post : Option Value → Heap → Prop} {px : String → Heap → Prop}
/-- a contract tells how much has been used -/
theorem zC.sz (h : zC E y cc nL ret F L av H mc ms post px) : zC E y cc nL ret F L av H mc ms (fun v H1 => post v H1 ∧ H1.size ≤ H.size + mc ∧ zSz H1 ≤ zSz H + ms) px := by
  intro p e ha hf hc s m args below hfr hap hP hK
  obtain ⟨n, o, h1, h2, h3, h4⟩ := h p e ha hf hc s m args below hfr hap hP hK
  refine ⟨n, o, h1, h2, h3, ?_⟩
  rcases h4 with ⟨⟨⟨v, ho, hp⟩, hF⟩, L', hFE, hL⟩ | h4
  · have hs := hFE.2.2
    have e1 : (stepsAlone p.tables e n s).heap.size ≤ s.heap.size + mc := (zSz_le hs).1
    have e4 : zSz (stepsAlone p.tables e n s).heap ≤ zSz s.heap + ms := (zSz_le hs).2
    rw [hP.2.1] at e1 e4
    exact Or.inl ⟨⟨⟨v, ho, hp, e1, e4⟩, hF⟩, L', hFE, hL⟩
  · exact Or.inr h4
theorem zC.szx (h : zC E y cc nL ret F L av H mc ms post px) : zC E y cc nL ret F L av H mc ms post (fun X H1 => px X H1 ∧ H1.size ≤ H.size + mc ∧ zSz H1 ≤ zSz H + ms) := by
  intro p e ha hf hc s m args below hfr hap hP hK
  obtain ⟨n, o, h1, h2, h3, h4⟩ := h p e ha hf hc s m args below hfr hap hP hK
  refine ⟨n, o, h1, h2, h3, ?_⟩
  rcases h4 with h4 | ⟨q, ho, En, ce, L', ⟨hx, hF⟩, g1, g2, g3, g4, hs, g5⟩
  · exact Or.inl h4
  · have e1 : (stepsAlone p.tables e n s).heap.size ≤ s.heap.size + mc := (zSz_le hs).1
    have e4 : zSz (stepsAlone p.tables e n s).heap ≤ zSz s.heap + ms := (zSz_le hs).2
    rw [hP.2.1] at e1 e4
    exact Or.inr ⟨q, ho, En, ce, L', ⟨⟨hx, e1, e4⟩, hF⟩, g1, g2, g3, g4, hs, g5⟩
/-- another post, another throw -/
theorem zC.to {post' : Option Value → Heap → Prop} {px' : String → Heap → Prop} (h : zC E y cc nL ret F L av H mc ms post px) (hp : ∀ v H1, post v H1 → post' v H1) (hx : ∀ X H1, px X H1 → px' X H1) : zC E y cc nL ret F L av H mc ms post' px' := by
  intro p e ha hf hc s m args below hfr hap hP hK
  obtain ⟨n, o, h1, h2, h3, h4⟩ := h p e ha hf hc s m args below hfr hap hP hK
  refine ⟨n, o, h1, h2, h3, ?_⟩
  rcases h4 with ⟨⟨⟨v, ho, hq⟩, hF⟩, L', hFE, hL⟩ | ⟨q, ho, En, ce, L', ⟨hxx, hF⟩, g⟩
  · exact Or.inl ⟨⟨⟨v, ho, hp v _ hq⟩, hF⟩, L', hFE, hL⟩
  · exact Or.inr ⟨q, ho, En, ce, L', ⟨hx _ _ hxx, hF⟩, g⟩
end ZSZ
/-- nothing old has changed -/
def zEx (H H1 : Heap) : Prop := H.size ≤ H1.size ∧ ∀ q : Nat, q < H.size → H1[q]? = H[q]?
section ZTX
variable {x : zX} {own : String} {cc : ByteArray} {nL : Nat} {ret : Option FieldType} {nm : String} {F L mc ms : Nat} {H : Heap} {a b pc : Nat} {lv : List (Nat × Value)} {rest : List Value} {ik is ic : Nat} {cls : String} {names : List String}
theorem z_throwX (Lk : zTh own ik is ic cls names) (O : zOk x own cc nL ret nm F L mc ms)
    (d0 : decode cc pc = .ok (.new ik, 3)) (d3 : decode cc (pc + 3) = .ok (.dup, 1)) (d4 : decode cc (pc + 4) = .ok (.ldc is, 2)) (d6 : decode cc (pc + 6) = .ok (.invokespecial ic, 3)) (d9 : decode cc (pc + 9) = .ok (.athrow, 1))
    (hF : names.length + 3 < F) (hL : (rest.map fun v => v.category).sum + (13 * (names.length + 1) + 43) ≤ L) (h1 : a + 1 ≤ mc) (h2 : b + 6 ≤ ms) (hpx : ∀ H1 : Heap, zEx H H1 → H1.size ≤ (zH0 x).size + (a + 1) → zSz H1 ≤ zSz (zH0 x) + (b + 6) → zPx x cls H1) : zG x H a b pc lv rest := by
  obtain ⟨⟨p, e, R, s, m⟩, ⟨args, below, meth, c⟩, E, mc', ms', post, px⟩ := x
  obtain ⟨hx, hb, hml, hr, hown, hlk, htb, hst, hnm, hR, hm1, hm2⟩ := O
  intro hk hf locs ls hl hlv
  subst hR
  subst hm1 hm2
  obtain ⟨t1, t2, t3, t4, ⟨text, t5⟩, t6⟩ := Lk
  have hw := hk.2.2.1
  obtain ⟨sa, hsa⟩ := hk.2.2.2.1 _ _ _ t5
  have hg := zTh_good hw t6
  have hback : ∀ q : Nat, q < H.size → ¬ (E.2.2.2 ≤ q) → s.heap[q]? = H[q]? := fun q _ hq => (hf.2 q (by omega)).symm
  have key := vx_throwS (R := { frames := F, cells := mc', slots := ms', locals := L }) (Qc := fun _ _ _ _ => False) (XC := fun X _ t => X = cls ∧ zEx H t.heap ∧ zF E s.heap t.heap) (mc := a + 1) (ms := b + 6) (free := fun q => E.2.2.2 ≤ q) (below := below) (e := e) (p := p) hx hb hst hown t1 t2 (hw.at t3 rfl rfl) (hw.at t4 rfl rfl) hsa (fun w hm => (hg w hm).1 args) (fun w hm => by
      rcases List.mem_cons.mp hm with rfl | hm
      · rfl
      rcases List.mem_cons.mp hm with rfl | hm
      · rfl
      exact (hg w hm).2) (A := fun q => E.2.2.2 ≤ q) (hk.2.2.2.2.1.kept hback) (hk.2.2.2.2.2.1.kept hback) ⟨hf.1, fun q _ hq => hf.2 q (by omega), hl⟩ hlv.1 d0 d3 d4 d6 d9 (fun z hz => (htb z hz).elim) hF hL h1 h2 hlk
    (fun t9 _ hsz hq => ⟨rfl, ⟨hsz, hq⟩, hf.tr ⟨hsz, fun q hB => hq q (Nat.lt_of_lt_of_le hB hk.2.1)⟩⟩) hl (Nat.le_refl _) (Nat.le_refl _)
  intro T hT X
  obtain ⟨t, st, o, hr1, he, hq⟩ := key T hT X
  refine ⟨t, st, o, hr1, he, ?_⟩
  rcases hq with ⟨hq, -⟩ | ⟨q, ho, En, ce, L', ⟨rfl, hext, hFF⟩, g1, g2, g3, g4, hs, g5⟩
  · exact hq.elim
  · have e1 : t.heap.size ≤ s.heap.size + (a + 1) := (zSz_le hs).1
    have e4 : zSz t.heap ≤ zSz s.heap + (b + 6) := (zSz_le hs).2
    exact Or.inr ⟨q, ho, _, ce, L', ⟨hpx t.heap hext e1 e4, hFF⟩, g1, g2, g3, g4, hs.mono h1 h2, g5⟩
theorem z_throwXW (Lk : zTh own ik is ic cls names) (O : zOk x own cc nL ret nm F L mc ms)
    (d0 : decode cc pc = .ok (.new ik, 3)) (d3 : decode cc (pc + 3) = .ok (.dup, 1)) (d4 : decode cc (pc + 4) = .ok (.ldc_w is, 3)) (d6 : decode cc (pc + 7) = .ok (.invokespecial ic, 3)) (d9 : decode cc (pc + 10) = .ok (.athrow, 1))
    (hF : names.length + 3 < F) (hL : (rest.map fun v => v.category).sum + (13 * (names.length + 1) + 43) ≤ L) (h1 : a + 1 ≤ mc) (h2 : b + 6 ≤ ms) (hpx : ∀ H1 : Heap, zEx H H1 → H1.size ≤ (zH0 x).size + (a + 1) → zSz H1 ≤ zSz (zH0 x) + (b + 6) → zPx x cls H1) : zG x H a b pc lv rest := by
  obtain ⟨⟨p, e, R, s, m⟩, ⟨args, below, meth, c⟩, E, mc', ms', post, px⟩ := x
  obtain ⟨hx, hb, hml, hr, hown, hlk, htb, hst, hnm, hR, hm1, hm2⟩ := O
  intro hk hf locs ls hl hlv
  subst hR
  subst hm1 hm2
  obtain ⟨t1, t2, t3, t4, ⟨text, t5⟩, t6⟩ := Lk
  have hw := hk.2.2.1
  obtain ⟨sa, hsa⟩ := hk.2.2.2.1 _ _ _ t5
  have hg := zTh_good hw t6
  have hback : ∀ q : Nat, q < H.size → ¬ (E.2.2.2 ≤ q) → s.heap[q]? = H[q]? := fun q _ hq => (hf.2 q (by omega)).symm
  have key := vx_throwSW (R := { frames := F, cells := mc', slots := ms', locals := L }) (Qc := fun _ _ _ _ => False) (XC := fun X _ t => X = cls ∧ zEx H t.heap ∧ zF E s.heap t.heap) (mc := a + 1) (ms := b + 6) (free := fun q => E.2.2.2 ≤ q) (below := below) (e := e) (p := p) hx hb hst hown t1 t2 (hw.at t3 rfl rfl) (hw.at t4 rfl rfl) hsa (fun w hm => (hg w hm).1 args) (fun w hm => by
      rcases List.mem_cons.mp hm with rfl | hm
      · rfl
      rcases List.mem_cons.mp hm with rfl | hm
      · rfl
      exact (hg w hm).2) (A := fun q => E.2.2.2 ≤ q) (hk.2.2.2.2.1.kept hback) (hk.2.2.2.2.2.1.kept hback) ⟨hf.1, fun q _ hq => hf.2 q (by omega), hl⟩ hlv.1 d0 d3 d4 d6 d9 (fun z hz => (htb z hz).elim) hF hL h1 h2 hlk
    (fun t9 _ hsz hq => ⟨rfl, ⟨hsz, hq⟩, hf.tr ⟨hsz, fun q hB => hq q (Nat.lt_of_lt_of_le hB hk.2.1)⟩⟩) hl (Nat.le_refl _) (Nat.le_refl _)
  intro T hT X
  obtain ⟨t, st, o, hr1, he, hq⟩ := key T hT X
  refine ⟨t, st, o, hr1, he, ?_⟩
  rcases hq with ⟨hq, -⟩ | ⟨q, ho, En, ce, L', ⟨rfl, hext, hFF⟩, g1, g2, g3, g4, hs, g5⟩
  · exact hq.elim
  · have e1 : t.heap.size ≤ s.heap.size + (a + 1) := (zSz_le hs).1
    have e4 : zSz t.heap ≤ zSz s.heap + (b + 6) := (zSz_le hs).2
    exact Or.inr ⟨q, ho, _, ce, L', ⟨hpx t.heap hext e1 e4, hFF⟩, g1, g2, g3, g4, hs.mono h1 h2, g5⟩
end ZTX
