/-! rules of the walk: Math, arraycopy, clone -/
section ZNA
variable {x : zX} {own : String} {cc : ByteArray} {nL : Nat} {ret : Option FieldType} {nm : String} {F L mc ms : Nat} {H : Heap} {a b pc : Nat} {lv : List (Nat × Value)} {st rest : List Value} {idx q n t : Nat} {g : Int → Int} {u v : Int}
theorem z_mmin (hm : Cond.methodLink own idx Lib.Math.min.name ∈ lw_tbl) (O : zOk x own cc nL ret nm F L mc ms) (d : decode cc pc = .ok (.invokestatic idx, 3)) (hF : 1 ≤ F) (hL : (rest.map fun v => v.category).sum + 13 ≤ L) (h1 : a ≤ mc) (h2 : b ≤ ms) (hu : zR u) (hv : zR v) (K : zG x H a b (pc + 3) lv (.int (iI (min u v)) :: rest)) : zG x H a b pc lv (.int (iI v) :: .int (iI u) :: rest) := by
  obtain ⟨⟨p, e, R, s, m⟩, ⟨args, below, meth, c⟩, E, mc', ms', post, px⟩ := x
  obtain ⟨hx, hb, hml, hr, hown, hlk, htb, hst, hnm, hR, hm1, hm2⟩ := O
  intro hk hf locs ls hl hlv
  subst hR
  refine va_mmin hx hb hlv.1.symm hown (hk.2.2.1.at hm rfl rfl) (hk.2.2.1.at (by decide +kernel) rfl rfl) (hk.2.2.1.at (by decide +kernel) rfl rfl) (hk.2.2.1.at (by decide +kernel) rfl rfl) hF hL h1 h2 d ?_
  rw [show (if iI v < iI u then iI v else iI u) = iI (min u v) by
    rcases Int.lt_or_le v u with h | h
    · rw [if_pos ((iI_lt hv hu).mpr h), show min u v = v by omega]
    · rw [if_neg (fun q => by rw [iI_lt hv hu] at q; omega), show min u v = u by omega]]
  exact K hk hf locs ls hl hlv
theorem z_mmax (hm : Cond.methodLink own idx Lib.Math.max.name ∈ lw_tbl) (O : zOk x own cc nL ret nm F L mc ms) (d : decode cc pc = .ok (.invokestatic idx, 3)) (hF : 1 ≤ F) (hL : (rest.map fun v => v.category).sum + 13 ≤ L) (h1 : a ≤ mc) (h2 : b ≤ ms) (hu : zR u) (hv : zR v) (K : zG x H a b (pc + 3) lv (.int (iI (max u v)) :: rest)) : zG x H a b pc lv (.int (iI v) :: .int (iI u) :: rest) := by
  obtain ⟨⟨p, e, R, s, m⟩, ⟨args, below, meth, c⟩, E, mc', ms', post, px⟩ := x
  obtain ⟨hx, hb, hml, hr, hown, hlk, htb, hst, hnm, hR, hm1, hm2⟩ := O
  intro hk hf locs ls hl hlv
  subst hR
  refine va_mmax hx hb hlv.1.symm hown (hk.2.2.1.at hm rfl rfl) (hk.2.2.1.at (by decide +kernel) rfl rfl) (hk.2.2.1.at (by decide +kernel) rfl rfl) (hk.2.2.1.at (by decide +kernel) rfl rfl) hF hL h1 h2 d ?_
  first
    | rw [show (if iI u < iI v then iI v else iI u) = iI (max u v) by
        rcases Int.lt_or_le u v with h | h
        · rw [if_pos ((iI_lt hu hv).mpr h), show max u v = v by omega]
        · rw [if_neg (fun q => by rw [iI_lt hu hv] at q; omega), show max u v = u by omega]]
    | rw [show (if iI v < iI u then iI u else iI v) = iI (max u v) by
        rcases Int.lt_or_le v u with h | h
        · rw [if_pos ((iI_lt hv hu).mpr h), show max u v = u by omega]
        · rw [if_neg (fun q => by rw [iI_lt hv hu] at q; omega), show max u v = v by omega]]
    | rw [show (if iI u ≤ iI v then iI v else iI u) = iI (max u v) by
        rcases Int.lt_or_le v u with h | h
        · rw [if_neg (fun q => by rw [iI_le hu hv] at q; omega), show max u v = u by omega]
        · rw [if_pos ((iI_le hu hv).mpr h), show max u v = v by omega]]
  exact K hk hf locs ls hl hlv
/-- the numbers of a row, laid over another's -/
def zCpy (f g : Int → Int) (sp dp n : Int) : Int → Int := fun j => if dp ≤ j ∧ j < dp + n then f (sp + (j - dp)) else g j
theorem z_acopy {q0 n0 : Nat} {f : Int → Int} {sp dp k : Int} (hm : Cond.methodLink own idx arraycopyName ∈ lw_tbl) (O : zOk x own cc nL ret nm F L mc ms) (d : decode cc pc = .ok (.invokestatic idx, 3)) (hF : 1 ≤ F) (hL : (rest.map fun v => v.category).sum + (nativeFrameWords "java/lang/System" "arraycopy" 5 + 11) ≤ L)
    (ho0 : zIA (zEn x) H q0 0 n0 f) (ho : zIA (zEn x) H q 0 n g) (r1 : zR sp) (r2 : zR dp) (r3 : zR k) (h1 : 0 ≤ sp) (h2 : 0 ≤ dp) (h3 : 0 ≤ k) (h4 : sp + k ≤ n0) (h5 : dp + k ≤ n) (K : ∀ H1 : Heap, zIA (zEn x) H1 q 0 n (zCpy f g sp dp k) → zCh H H1 q → zG x H1 a b (pc + 3) lv rest) : zG x H a b pc lv (.int (iI k) :: .int (iI dp) :: .ref q :: .int (iI sp) :: .ref q0 :: rest) := by
  obtain ⟨⟨p, e, R, s, m⟩, ⟨args, below, meth, c⟩, E, mc', ms', post, px⟩ := x
  obtain ⟨hx, hb, hml, hr, hown, hlk, htb, hst, hnm, hR, hm1, hm2⟩ := O
  intro hk hf locs ls hl hlv
  subst hR
  obtain ⟨⟨f0, hat0, hfg0⟩, hB0⟩ := ho0
  obtain ⟨⟨g0, hat, hfg⟩, hB⟩ := ho
  have hc0 : H[q0]? = some (vp_cell (E.2.2.1 0) (n0, .inl f0)) := hat0
  have hc1 : H[q]? = some (vp_cell (E.2.2.1 0) (n, .inl g0)) := hat
  obtain ⟨-, k0, hk0, cm0, hkk0⟩ := (hk.1.2 0 _ rfl).1 n0 (fun j => .int (f0 j))
  have ng : ∀ z : Int, zR z → 0 ≤ z → ¬ iI z < 0 := fun z hz h0 hq => by rw [iI_0, iI_lt hz zR0] at hq; omega
  intro T hT X
  obtain ⟨vm', X', step⟩ := X.arraycopy hx hown (hk.2.2.1.at hm rfl rfl) (hk.2.2.1.at (by decide +kernel) rfl rfl) (hk.2.2.1.at (by decide +kernel) rfl rfl) (hk.2.2.1.at (by decide +kernel) rfl rfl) (src := q0) (dst := q) (cs := vp_cell (E.2.2.1 0) (n0, .inl f0)) (cd := vp_cell (E.2.2.1 0) (n, .inl g0)) (srcPos := iI sp) (destPos := iI dp) (n := iI k) (by rw [hT]; exact hc0) (by rw [hT]; exact hc1)
    (fun _ h => by cases h) (fun _ h => by cases h) (fun h => by cases h) (fun h => by cases h) hk0 hk0 hkk0 hkk0 (by simp [refKind]) (ng sp r1 h1) (ng dp r2 h2) (ng k r3 h3)
    (by rw [iI_toInt r1, iI_toInt r3]; show ¬ _ > ((arrV (E.2.2.1 0) n0 (fun j => .int (f0 j))).slots.size : Int); rw [arrV_size]; omega)
    (by rw [iI_toInt r2, iI_toInt r3]; show ¬ _ > ((arrV (E.2.2.1 0) n (fun j => .int (g0 j))).slots.size : Int); rw [arrV_size]; omega)
    (fun vm₁ _ i hi => by
      rw [zcl r3] at hi
      have e9 : (vp_cell (E.2.2.1 0) (n0, .inl f0)).slots.getD ((iI sp).toNatClampNeg + i) .null = .int (f0 ((iI sp).toNatClampNeg + i)) := by
        show (arrV (E.2.2.1 0) n0 (fun j => .int (f0 j))).slots.getD _ _ = _
        rw [Array.getD_eq_getD_getElem?, arrV_read _ _ (by rw [zcl r1]; omega)]
        rfl
      refine ⟨?_, ?_⟩
      · rw [e9]
        rfl
      · rw [e9]
        exact trivial)
    (g := F0 m pc ls (.int (iI k) :: .int (iI dp) :: .ref q :: .int (iI sp) :: .ref q0 :: rest)) rfl hlv.1 (rest := rest) rfl (by rw [hb]; exact d) hF (by show 2 * 0 + _ + _ ≤ L; omega)
  have e1 : copied (vp_cell (E.2.2.1 0) (n0, .inl f0)) (vp_cell (E.2.2.1 0) (n, .inl g0)) (iI sp) (iI dp) (iI k) = vp_cell (E.2.2.1 0) (n, .inl (va_cpy f0 g0 (iI sp).toNatClampNeg (iI dp).toNatClampNeg (iI k).toNatClampNeg)) := va_copied (fun z => .int z) _ _ f0 g0 (by rw [zcl r1, zcl r3]; omega)
  rw [e1] at X' step
  have hlq : q < H.size := (Array.getElem?_eq_some_iff.mp hc1).1
  generalize hH1 : H.setIfInBounds q (vp_cell (E.2.2.1 0) (n, .inl (va_cpy f0 g0 (iI sp).toNatClampNeg (iI dp).toNatClampNeg (iI k).toNatClampNeg))) = H1
  have hheap : ((T.setVm vm').setCell q (vp_cell (E.2.2.1 0) (n, .inl (va_cpy f0 g0 (iI sp).toNatClampNeg (iI dp).toNatClampNeg (iI k).toNatClampNeg)))).heap = H1 := by rw [← hH1, ← hT]; rfl
  have hC : zCh H H1 q := ⟨by rw [← hH1]; simp, fun r hr => by rw [← hH1]; simp [Array.getElem?_setIfInBounds, Ne.symm hr]⟩
  have hat1 : va_at E.2.1 vwCl (q, .inl (E.2.2.1 0, n, .inl (va_cpy f0 g0 (iI sp).toNatClampNeg (iI dp).toNatClampNeg (iI k).toNatClampNeg))) H1 := by
    show H1[q]? = some _
    rw [← hH1]
    simp [Array.getElem?_setIfInBounds, hlq]
  obtain ⟨t9, a1, b1⟩ := K H1 ⟨⟨_, hat1, fun j hj => by
      rw [zcl r1, zcl r2, zcl r3]
      unfold zCpy
      by_cases hin : dp ≤ (j : Int) ∧ (j : Int) < dp + k
      · rw [if_pos hin, pk_cpy_in (by omega) (by omega), hfg0 _ (by omega)]
        congr 2
        omega
      · rw [if_neg hin, pk_cpy_out (by omega), hfg j hj]⟩, hB⟩ hC (hk.step (hC.F hB)) (hf.tr (hC.F hB)) _ ls (fun z hz => by
      rcases List.mem_append.mp hz with h | h
      · exact hl z h
      · obtain ⟨z9, -, hz9⟩ := List.mem_map.mp h
        rw [← hz9]
        exact hB) hlv _ hheap X'
  exact ⟨t9, step t9 a1, b1⟩
theorem z_clone (hm : Cond.methodLink own idx ⟨"[I", "clone", "()Ljava/lang/Object;"⟩ ∈ lw_tbl) (O : zOk x own cc nL ret nm F L mc ms) (d : decode cc pc = .ok (.invokevirtual idx, 3)) (hF : 1 ≤ F) (hL : (rest.map fun v => v.category).sum + 14 ≤ L) (h1 : a + 1 ≤ mc) (h2 : b + n ≤ ms)
    (ho : zIA (zEn x) H q 0 n g) (K : ∀ H1 : Heap, zIA (zEn x) H1 H.size 0 n g → zNew H H1 → zG x H1 (a + 1) (b + n) (pc + 3) lv (.ref H.size :: rest)) : zG x H a b pc lv (.ref q :: rest) := by
  obtain ⟨⟨p, e, R, s, m⟩, ⟨args, below, meth, c⟩, E, mc', ms', post, px⟩ := x
  obtain ⟨hx, hb, hml, hr, hown, hlk, htb, hst, hnm, hR, hm1, hm2⟩ := O
  intro hk hf locs ls hl hlv
  subst hR
  obtain ⟨⟨f, hat, hfg⟩, hB⟩ := ho
  have hcell : H[q]? = some (vp_cell (E.2.2.1 0) (n, .inl f)) := hat
  have hsz : (vp_cell (E.2.2.1 0) (n, .inl f)).slots.size = n := arrV_size _ _ _
  have hnm9 : s.vm.findClass "[I" = some (E.2.2.1 0) := (hk.1.2 0 _ rfl).2
  have hcas : va_Nw (.castable "[I" "java/lang/Cloneable") s := hk.2.2.1 _ (by decide +kernel) rfl
  obtain ⟨c0, t0', f1, f2, f3⟩ := Cond.castable_spec (va_Nw.use (A := args) rfl hcas)
  cases hnm9.symm.trans f1
  intro T hT X
  have hcellT : T.heap[q]? = some (vp_cell (E.2.2.1 0) (n, .inl f)) := by rw [hT]; exact hcell
  obtain ⟨-, kA, hkA, comp, hkind⟩ := State.isArrayOf_alike X.warmed.alike ((hk.1.2 0 _ rfl).1 0 (fun _ => .null))
  obtain ⟨-, kS, hkS, compS, hkindS⟩ := (hk.1.2 0 _ rfl).1 0 (fun _ => .null)
  obtain ⟨vm', X', st9⟩ := X.cloneArray hx hown (hk.2.2.1.at hm rfl rfl) (hk.2.2.1.at (by decide +kernel) rfl rfl) (hk.2.2.1.at (by decide +kernel) rfl rfl) (hk.2.2.1.at (by decide +kernel) rfl rfl) (hk.2.2.1.at (by decide +kernel) rfl rfl) (a := q) (cell := vp_cell (E.2.2.1 0) (n, .inl f)) hcellT (fun k h => by cases h) (fun h => by cases h) hnm9 f2 f3
    (fun i v hv => by
      have hk' : T.vm.classes[E.2.2.1 0]? = some kA := hkA
      have hv2 : ∃ z : Int32, v = .int z := by
        have hlt : i < n := by have := (Array.getElem?_eq_some_iff.mp hv).1; rw [hsz] at this; exact this
        have hv3 : (arrV (E.2.2.1 0) n (fun j => .int (f j))).slots[i]? = some v := hv
        rw [arrV_read _ _ hlt] at hv3
        exact ⟨_, (Option.some.inj hv3).symm⟩
      obtain ⟨z, rfl⟩ := hv2
      show T.fitsSlot (E.2.2.1 0) .none i (.int z) = true
      simp [State.fitsSlot, State.slotType?, hk', hkind, fits])
    (g := F0 m pc ls (.ref q :: rest)) rfl hlv.1 rfl (by rw [hb]; exact d) hF (by show 2 * 0 + _ + 14 ≤ L; omega) h1 (by rw [hsz]; exact h2) (hloader := Vm.clonesLoader_of_array hkS hkindS)
  have hcE : ({ cls := (vp_cell (E.2.2.1 0) (n, .inl f)).cls, slots := (vp_cell (E.2.2.1 0) (n, .inl f)).slots } : Cell) = vp_cell (E.2.2.1 0) (n, .inl f) := rfl
  rw [hcE, hsz] at X'
  have hN := zPush (H := H) (c := vp_cell (E.2.2.1 0) (n, .inl f))
  have hat1 : va_at E.2.1 vwCl (H.size, .inl (E.2.2.1 0, n, .inl f)) (H.push (vp_cell (E.2.2.1 0) (n, .inl f))) := by
    show (H.push _)[H.size]? = some _
    rw [Array.getElem?_push_size]
  obtain ⟨t9, b1, b2⟩ := K (H.push (vp_cell (E.2.2.1 0) (n, .inl f))) ⟨⟨f, hat1, hfg⟩, hk.2.1⟩ hN (hk.step (hN.F hk.2.1)) (hf.tr (hN.F hk.2.1)) locs ls hl hlv ((T.setVm vm').pushCell (vp_cell (E.2.2.1 0) (n, .inl f))) (by rw [← hT]; rfl) X'
  refine ⟨t9, st9 t9 ?_, b2⟩
  rw [hcE, hT]
  exact b1
theorem z_castI (hm : Cond.classLink own idx "[I" ∈ lw_tbl) (O : zOk x own cc nL ret nm F L mc ms) (d : decode cc pc = .ok (.checkcast idx, 3)) (ho : zIA (zEn x) H q 0 n g) (K : zG x H a b (pc + 3) lv (.ref q :: rest)) : zG x H a b pc lv (.ref q :: rest) := by
  obtain ⟨⟨p, e, R, s, m⟩, ⟨args, below, meth, c⟩, E, mc', ms', post, px⟩ := x
  obtain ⟨hx, hb, hml, hr, hown, hlk, htb, hst, hnm, hR, hm1, hm2⟩ := O
  intro hk hf locs ls hl hlv
  obtain ⟨⟨f, hat, hfg⟩, hB⟩ := ho
  exact va_castA hx hb hown (hk.2.2.1.at hm rfl rfl) (zArr_i hat) 0 rfl (hk.1.2 0 _ rfl).2 d (K hk hf locs ls hl hlv)
end ZNA
