/-! the law: arrays of longs, methods with handlers (written by program: wip/whole/gen/class28.py) -/
/-- as zOk, with a table of handlers -/
def zOkH (x : zX) (own : String) (cc : ByteArray) (nL : Nat) (ret : Option FieldType) (nm : String) (F L mc ms : Nat) (hh : List (Nat × Nat × Nat × Nat)) : Prop := match x with
  | ((p, _, R, s, m), (args, _, meth, c), E, (mc', ms', _, _)) => p.tables.exec = Jvm.exec ∧ c.code = cc ∧ c.maxLocals = nL ∧ meth.sig.returnType = ret ∧ s.vm.findClass own = some m.cls ∧ meth.locks = false ∧ c.exceptionTable.toList = tableOf hh ∧ E.1.stackTraces = false ∧ meth.name = nm ∧ R = { frames := F, cells := mc, slots := ms, locals := L } ∧ mc' = mc ∧ ms' = ms
theorem zOk.h {x : zX} {own : String} {cc : ByteArray} {nL : Nat} {ret : Option FieldType} {nm : String} {F L mc ms : Nat} (O : zOk x own cc nL ret nm F L mc ms) : zOkH x own cc nL ret nm F L mc ms [] := by
  obtain ⟨⟨p, e, R, s, m⟩, ⟨args, below, meth, c⟩, E, mc', ms', post, px⟩ := x
  obtain ⟨hx, hb, hml, hr, hown, hlk, htb, hst, hnm, hR, hm1, hm2⟩ := O
  exact ⟨hx, hb, hml, hr, hown, hlk, List.eq_nil_iff_forall_not_mem.mpr htb, hst, hnm, hR, hm1, hm2⟩
/-- an array of one long -/
def zLI (E : zE) (H : Heap) (q : Nat) (v : Int64) : Prop := (∃ f : Nat → Int64, va_at E.2.1 vwCl (q, .inl (E.2.2.1 5, 1, .inr (.inl f))) H ∧ f 0 = v) ∧ E.2.2.2 ≤ q
def zLA (E : zE) (H : Heap) (r : zH) (t q : Nat) (v : Int64) : Prop := zLI E H q v ∧ r.1 q = t
theorem zLI.lt {E : zE} {H : Heap} {q : Nat} {v : Int64} (h : zLI E H q v) : q < H.size := by obtain ⟨⟨f, h1, -⟩, -⟩ := h; exact h1.lt
theorem zLI.kept {E : zE} {H H1 : Heap} {q : Nat} {v : Int64} (h : zLI E H q v) (e : H1[q]? = H[q]?) : zLI E H1 q v := by
  obtain ⟨⟨f, h1, h2⟩, h3⟩ := h
  exact ⟨⟨f, h1.kept e, h2⟩, h3⟩
theorem zLA.fr {E : zE} {H H1 : Heap} {r r1 : zH} {T : Nat → Prop} {t q : Nat} {v : Int64} (h : zLA E H r t q v) (f : zFr H r H1 r1 T) (m : ¬ T t) : zLA E H1 r1 t q v := ⟨h.1.kept (f.2.2.1 q h.1.lt (by rw [h.2]; exact m)), (f.2.1 q h.1.lt).trans h.2⟩
theorem zLA.ch {E : zE} {H H1 : Heap} {r : zH} {t q : Nat} {v : Int64} (h : zLA E H r t q v) (c : zCh H H1 q) : zFr H r H1 r (fun s => s = t) := by rw [← h.2]; exact c.fr r
theorem zArr_l {D : va_G} {cl : List vw_C} {q : Nat} {c : ClassId} {n : Nat} {f : Nat → Int64} {H : Heap} (h : va_at D cl (q, .inl (c, n, .inr (.inl f))) H) : va_P D cl [(q, .inl (c, n, .inr (.inl f)))] H := fun i z hz => by
  rcases i with _ | i
  · cases hz; exact h
  · cases hz
section ZW1
variable {x : zX} {own : String} {cc : ByteArray} {nL : Nat} {ret : Option FieldType} {nm : String} {F L mc ms : Nat} {H : Heap} {a b pc : Nat} {lv : List (Nat × Value)} {st : List Value} {idx q n t : Nat} {i : Int} {hh : List (Nat × Nat × Nat × Nat)}
theorem z_iconsth {n : Int} (z : Int) (O : zOkH x own cc nL ret nm F L mc ms hh) (d : decode cc pc = .ok (.iconst n, 1)) (hv : Int32.ofInt n = iI z) (K : zG x H a b (pc + 1) lv (.int (iI z) :: st)) : zG x H a b pc lv (st) := by
  obtain ⟨⟨p, e, R, s, m⟩, ⟨args, below, meth, c⟩, E, mc', ms', post, px⟩ := x
  obtain ⟨hx, hb, hml, hr, hown, hlk, htb, hst, hnm, hR, hm1, hm2⟩ := O
  intro hk hf locs ls hl hlv
  exact lv_iconst hx hb d hv (K hk hf locs ls hl hlv)
theorem z_aload_nh {k : Fin 4} {v : Nat} (j : Nat) (O : zOkH x own cc nL ret nm F L mc ms hh) (d : decode cc pc = .ok (.aload_n k, 1)) (h : lv[j]? = some ((k : Nat), .ref v)) (K : zG x H a b (pc + 1) lv (.ref v :: st)) : zG x H a b pc lv (st) := by
  obtain ⟨⟨p, e, R, s, m⟩, ⟨args, below, meth, c⟩, E, mc', ms', post, px⟩ := x
  obtain ⟨hx, hb, hml, hr, hown, hlk, htb, hst, hnm, hR, hm1, hm2⟩ := O
  intro hk hf locs ls hl hlv
  exact lv_aload_n hx hb d rfl (lv_at hlv j h) (K hk hf locs ls hl hlv)
theorem z_aloadh {i : Nat} {v : Nat} (j : Nat) (O : zOkH x own cc nL ret nm F L mc ms hh) (d : decode cc pc = .ok (.aload i, 2)) (h : lv[j]? = some (i, .ref v)) (K : zG x H a b (pc + 2) lv (.ref v :: st)) : zG x H a b pc lv (st) := by
  obtain ⟨⟨p, e, R, s, m⟩, ⟨args, below, meth, c⟩, E, mc', ms', post, px⟩ := x
  obtain ⟨hx, hb, hml, hr, hown, hlk, htb, hst, hnm, hR, hm1, hm2⟩ := O
  intro hk hf locs ls hl hlv
  exact lv_aload hx hb d (lv_at hlv j h) (K hk hf locs ls hl hlv)
theorem z_iload_nh {k : Fin 4} {v : Int32} (j : Nat) (O : zOkH x own cc nL ret nm F L mc ms hh) (d : decode cc pc = .ok (.iload_n k, 1)) (h : lv[j]? = some ((k : Nat), .int v)) (K : zG x H a b (pc + 1) lv (.int v :: st)) : zG x H a b pc lv (st) := by
  obtain ⟨⟨p, e, R, s, m⟩, ⟨args, below, meth, c⟩, E, mc', ms', post, px⟩ := x
  obtain ⟨hx, hb, hml, hr, hown, hlk, htb, hst, hnm, hR, hm1, hm2⟩ := O
  intro hk hf locs ls hl hlv
  exact lv_iload_n hx hb d rfl (lv_at hlv j h) (K hk hf locs ls hl hlv)
theorem z_lload_nh {k : Fin 4} {v : Int64} (j : Nat) (O : zOkH x own cc nL ret nm F L mc ms hh) (d : decode cc pc = .ok (.lload_n k, 1)) (h : lv[j]? = some ((k : Nat), .long v)) (K : zG x H a b (pc + 1) lv (.long v :: st)) : zG x H a b pc lv (st) := by
  obtain ⟨⟨p, e, R, s, m⟩, ⟨args, below, meth, c⟩, E, mc', ms', post, px⟩ := x
  obtain ⟨hx, hb, hml, hr, hown, hlk, htb, hst, hnm, hR, hm1, hm2⟩ := O
  intro hk hf locs ls hl hlv
  exact lv_lload_n hx hb d rfl (lv_at hlv j h) (K hk hf locs ls hl hlv)
theorem z_astore_nh {k : Fin 4} {v : Nat} (lv' : List (Nat × Value)) (O : zOkH x own cc nL ret nm F L mc ms hh) (d : decode cc pc = .ok (.astore_n k, 1)) (hn : (k : Nat) < nL) (h : ((k : Nat), Value.ref v) :: lv.filter (fun q => !(q.1 == (k : Nat)) && !(q.1 + 1 == (k : Nat) && q.2.category == 2)) = lv') (K : zG x H a b (pc + 1) lv' st) : zG x H a b pc lv (.ref v :: st) := by
  obtain ⟨⟨p, e, R, s, m⟩, ⟨args, below, meth, c⟩, E, mc', ms', post, px⟩ := x
  obtain ⟨hx, hb, hml, hr, hown, hlk, htb, hst, hnm, hR, hm1, hm2⟩ := O
  intro hk hf locs ls hl hlv
  exact lv_astore_n hx hb d rfl hlv (by rw [hml]; exact hn) h (fun ls' h' => K hk hf locs ls' hl h')
theorem z_astoreh {i : Nat} {v : Nat} (lv' : List (Nat × Value)) (O : zOkH x own cc nL ret nm F L mc ms hh) (d : decode cc pc = .ok (.astore i, 2)) (hn : i < nL) (h : (i, Value.ref v) :: lv.filter (fun q => !(q.1 == i) && !(q.1 + 1 == i && q.2.category == 2)) = lv') (K : zG x H a b (pc + 2) lv' st) : zG x H a b pc lv (.ref v :: st) := by
  obtain ⟨⟨p, e, R, s, m⟩, ⟨args, below, meth, c⟩, E, mc', ms', post, px⟩ := x
  obtain ⟨hx, hb, hml, hr, hown, hlk, htb, hst, hnm, hR, hm1, hm2⟩ := O
  intro hk hf locs ls hl hlv
  exact lv_astore hx hb d hlv (by rw [hml]; exact hn) h (fun ls' h' => K hk hf locs ls' hl h')
theorem z_gotoh {off : Int} (tgt : Nat) (O : zOkH x own cc nL ret nm F L mc ms hh) (d : decode cc pc = .ok (.goto off, 3)) (ht : (pc : Int) + off = (tgt : Int)) (K : zG x H a b tgt lv st) : zG x H a b pc lv (st) := by
  obtain ⟨⟨p, e, R, s, m⟩, ⟨args, below, meth, c⟩, E, mc', ms', post, px⟩ := x
  obtain ⟨hx, hb, hml, hr, hown, hlk, htb, hst, hnm, hR, hm1, hm2⟩ := O
  intro hk hf locs ls hl hlv
  exact lv_goto hx hb d ht (K hk hf locs ls hl hlv)
theorem z_ireturnh {v : Int32} (O : zOkH x own cc nL ret nm F L mc ms hh) (d : decode cc pc = .ok (.ireturn, 1)) (hr9 : ret = some .int) (h1 : a ≤ mc) (h2 : b ≤ ms) (K : zPo x (some (.int v)) H) : zG x H a b pc lv [.int v] := by
  obtain ⟨⟨p, e, R, s, m⟩, ⟨args, below, meth, c⟩, E, mc', ms', post, px⟩ := x
  obtain ⟨hx, hb, hml, hr, hown, hlk, htb, hst, hnm, hR, hm1, hm2⟩ := O
  intro hk hf locs ls hl hlv
  subst hm1 hm2
  subst hr9
  refine W.widen h1 h2 (vx_ret ?_)
  exact W.iret hx hb hr (fun t ht hW => by subst ht; exact ⟨⟨_, rfl, K⟩, hf⟩) hl d hlk
theorem z_i2lRh {u : Int32} (O : zOkH x own cc nL ret nm F L mc ms hh) (d : decode cc pc = .ok (.i2l, 1)) (K : zG x H a b (pc + 1) lv (.long u.toInt64 :: st)) : zG x H a b pc lv (.int u :: st) := by
  obtain ⟨⟨p, e, R, s, m⟩, ⟨args, below, meth, c⟩, E, mc', ms', post, px⟩ := x
  obtain ⟨hx, hb, hml, hr, hown, hlk, htb, hst, hnm, hR, hm1, hm2⟩ := O
  intro hk hf locs ls hl hlv
  exact lv_i2l hx hb d rfl (K hk hf locs ls hl hlv)
theorem z_newl (O : zOk x own cc nL ret nm F L mc ms) (d : decode cc pc = .ok (.newarray .long, 2)) (h1 : a + 1 ≤ mc) (h2 : b + 1 ≤ ms)
    (K : ∀ H1 : Heap, zLI (zEn x) H1 H.size 0 → zNew H H1 → zG x H1 (a + 1) (b + 1) (pc + 2) lv (.ref H.size :: st)) : zG x H a b pc lv (.int (iI 1) :: st) := by
  obtain ⟨⟨p, e, R, s, m⟩, ⟨args, below, meth, c⟩, E, mc', ms', post, px⟩ := x
  obtain ⟨hx, hb, hml, hr, hown, hlk, htb, hst, hnm, hR, hm1, hm2⟩ := O
  intro hk hf locs ls hl hlv
  subst hR
  have hN : (iI 1).toNatClampNeg = 1 := by decide +kernel
  refine W.newa hx hb (atype := .long) (hk.2.2.1.arr (ty := .long) (by decide +kernel)) rfl d rfl (by decide +kernel) (by rw [hN]; decide) h1 (by rw [hN]; exact h2) fun cA kA comp f1 f2 f3 => ?_
  have e1 : cA = E.2.2.1 5 := Option.some.inj (f1.symm.trans (hk.1.2 5 _ rfl).2)
  subst e1
  rw [hN]
  refine K _ ⟨⟨fun _ => 0, ?_, rfl⟩, hk.2.1⟩ zPush (hk.step (zPush.F hk.2.1)) (hf.tr (zPush.F hk.2.1)) locs ls hl hlv
  show (H.push _)[H.size]? = some (vp_cell _ _)
  rw [Array.getElem?_push_size, vp_cell_l, arrV_new]
  rfl
theorem z_lasth {u v : Int64} (O : zOkH x own cc nL ret nm F L mc ms hh) (d : decode cc pc = .ok (.lastore, 1)) (ho : zLI (zEn x) H q u) (K : ∀ H1 : Heap, zLI (zEn x) H1 q v → zCh H H1 q → zG x H1 a b (pc + 1) lv st) : zG x H a b pc lv (.long v :: .int (iI 0) :: .ref q :: st) := by
  obtain ⟨⟨p, e, R, s, m⟩, ⟨args, below, meth, c⟩, E, mc', ms', post, px⟩ := x
  obtain ⟨hx, hb, hml, hr, hown, hlk, htb, hst, hnm, hR, hm1, hm2⟩ := O
  intro hk hf locs ls hl hlv
  obtain ⟨⟨f, hat, hfg⟩, hB⟩ := ho
  refine W.last hx hb hat ((hk.1.2 5 _ rfl).1 1 (fun j => .long (f j))) (fun q => by cases q) (by show ¬ (_ ∨ (arrV _ _ _).slots.size ≤ _); rw [arrV_size]; exact zix (i := 0) (n := 1) ⟨by omega, by omega⟩ (by omega) (by omega)) rfl rfl d fun H1 e1 z1 o1 => ?_
  have hC : zCh H H1 q := ⟨z1, o1⟩
  rw [zcl (i := 0) ⟨by omega, by omega⟩] at e1
  refine K H1 ⟨⟨vp_updL f 0 v, ?_, rfl⟩, hB⟩ hC (hk.step (hC.F hB)) (hf.tr (hC.F hB)) _ ls (fun z hz => ?_) hlv
  · show H1[q]? = some (vp_cell _ _)
    rw [e1, vp_cell_l, vp_cell_l, arrV_store]
    congr 2
    funext j
    by_cases hj : j = 0
    · subst hj; simp [updV, vp_updL]
    · simp [updV, vp_updL, hj]
  · simp only [List.mem_append, List.mem_singleton] at hz
    rcases hz with hz | hz
    · exact hl z hz
    · rw [hz]; exact hB
theorem z_lald {v : Int64} (O : zOk x own cc nL ret nm F L mc ms) (d : decode cc pc = .ok (.laload, 1)) (ho : zLI (zEn x) H q v) (K : zG x H a b (pc + 1) lv (.long v :: st)) : zG x H a b pc lv (.int (iI 0) :: .ref q :: st) := by
  obtain ⟨⟨p, e, R, s, m⟩, ⟨args, below, meth, c⟩, E, mc', ms', post, px⟩ := x
  obtain ⟨hx, hb, hml, hr, hown, hlk, htb, hst, hnm, hR, hm1, hm2⟩ := O
  intro hk hf locs ls hl hlv
  obtain ⟨⟨f, hat, hfg⟩, hB⟩ := ho
  subst hfg
  have hc0 : (iI 0).toNatClampNeg = 0 := by decide +kernel
  refine va_lald hx hb hk.1 (zArr_l hat) 0 5 rfl rfl (i := iI 0) (zix (i := 0) (n := 1) ⟨by omega, by omega⟩ (by omega) (by omega)) d ?_
  rw [hc0]
  exact K hk hf locs ls hl hlv
end ZW1
/-- a contract of a method with handlers, that always returns -/
def zCH (E : zE) (y : MethodName) (cc : ByteArray) (nL : Nat) (ret : Option FieldType) (hh : List (Nat × Nat × Nat × Nat)) (F L : Nat) (av : List Value) (H : Heap) (mc ms : Nat) (post : Option Value → Heap → Prop) : Prop :=
  Met E.1 y [.codeWith y cc nL ret hh] { frames := F, cells := mc, slots := ms, locals := L } (fun a U => a = av.toArray ∧ U.heap = H ∧ zKn E U H) (fun _ st oc t => (∃ v, oc = .returned v ∧ post v t.heap) ∧ zF E st.heap t.heap) mc ms (fun q => E.2.2.2 ≤ q)
theorem zCH.of {E : zE} {y : MethodName} {cc : ByteArray} {nL : Nat} {ret : Option FieldType} {hh : List (Nat × Nat × Nat × Nat)} {F L : Nat} {av : List Value} {H : Heap} {mc ms : Nat} {post : Option Value → Heap → Prop}
    (hy : plainName y.cls = true) (hl : (lg_sl av).length ≤ nL) (hst : E.1.stackTraces = false)
    (body : ∀ x : zX, zOkH x y.cls cc nL ret y.name F L mc ms hh → zEn x = E → zPo x = post → zPx x = zN → zG x H 0 0 0 (lv_args 0 av) []) : zCH E y cc nL ret hh F L av H mc ms post := by
  refine va_MetW hy rfl ?_
  intro p e s m args below meth c s₁ B hml hv
  obtain ⟨rfl, rfl, hK⟩ := hv
  have hnm : meth.name = y.name := (name_of_methodNamed B.named B.method).1
  have htb : c.exceptionTable.toList = tableOf hh := vx_table (x := y) B (atoms_spec (ws := [Cond.codeWith y cc nL ret hh]) B.pre _ List.mem_cons_self)
  have b := body ((p, e, { frames := F, cells := mc, slots := ms, locals := L }, s, m), (av.toArray, below, meth, c), E, (mc, ms, post, zN))
    ⟨B.exec, B.bytes, hml, B.returns, findClass_of_methodNamed B.named, B.notSynchronized, htb, hst, hnm, rfl, rfl, rfl⟩ rfl rfl rfl
  rw [lg_entry_eq]
  have b2 := b hK zF.rf [] _ (fun _ h => nomatch h) (by rw [hml]; exact lv_entry av hl)
  intro T hT X
  obtain ⟨t, a1, oc, b1, b3, h⟩ := b2 T hT X
  rcases h with ⟨h1, h2⟩ | ⟨q, -, E9, ce, LL, hx, -⟩
  · exact ⟨t, a1, oc, b1, b3, h1, h2⟩
  · exact hx.1.elim
section ZW2
variable {x : zX} {own : String} {cc : ByteArray} {nL : Nat} {ret : Option FieldType} {nm : String} {F L mc ms : Nat} {H : Heap} {a b pc : Nat} {lv : List (Nat × Value)} {rest : List Value} {idx : Nat} {hh : List (Nat × Nat × Nat × Nat)}
variable {y : MethodName} {cc2 : ByteArray} {nL2 : Nat} {ret2 : Option FieldType} {n F2 L2 mc2 ms2 : Nat} {post : Option Value → Heap → Prop} {px : String → Heap → Prop} {As : List Value} {q : Nat}
/-- which entry of the table takes it -/
def zHdl (own : String) (hh : List (Nat × Nat × Nat × Nat)) (pc : Nat) (X : String) (tgt : Nat) : Prop := ∃ (pre : List (Nat × Nat × Nat × Nat)) (s1 e1 k1 : Nat) (suf : List (Nat × Nat × Nat × Nat)), hh = pre ++ (s1, e1, tgt, k1) :: suf ∧ (s1 ≤ pc ∧ pc < e1) ∧ k1 ≠ 0 ∧ Cond.classLink own k1 X ∈ lw_tbl ∧ Cond.castable X X ∈ lw_tbl ∧
  ∀ z ∈ pre, z.2.2.2 ≠ 0 ∧ ∃ N, Cond.classLink own z.2.2.2 N ∈ lw_tbl ∧ ∀ (E : zE) (U : State) (H : Heap), zKn E U H → va_Nc X N U
theorem z_invVh {ci : Nat} {fs : List Value} (Lk : zMV own idx y cc2 nL2 ret2 n ci) (O : zOkH x own cc nL ret nm F L mc ms hh) (d : decode cc pc = .ok (.invokevirtual idx, 3)) (C : zC (zEn x) y cc2 nL2 ret2 F2 L2 (.ref q :: As) H mc2 ms2 post px) (hn : As.length = n) (ho : zOb (zEn x) H q ci fs) (hF : F2 + 1 ≤ F) (hL : 8 + (nL2 + 11) + L2 ≤ L) (hmc : a + mc2 ≤ mc) (hms : b + ms2 ≤ ms)
    (hW : (rest.map fun v => v.category).sum ≤ 8) (hpx : ∀ X H1, px X H1 → zF (zEn x) H H1 → ∃ tgt, zHdl own hh pc X tgt ∧ ∀ q1 : Nat, zG x H1 (a + mc2) (b + ms2) tgt lv [.ref q1]) (K : ∀ (v : Option Value) (H1 : Heap), post v H1 → zF (zEn x) H H1 → zG x H1 (a + mc2) (b + ms2) (pc + 3) lv (v.toList ++ rest)) : zG x H a b pc lv (As.reverse ++ .ref q :: rest) := by
  obtain ⟨⟨p, e, R, s, m⟩, ⟨args, below, meth, c⟩, E, mc', ms', post', px'⟩ := x
  obtain ⟨hx, hb, hml, hr, hown, hlk, htb, hst, hnm, hR, hm1, hm2⟩ := O
  intro hk hf locs ls hl hlv
  subst hR
  subst hm1 hm2
  obtain ⟨hmc9, hl9, hi9, hs9, hC9⟩ := Lk
  have hw := hk.2.2.1
  have hr := vx_runV (Ts := []) (args := args) (As := As) (b := q) (rest := rest) (g := F0 m pc ls (As.reverse ++ .ref q :: rest)) (locs := locs) (cells := a) (slots := b) (p := p) (e := e) (l := E.1) (R := { frames := F, cells := mc', slots := ms', locals := L }) (below := below) (meth := meth) ⟨hx, hb, hml, hown, fun w h => nomatch h⟩ C ⟨z_callB hw hmc9 hl9 ⟨hF, hL⟩, hw.at hi9 rfl rfl, hw.at hs9 rfl rfl⟩ ⟨(zPreS hk).1, z_recv hk ho hC9, (zPreS hk).2⟩ rfl hn (by rw [← hml]; exact hlv.1) rfl (lv_room hW) d ⟨hmc, hms⟩
  intro T hT X
  rcases hr T hT X with ⟨v, st₀, t, T', LL, h0, X', hL, e1, e2, ⟨⟨v', hv, hp⟩, hF⟩, st⟩ | ⟨q9, st₀, t, T', LL, X9, ce, h0, X', hL, e1, e2, ⟨hp, hF⟩, hce, hcv, hcl, st⟩
  · cases hv
    rw [h0] at hF
    obtain ⟨t2, a1, b1⟩ := K v t.heap hp hF (hk.step hF) (hf.tr hF) (locs ++ LL) ls (fun z hz => (List.mem_append.mp hz).elim (hl z) (hL z)) hlv T' e1 X'
    exact ⟨t2, st t2 a1, b1⟩
  · rw [h0] at hF
    obtain ⟨tgt, ⟨pre, s1, e9, k1, suf, hsp, hcov, hk0, hcl9, hca9, hpre⟩, hG⟩ := hpx X9 t.heap hp hF
    have kk := hG q9 (hk.step hF) (hf.tr hF) (locs ++ LL) ls (fun z hz => (List.mem_append.mp hz).elim (hl z) (hL z)) hlv
    have hw9 : vx_W p E.1 e _ s m args below meth c t.heap (locs ++ LL) (a + mc2) (b + ms2) (zQ E below args s mc' ms' post' px') (F0 m pc ls rest) q9 :=
      vx_catch (own := own) (name := X9) (E := X9) (ce := ce) hown (tableOf pre) ⟨s1, e9, tgt, k1⟩ (tableOf suf) (by rw [htb, hsp]; simp [tableOf])
        (fun z hz => by
          obtain ⟨z0, hz0, rfl⟩ := List.mem_map.mp hz
          obtain ⟨p1, N, p2, p3⟩ := hpre z0 hz0
          exact Or.inr ⟨p1, N, hw.at p2 rfl rfl, p3 E s t.heap (hk.step hF)⟩)
        (by show (decide (s1 ≤ pc) && decide (pc < e9)) = true; rw [decide_eq_true hcov.1, decide_eq_true hcov.2]; rfl) hk0 (hw.at hcl9 rfl rfl) (hw _ hca9 rfl) hce hcv hcl kk
    obtain ⟨t2, a1, b1⟩ := hw9 T' e1 X'
    exact ⟨t2, st.trans a1, b1⟩
end ZW2
