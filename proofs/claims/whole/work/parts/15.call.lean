/-! rules of the walk: calls -/
theorem zGoodIn {y : MethodName} {cc : ByteArray} {nL : Nat} {ret : Option FieldType} : GoodIn [Cond.code y cc nL ret] [Cond.code y cc nL ret] := fun w h => ⟨h, by rw [List.mem_singleton.mp h]; exact Or.inl rfl⟩
/-- what holds of a callee, by its link: virtual, static, a constructor; of a nest mate -/
def zMc (y : MethodName) (cc : ByteArray) (nL : Nat) (ret : Option FieldType) (n : Nat) : Prop := Cond.initialized y.cls ∈ lw_tbl ∧ Cond.code y cc nL ret ∈ lw_tbl ∧ y.cls ≠ "java/lang/invoke/MethodHandle" ∧ y.cls ≠ "java/lang/invoke/VarHandle" ∧ (parseMethodDescriptor y.desc).map (fun d => d.parameters.length) = some n
def zMV (own : String) (idx : Nat) (y : MethodName) (cc : ByteArray) (nL : Nat) (ret : Option FieldType) (n ci : Nat) : Prop := zMc y cc nL ret n ∧ Cond.methodLink own idx y ∈ lw_tbl ∧ Cond.instanceMethod y ∈ lw_tbl ∧ Cond.selects y.cls y y ∈ lw_tbl ∧ ∃ q, vwCl[ci]? = some q ∧ q.1 = y.cls
def zMS (own : String) (idx : Nat) (y : MethodName) (cc : ByteArray) (nL : Nat) (ret : Option FieldType) (n : Nat) : Prop := zMc y cc nL ret n ∧ (Cond.methodLink own idx y ∈ lw_tbl ∨ ∃ host, Cond.methodLinkNest own idx y host ∈ lw_tbl) ∧ Cond.static y ∈ lw_tbl
def zMI (own : String) (idx : Nat) (y : MethodName) (cc : ByteArray) (nL : Nat) (n : Nat) : Prop := zMc y cc nL none n ∧ (Cond.methodLink own idx y ∈ lw_tbl ∨ ∃ host, Cond.methodLinkNest own idx y host ∈ lw_tbl) ∧ Cond.instanceMethod y ∈ lw_tbl ∧ y.name = "<init>"
section ZC
variable {x : zX} {own : String} {cc : ByteArray} {nL : Nat} {ret : Option FieldType} {nm : String} {F L mc ms : Nat} {H : Heap} {a b pc : Nat} {lv : List (Nat × Value)} {rest : List Value} {idx : Nat}
variable {y : MethodName} {cc2 : ByteArray} {nL2 : Nat} {ret2 : Option FieldType} {n F2 L2 mc2 ms2 : Nat} {post : Option Value → Heap → Prop} {px : String → Heap → Prop} {As : List Value} {q : Nat}
theorem zPreS {E : zE} {s : State} {av : List Value} (hk : zKn E s H) : PreS s H (fun a U => a = av.toArray ∧ U.heap = H ∧ zKn E U H) av :=
  ⟨fun a U g mk h => ⟨h.1, h.2.1, zKn.same (s := U) (U := U.calling g mk a) rfl h.2.2⟩, fun U hU hW => ⟨rfl, hU, hk.warm hW⟩⟩
theorem z_go {p : Program} {e : Env} {R : Room} {s : State} {m : MethodId} {args : Array Value} {below : List Frame} {meth : Method} {c : Code} {E : zE} {mc' ms' : Nat} {post' : Option Value → Heap → Prop} {px' : String → Heap → Prop} {locs : List Loc} {ls : Array Slot} {st0 : List Value}
    (hown : s.vm.findClass own = some m.cls) (hlk : meth.locks = false) (htb : ∀ z ∈ c.exceptionTable.toList, False) (hk : zKn E s H) (hf : zF E s.heap H) (hl : ∀ z ∈ locs, E.2.2.2 ≤ z.base) (hlv : lv_has ls c.maxLocals lv)
    (hr : vx_Run p E.1 e R s m args below meth c H locs a b mc2 ms2 (F0 m pc ls st0) rest (fun st oc t => (∃ v, oc = .returned v ∧ post v t.heap) ∧ zF E st.heap t.heap) (fun X st t => px X t.heap ∧ zF E st.heap t.heap) (fun q => E.2.2.2 ≤ q))
    (hmc : a + mc2 ≤ mc') (hms : b + ms2 ≤ ms') (hpx : ∀ X H1, px X H1 → px' X H1)
    (K : ∀ (v : Option Value) (H1 : Heap), post v H1 → zF E H H1 → zG ((p, e, R, s, m), (args, below, meth, c), E, (mc', ms', post', px')) H1 (a + mc2) (b + ms2) (pc + 3) lv (v.toList ++ rest)) :
    W p E.1 e R s m args below meth c H locs a b (zQ E below args s mc' ms' post' px') (F0 m pc ls st0) := by
  intro T hT X
  rcases hr T hT X with ⟨v, st₀, t, T', L, h0, X', hL, e1, e2, ⟨⟨v', hv, hp⟩, hF⟩, st⟩ | ⟨q, st₀, t, T', L, X9, ce, h0, X', hL, e1, e2, ⟨hp, hF⟩, hce, hcv, hcl, st⟩
  · cases hv
    rw [h0] at hF
    obtain ⟨t2, a1, b1⟩ := K v t.heap hp hF (hk.step hF) (hf.tr hF) (locs ++ L) ls (fun z hz => (List.mem_append.mp hz).elim (hl z) (hL z)) hlv T' e1 X'
    exact ⟨t2, st t2 a1, b1⟩
  · rw [h0] at hF
    have hw : vx_W p E.1 e R s m args below meth c t.heap (locs ++ L) (a + mc2) (b + ms2) (zQ E below args s mc' ms' post' px') (F0 m pc ls rest) q :=
      vx_outP (own := own) hown hlk (fun z hz => (htb z hz).elim) hce hcv hcl (fun t9 ht9 _ => ⟨by rw [ht9]; exact hpx _ _ hp, by rw [ht9]; exact hf.tr hF⟩) (fun z hz => (List.mem_append.mp hz).elim (hl z) (hL z)) hmc hms
    obtain ⟨t2, a1, b1⟩ := hw T' e1 X'
    exact ⟨t2, st.trans a1, b1⟩
theorem z_recv {E : zE} {s : State} {ci : Nat} {fs : List Value} {C : String} (hk : zKn E s H) (ho : zOb E H q ci fs) (hC : ∃ q, vwCl[ci]? = some q ∧ q.1 = C) : ∃ cellB : Cell, H[q]? = some cellB ∧ cellB.vm.isStatics = false ∧ s.vm.findClass C = some cellB.cls := by
  obtain ⟨r, hr, rfl⟩ := hC
  exact va_recv (ws := [(q, .inr (ci, fs))]) hk.1 (fun i z hz => by
    rcases i with _ | i
    · cases hz; exact ho.1
    · cases hz) (q0 := 0) hr rfl
theorem z_callB {s : State} {args : Array Value} {R : Room} (hw : zW s) (hm : zMc y cc2 nL2 ret2 n) (hlink : Cond.methodLink own idx y ∈ lw_tbl) (hR : F2 + 1 ≤ R.frames ∧ 8 + (nL2 + 11) + L2 ≤ R.locals) : CallB R s args own idx y cc2 nL2 ret2 [.code y cc2 nL2 ret2] { frames := F2, cells := mc2, slots := ms2, locals := L2 } mc2 ms2 n := by
  obtain ⟨h1, h2, h3, h4, h5⟩ := hm
  exact callB_of n (Ts := [.code y cc2 nL2 ret2]) (fun w h => by rw [List.mem_singleton.mp h]; exact hw.at h2 rfl rfl) zGoodIn rfl rfl rfl (hw.at h1 rfl rfl) (hw.at hlink rfl rfl) ⟨h3, h4, h5⟩ hR
theorem z_callN {s : State} {args : Array Value} {R : Room} {host : String} (hw : zW s) (hm : zMc y cc2 nL2 ret2 n) (hlink : Cond.methodLinkNest own idx y host ∈ lw_tbl) (hR : F2 + 1 ≤ R.frames ∧ 8 + (nL2 + 11) + L2 ≤ R.locals) : va_CN R s args own idx y host cc2 nL2 ret2 [.code y cc2 nL2 ret2] { frames := F2, cells := mc2, slots := ms2, locals := L2 } mc2 ms2 n := by
  obtain ⟨h1, h2, h3, h4, h5⟩ := hm
  exact va_cnB n (Ts := [.code y cc2 nL2 ret2]) (fun w h => by rw [List.mem_singleton.mp h]; exact hw.at h2 rfl rfl) zGoodIn rfl rfl rfl (hw _ hlink rfl) (hw.at h1 rfl rfl) ⟨h3, h4, h5⟩ hR
theorem z_invV {ci : Nat} {fs : List Value} (Lk : zMV own idx y cc2 nL2 ret2 n ci) (O : zOk x own cc nL ret nm F L mc ms) (d : decode cc pc = .ok (.invokevirtual idx, 3)) (C : zC (zEn x) y cc2 nL2 ret2 F2 L2 (.ref q :: As) H mc2 ms2 post px) (hn : As.length = n) (ho : zOb (zEn x) H q ci fs) (hF : F2 + 1 ≤ F) (hL : 8 + (nL2 + 11) + L2 ≤ L) (hmc : a + mc2 ≤ mc) (hms : b + ms2 ≤ ms)
    (hW : (rest.map fun v => v.category).sum ≤ 8) (hpx : ∀ X H1, px X H1 → zPx x X H1) (K : ∀ (v : Option Value) (H1 : Heap), post v H1 → zF (zEn x) H H1 → zG x H1 (a + mc2) (b + ms2) (pc + 3) lv (v.toList ++ rest)) : zG x H a b pc lv (As.reverse ++ .ref q :: rest) := by
  obtain ⟨⟨p, e, R, s, m⟩, ⟨args, below, meth, c⟩, E, mc', ms', post', px'⟩ := x
  obtain ⟨hx, hb, hml, hr, hown, hlk, htb, hst, hnm, hR, hm1, hm2⟩ := O
  intro hk hf locs ls hl hlv
  subst hR
  subst hm1 hm2
  obtain ⟨hmc9, hl9, hi9, hs9, hC9⟩ := Lk
  have hw := hk.2.2.1
  refine z_go hown hlk htb hk hf hl hlv ?_ hmc hms hpx K
  exact vx_runV (Ts := []) (As := As) (b := q) (rest := rest) (g := F0 m pc ls (As.reverse ++ .ref q :: rest)) ⟨hx, hb, hml, hown, fun w h => nomatch h⟩ C ⟨z_callB hw hmc9 hl9 ⟨hF, hL⟩, hw.at hi9 rfl rfl, hw.at hs9 rfl rfl⟩ ⟨(zPreS hk).1, z_recv hk ho hC9, (zPreS hk).2⟩ rfl hn (by rw [← hml]; exact hlv.1) rfl (lv_room hW) d ⟨hmc, hms⟩
theorem z_invS (Lk : zMS own idx y cc2 nL2 ret2 n) (O : zOk x own cc nL ret nm F L mc ms) (d : decode cc pc = .ok (.invokestatic idx, 3)) (C : zC (zEn x) y cc2 nL2 ret2 F2 L2 As H mc2 ms2 post px) (hn : As.length = n) (hF : F2 + 1 ≤ F) (hL : 8 + (nL2 + 11) + L2 ≤ L) (hmc : a + mc2 ≤ mc) (hms : b + ms2 ≤ ms)
    (hW : (rest.map fun v => v.category).sum ≤ 8) (hpx : ∀ X H1, px X H1 → zPx x X H1) (K : ∀ (v : Option Value) (H1 : Heap), post v H1 → zF (zEn x) H H1 → zG x H1 (a + mc2) (b + ms2) (pc + 3) lv (v.toList ++ rest)) : zG x H a b pc lv (As.reverse ++ rest) := by
  obtain ⟨⟨p, e, R, s, m⟩, ⟨args, below, meth, c⟩, E, mc', ms', post', px'⟩ := x
  obtain ⟨hx, hb, hml, hr, hown, hlk, htb, hst, hnm, hR, hm1, hm2⟩ := O
  intro hk hf locs ls hl hlv
  subst hR
  subst hm1 hm2
  obtain ⟨hmc9, hl9, hs9⟩ := Lk
  have hw := hk.2.2.1
  refine z_go hown hlk htb hk hf hl hlv ?_ hmc hms hpx K
  rcases hl9 with hl9 | ⟨host, hl9⟩
  · exact vx_runS (Ts := []) (As := As) (rest := rest) (g := F0 m pc ls (As.reverse ++ rest)) ⟨hx, hb, hml, hown, fun w h => nomatch h⟩ C ⟨z_callB hw hmc9 hl9 ⟨hF, hL⟩, hw.at hs9 rfl rfl⟩ (zPreS hk) rfl hn (by rw [← hml]; exact hlv.1) rfl (lv_room hW) d ⟨hmc, hms⟩
  · exact vx_runSN (Ts := []) (As := As) (rest := rest) (g := F0 m pc ls (As.reverse ++ rest)) ⟨hx, hb, hml, hown, fun w h => nomatch h⟩ C ⟨z_callN hw hmc9 hl9 ⟨hF, hL⟩, hw.at hs9 rfl rfl, trivial⟩ (zPreS hk) rfl hn (by rw [← hml]; exact hlv.1) rfl (lv_room hW) d ⟨hmc, hms⟩
theorem z_invI (Lk : zMI own idx y cc2 nL2 n) (O : zOk x own cc nL ret nm F L mc ms) (d : decode cc pc = .ok (.invokespecial idx, 3)) (C : zC (zEn x) y cc2 nL2 none F2 L2 (.ref q :: As) H mc2 ms2 post px) (hn : As.length = n) (hF : F2 + 1 ≤ F) (hL : 8 + (nL2 + 11) + L2 ≤ L) (hmc : a + mc2 ≤ mc) (hms : b + ms2 ≤ ms)
    (hW : (rest.map fun v => v.category).sum ≤ 8) (hpx : ∀ X H1, px X H1 → zPx x X H1) (K : ∀ (v : Option Value) (H1 : Heap), post v H1 → zF (zEn x) H H1 → zG x H1 (a + mc2) (b + ms2) (pc + 3) lv (v.toList ++ rest)) : zG x H a b pc lv (As.reverse ++ .ref q :: rest) := by
  obtain ⟨⟨p, e, R, s, m⟩, ⟨args, below, meth, c⟩, E, mc', ms', post', px'⟩ := x
  obtain ⟨hx, hb, hml, hr, hown, hlk, htb, hst, hnm, hR, hm1, hm2⟩ := O
  intro hk hf locs ls hl hlv
  subst hR
  subst hm1 hm2
  obtain ⟨hmc9, hl9, hi9, hy9⟩ := Lk
  have hw := hk.2.2.1
  refine z_go hown hlk htb hk hf hl hlv ?_ hmc hms hpx K
  rcases hl9 with hl9 | ⟨host, hl9⟩
  · exact vx_runI (Ts := []) (As := As) (b := q) (rest := rest) (g := F0 m pc ls (As.reverse ++ .ref q :: rest)) ⟨hx, hb, hml, hown, fun w h => nomatch h⟩ C ⟨z_callB hw hmc9 hl9 ⟨hF, hL⟩, hy9, hw.at hi9 rfl rfl⟩ (zPreS hk) rfl hn (by rw [← hml]; exact hlv.1) rfl (lv_room hW) d ⟨hmc, hms⟩
  · exact vx_runIN (Ts := []) (As := As) (b := q) (rest := rest) (g := F0 m pc ls (As.reverse ++ .ref q :: rest)) ⟨hx, hb, hml, hown, fun w h => nomatch h⟩ C ⟨z_callN hw hmc9 hl9 ⟨hF, hL⟩, hy9, hw.at hi9 rfl rfl⟩ (zPreS hk) rfl hn (by rw [← hml]; exact hlv.1) rfl (lv_room hW) d ⟨hmc, hms⟩
/-- Object's constructor -/
theorem z_objInit (hlink : Cond.methodLink own idx objectInit ∈ lw_tbl) (O : zOk x own cc nL ret nm F L mc ms) (d : decode cc pc = .ok (.invokespecial idx, 3)) (hF : 1 ≤ F) (hL : (rest.map fun v => v.category).sum + 12 ≤ L) (K : zG x H a b (pc + 3) lv rest) : zG x H a b pc lv (.ref q :: rest) := by
  obtain ⟨⟨p, e, R, s, m⟩, ⟨args, below, meth, c⟩, E, mc', ms', post', px'⟩ := x
  obtain ⟨hx, hb, hml, hr, hown, hlk, htb, hst, hnm, hR, hm1, hm2⟩ := O
  intro hk hf locs ls hl hlv
  subst hR
  refine W.objInit hx hb hown (hk.2.2.1.at hlink rfl rfl) (hk.2.2.1.at (by decide +kernel) rfl rfl) (hk.2.2.1.at (by decide +kernel) rfl rfl) rfl hlv.1 rfl d hF (by show 2 * 0 + _ + 12 ≤ L; omega) ?_
  exact K hk hf locs ls hl hlv
end ZC
