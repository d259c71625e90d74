/-! core: what a method's walk stands on, in few words -/
/-- the launch, the classes' numbers and slots, the array classes, the floor: no cell below it is written -/
abbrev zE : Type := Launch × va_G × (Nat → ClassId) × Nat
def zTys (ca : Nat → ClassId) : List (ClassId × FieldType) := [(ca 0, .int), (ca 1, .boolean), (ca 2, .object RX2), (ca 3, .object RX4), (ca 4, .object RX3), (ca 5, .long)]
def zGoodW : Cond → Bool
  | .arrayClass _ => true
  | .fieldLinkNest .. => true
  | .methodLinkNest .. => true
  | .castable .. => true
  | .declares _ => true
  | .arrayOver (.object _) => true
  | w => w.onTables && w.keeps
/-- the tables' words that stay when the tables grow warm -/
def zW (U : State) : Prop := ∀ w ∈ lw_tbl, zGoodW w = true → w.before #[] U = true
/-- the String constants have their places -/
def zStr (U : State) : Prop := ∀ (own : String) (k : Nat) (tx : String), Cond.stringRef own k tx ∈ lw_tbl → ∃ a, vk_R own k tx a U
/-- the String constants that are read, by their places: entry, text, bytes -/
def zLit (i : Nat) : Nat × String × List Int32 := match i with
  | 0 => (301, "w", [119])
  | 1 => (303, "wCcDd", [119, 67, 99, 68, 100])
  | 2 => (305, "wCcDn", [119, 67, 99, 68, 110])
  | 3 => (307, "wi", [119, 105])
  | 4 => (309, "m", [109])
  | _ => (311, "", [])
/-- the exceptions' classes are three -/
def zNc3 (U : State) : Prop := va_Nc "java/lang/IllegalStateException" "java/lang/IndexOutOfBoundsException" U ∧ va_Nc "java/lang/IllegalArgumentException" "java/lang/IndexOutOfBoundsException" U ∧ va_Nc "java/lang/IllegalStateException" "java/lang/IllegalArgumentException" U
/-- where they lie (behind the array classes' numbers), what String's statics hold -/
def zSx (E : zE) (U : State) (H : Heap) : Prop := (∀ i : Nat, i < 6 → vk_S 1 [(zLit i).2.2.length] [(zLit i).2.2] (fun _ => E.2.2.1 (100 + i)) (fun _ => E.2.2.1 (200 + i)) (fun q => E.2.2.2 ≤ q) U H ∧ vk_R RX5 (zLit i).1 (zLit i).2.1 (E.2.2.1 (100 + i)) U) ∧
  va_Z "java/lang/String" "COMPACT_STRINGS" "Z" (.int 1) (fun q => E.2.2.2 ≤ q) U H ∧ va_Zq "jdk/internal/util/Preconditions" "SIOOBE_FORMATTER" "Ljava/util/function/BiFunction;" (fun q => E.2.2.2 ≤ q) U H ∧ zNc3 U
theorem zSx.warm {E : zE} {s U : State} {H : Heap} (hW : s.WarmedH U.vm) (h : zSx E s H) : zSx E U H :=
  ⟨fun i hi => ⟨vk_S.moved hW.alike (h.1 i hi).1, (h.1 i hi).2.warm hW⟩, va_Z.moved hW.alike h.2.1, va_Zq.moved hW.alike h.2.2.1, h.2.2.2.1.moved hW.alike, h.2.2.2.2.1.moved hW.alike, h.2.2.2.2.2.moved hW.alike⟩
theorem zSx.kept {E : zE} {s : State} {H H1 : Heap} (h : zSx E s H) (hq : ∀ a : Nat, a < H.size → ¬ (E.2.2.2 ≤ a) → H1[a]? = H[a]?) : zSx E s H1 :=
  ⟨fun i hi => ⟨(h.1 i hi).1.kept hq, (h.1 i hi).2⟩, h.2.1.kept hq, h.2.2.1.kept hq, h.2.2.2⟩
def zKn (E : zE) (U : State) (H : Heap) : Prop := va_K E.2.1 vwCl (zTys E.2.2.1) U ∧ E.2.2.2 ≤ H.size ∧ zW U ∧ zStr U ∧ vx_Zq Bundle.tN "UNASSIGNED_STACK" Bundle.steD (fun q => E.2.2.2 ≤ q) U H ∧ vx_Zq Bundle.tN "SUPPRESSED_SENTINEL" Bundle.listD (fun q => E.2.2.2 ≤ q) U H ∧ zSx E U H
/-- from one heap to a later one: nothing below the floor has changed -/
def zF (E : zE) (H H' : Heap) : Prop := H.size ≤ H'.size ∧ ∀ q : Nat, q < E.2.2.2 → H'[q]? = H[q]?
theorem zF.rf {E : zE} {H : Heap} : zF E H H := ⟨Nat.le_refl _, fun _ _ => rfl⟩
theorem zF.tr {E : zE} {H H1 H2 : Heap} (a : zF E H H1) (b : zF E H1 H2) : zF E H H2 := ⟨Nat.le_trans a.1 b.1, fun q h => (b.2 q h).trans (a.2 q h)⟩
theorem zW.warm {s U : State} (hW : s.WarmedH U.vm) (h : zW s) : zW U := by
  intro w hw hg
  have h1 := h w hw hg
  cases w
  case fieldLinkNest => exact va_Nw.warmF hW h1
  case methodLinkNest => exact va_Nw.warmM hW h1
  case castable => exact va_Nw.warmC hW h1
  case declares => exact va_Nw.warmD hW h1
  case arrayOver ty => cases ty <;> first | exact (va_AO.of h1 : va_AO _ s).moved hW.alike | exact absurd hg Bool.false_ne_true
  all_goals exact word_at hW (good_of_word hg) h1
theorem zStr.warm {s U : State} (hW : s.WarmedH U.vm) (h : zStr s) : zStr U := fun own k tx hm => by
  obtain ⟨a, ha⟩ := h own k tx hm
  exact ⟨a, ha.warm hW⟩
theorem zKn.warm {E : zE} {s U : State} {H : Heap} (hW : s.WarmedH U.vm) (h : zKn E s H) : zKn E U H :=
  ⟨va_K.moved hW.alike h.1, h.2.1, h.2.2.1.warm hW, h.2.2.2.1.warm hW, vx_Zq.moved hW.alike h.2.2.2.2.1, vx_Zq.moved hW.alike h.2.2.2.2.2.1, h.2.2.2.2.2.2.warm hW⟩
theorem zKn.same {E : zE} {s U : State} {H : Heap} (hv : s.vm = U.vm) (h : zKn E s H) : zKn E U H := by
  refine h.warm ?_
  rw [← hv]
  exact State.WarmedH.refl s
theorem zKn.step {E : zE} {s : State} {H H1 : Heap} (h : zKn E s H) (f : zF E H H1) : zKn E s H1 :=
  ⟨h.1, Nat.le_trans h.2.1 f.1, h.2.2.1, h.2.2.2.1, h.2.2.2.2.1.kept (fun a _ ha => f.2 a (Nat.not_le.mp ha)), h.2.2.2.2.2.1.kept (fun a _ ha => f.2 a (Nat.not_le.mp ha)), h.2.2.2.2.2.2.kept (fun a _ ha => f.2 a (Nat.not_le.mp ha))⟩
theorem zW.at {s : State} (h : zW s) {w : Cond} (hm : w ∈ lw_tbl) (hg : zGoodW w = true) (ho : w.onTables = true) {args : Array Value} : w.before args s = true := va_Nw.use ho (h w hm hg)
/-- a contract: from these arguments and this heap the method returns with 'post', or throws with 'px' -/
def zC (E : zE) (y : MethodName) (cc : ByteArray) (nL : Nat) (ret : Option FieldType) (F L : Nat) (av : List Value) (H : Heap) (mc ms : Nat) (post : Option Value → Heap → Prop) (px : String → Heap → Prop) : Prop :=
  vx_Met E.1 y [.code y cc nL ret] { frames := F, cells := mc, slots := ms, locals := L } (fun a U => a = av.toArray ∧ U.heap = H ∧ zKn E U H)
    (fun _ st oc t => (∃ v, oc = .returned v ∧ post v t.heap) ∧ zF E st.heap t.heap) (fun X st t => px X t.heap ∧ zF E st.heap t.heap) mc ms (fun q => E.2.2.2 ≤ q)
/-- no throw -/
def zN : String → Heap → Prop := fun _ _ => False
abbrev zX : Type := (Program × Env × Room × State × MethodId) × (Array Value × List Frame × Method × Code) × zE × (Nat × Nat × (Option Value → Heap → Prop) × (String → Heap → Prop))
/-- what holds all through a method's walk -/
def zOk (x : zX) (own : String) (cc : ByteArray) (nL : Nat) (ret : Option FieldType) (nm : String) (F L mc ms : Nat) : Prop := match x with
  | ((p, _, R, s, m), (args, _, meth, c), E, (mc', ms', _, _)) => p.tables.exec = Jvm.exec ∧ c.code = cc ∧ c.maxLocals = nL ∧ meth.sig.returnType = ret ∧ s.vm.findClass own = some m.cls ∧ meth.locks = false ∧ (∀ z ∈ c.exceptionTable.toList, False) ∧ E.1.stackTraces = false ∧ meth.name = nm ∧ R = { frames := F, cells := mc, slots := ms, locals := L } ∧ mc' = mc ∧ ms' = ms
abbrev zQ (E : zE) (below : List Frame) (args : Array Value) (s : State) (mc ms : Nat) (post : Option Value → Heap → Prop) (px : String → Heap → Prop) : State → Prop :=
  vx_MQ below (fun _ st oc t => (∃ v, oc = .returned v ∧ post v t.heap) ∧ zF E st.heap t.heap) (fun X st t => px X t.heap ∧ zF E st.heap t.heap) args s mc ms (fun q => E.2.2.2 ≤ q)
/-- the walk's judgement: heap, new cells and slots so far, place, locals, stack -/
def zG (x : zX) (H : Heap) (k n pc : Nat) (lv : List (Nat × Value)) (st : List Value) : Prop := match x with
  | ((p, e, R, s, m), (args, below, meth, c), E, (mc, ms, post, px)) => zKn E s H → zF E s.heap H → ∀ (locs : List Loc) (ls : Array Slot), (∀ z ∈ locs, E.2.2.2 ≤ z.base) → lv_has ls c.maxLocals lv →
    W p E.1 e R s m args below meth c H locs k n (zQ E below args s mc ms post px) (F0 m pc ls st)
/-- the environment, the ends -/
def zEn (x : zX) : zE := x.2.2.1
def zPo (x : zX) : Option Value → Heap → Prop := x.2.2.2.2.2.1
def zPx (x : zX) : String → Heap → Prop := x.2.2.2.2.2.2
theorem zC.of {E : zE} {y : MethodName} {cc : ByteArray} {nL : Nat} {ret : Option FieldType} {F L : Nat} {av : List Value} {H : Heap} {mc ms : Nat} {post : Option Value → Heap → Prop} {px : String → Heap → Prop}
    (hy : plainName y.cls = true) (hl : (lg_sl av).length ≤ nL) (hst : E.1.stackTraces = false)
    (body : ∀ x : zX, zOk x y.cls cc nL ret y.name F L mc ms → zEn x = E → zPo x = post → zPx x = px → zG x H 0 0 0 (lv_args 0 av) []) : zC E y cc nL ret F L av H mc ms post px := by
  refine vx_ofW hy rfl ?_
  intro p e s m args below meth c s₁ B hml htab hv
  obtain ⟨rfl, rfl, hK⟩ := hv
  have hnm : meth.name = y.name := (name_of_methodNamed B.named B.method).1
  have b := body ((p, e, { frames := F, cells := mc, slots := ms, locals := L }, s, m), (av.toArray, below, meth, c), E, (mc, ms, post, px))
    ⟨B.exec, B.bytes, hml, B.returns, findClass_of_methodNamed B.named, B.notSynchronized, htab, hst, hnm, rfl, rfl, rfl⟩ rfl rfl rfl
  rw [lg_entry_eq]
  exact b hK zF.rf [] _ (fun _ h => nomatch h) (by rw [hml]; exact lv_entry av hl)
