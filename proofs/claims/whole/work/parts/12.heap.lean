/-! rules of the walk: the heap -/
def zOb (E : zE) (H : Heap) (q ci : Nat) (fs : List Value) : Prop := va_at E.2.1 vwCl (q, .inr (ci, fs)) H ∧ E.2.2.2 ≤ q
def zIA (E : zE) (H : Heap) (q t n : Nat) (g : Int → Int) : Prop := (∃ f : Nat → Int32, va_at E.2.1 vwCl (q, .inl (E.2.2.1 t, n, .inl f)) H ∧ ∀ i : Nat, i < n → f i = iI (g i)) ∧ E.2.2.2 ≤ q
def zRA (E : zE) (H : Heap) (q t n : Nat) (g : Int → Option Nat) : Prop := (∃ f : Nat → Option Nat, va_at E.2.1 vwCl (q, .inl (E.2.2.1 t, n, .inr (.inr (.inr (.inr f))))) H ∧ ∀ i : Nat, i < n → f i = g i) ∧ E.2.2.2 ≤ q
/-- one cell alone has changed -/
def zCh (H H1 : Heap) (q : Nat) : Prop := H1.size = H.size ∧ ∀ r : Nat, r ≠ q → H1[r]? = H[r]?
/-- one cell alone has come -/
def zNew (H H1 : Heap) : Prop := H1.size = H.size + 1 ∧ ∀ r : Nat, r < H.size → H1[r]? = H[r]?
def zU (g : Int → Int) (i v : Int) : Int → Int := fun j => if j = i then v else g j
def zUr (g : Int → Option Nat) (i : Int) (v : Option Nat) : Int → Option Nat := fun j => if j = i then v else g j
theorem zOb.lt {E : zE} {H : Heap} {q ci : Nat} {fs : List Value} (h : zOb E H q ci fs) : q < H.size := h.1.lt
theorem zIA.lt {E : zE} {H : Heap} {q t n : Nat} {g : Int → Int} (h : zIA E H q t n g) : q < H.size := by obtain ⟨⟨f, h1, -⟩, -⟩ := h; exact h1.lt
theorem zRA.lt {E : zE} {H : Heap} {q t n : Nat} {g : Int → Option Nat} (h : zRA E H q t n g) : q < H.size := by obtain ⟨⟨f, h1, -⟩, -⟩ := h; exact h1.lt
theorem zOb.kept {E : zE} {H H1 : Heap} {q ci : Nat} {fs : List Value} (h : zOb E H q ci fs) (e : H1[q]? = H[q]?) : zOb E H1 q ci fs := ⟨h.1.kept e, h.2⟩
theorem zIA.kept {E : zE} {H H1 : Heap} {q t n : Nat} {g : Int → Int} (h : zIA E H q t n g) (e : H1[q]? = H[q]?) : zIA E H1 q t n g := by
  obtain ⟨⟨f, h1, h2⟩, h3⟩ := h
  exact ⟨⟨f, h1.kept e, h2⟩, h3⟩
theorem zRA.kept {E : zE} {H H1 : Heap} {q t n : Nat} {g : Int → Option Nat} (h : zRA E H q t n g) (e : H1[q]? = H[q]?) : zRA E H1 q t n g := by
  obtain ⟨⟨f, h1, h2⟩, h3⟩ := h
  exact ⟨⟨f, h1.kept e, h2⟩, h3⟩
theorem zIA.to {E : zE} {H : Heap} {q t n : Nat} {g g1 : Int → Int} (h : zIA E H q t n g) (e : ∀ i : Int, 0 ≤ i → i < n → g i = g1 i) : zIA E H q t n g1 := by
  obtain ⟨⟨f, h1, h2⟩, h3⟩ := h
  exact ⟨⟨f, h1, fun i hi => by rw [h2 i hi, e i (by omega) (by omega)]⟩, h3⟩
theorem zRA.to {E : zE} {H : Heap} {q t n : Nat} {g g1 : Int → Option Nat} (h : zRA E H q t n g) (e : ∀ i : Int, 0 ≤ i → i < n → g i = g1 i) : zRA E H q t n g1 := by
  obtain ⟨⟨f, h1, h2⟩, h3⟩ := h
  exact ⟨⟨f, h1, fun i hi => by rw [h2 i hi, e i (by omega) (by omega)]⟩, h3⟩
theorem zCh.F {E : zE} {H H1 : Heap} {q : Nat} (h : zCh H H1 q) (hq : E.2.2.2 ≤ q) : zF E H H1 := ⟨Nat.le_of_eq h.1.symm, fun r hr => h.2 r (by omega)⟩
theorem zNew.F {E : zE} {H H1 : Heap} (h : zNew H H1) (hB : E.2.2.2 ≤ H.size) : zF E H H1 := ⟨by rw [h.1]; omega, fun r hr => h.2 r (by omega)⟩
theorem zix {i : Int} {n : Nat} (hR : zR i) (h0 : 0 ≤ i) (h1 : i < n) : vp_in (iI i) n := vp_in_iff.mpr ⟨by rw [iI_toInt hR]; exact h0, by rw [iI_toInt hR]; exact h1⟩
theorem zcl {i : Int} (hR : zR i) : (iI i).toNatClampNeg = i.toNat := by show (iI i).toInt.toNat = _; rw [iI_toInt hR]
/-- a field's link: of class 'ci', its field 'k' -/
def zFL (own : String) (idx ci k : Nat) : Prop := ∃ (C : String) (T : u_T) (N : Nat), vwCl[ci]? = some (C, T, N) ∧ k < N ∧ (∀ w ∈ u_ws C T N, w ∈ lw_tbl) ∧ (Cond.fieldLink own idx (T k).1 (T k).2.1 (T k).2.2.1 ∈ lw_tbl ∨ ∃ host, Cond.fieldLinkNest own idx (T k).1 (T k).2.1 (T k).2.2.1 host ∈ lw_tbl)
/-- a link for a store: the field is final or not, and its type -/
def zFP (own : String) (idx ci k : Nat) (fin : Bool) (ty : FieldType) : Prop := ∃ (C : String) (T : u_T) (N : Nat) (ty0 : Nat → FieldType), vwCl[ci]? = some (C, T, N) ∧ k < N ∧ (∀ w ∈ u_ws C T N, w ∈ lw_tbl) ∧ (Cond.fieldLink own idx (T k).1 (T k).2.1 (T k).2.2.1 ∈ lw_tbl ∨ (fin = false ∧ ∃ host, Cond.fieldLinkNest own idx (T k).1 (T k).2.1 (T k).2.2.1 host ∈ lw_tbl)) ∧
  (∀ k, k < N → parseFieldDescriptor (T k).2.2.1 = some (ty0 k)) ∧ (∀ a, a < N → ∀ b, b < N → a ≠ b → (T a).2.1 ≠ (T b).2.1) ∧ (T k).2.2.2 = fin ∧ (fin = true → (T k).1 = own) ∧ ty0 k = ty
theorem zts_of {C : String} {T : u_T} {N : Nat} (hin : ∀ w ∈ u_ws C T N, w ∈ lw_tbl) {s : State} (hw : zW s) {args : Array Value} : ∀ w ∈ u_ws C T N, w.before args s = true := by
  intro w h
  have hm := hin w h
  obtain ⟨k, -, rfl⟩ := List.mem_map.mp h
  unfold u_lay at hm ⊢
  split
  · rename_i hq
    rw [if_pos hq] at hm
    exact hw.at hm rfl rfl
  · rename_i hq
    rw [if_neg hq] at hm
    exact hw.at hm rfl rfl
section ZH
variable {x : zX} {own : String} {cc : ByteArray} {nL : Nat} {ret : Option FieldType} {nm : String} {F L mc ms : Nat} {H : Heap} {a b pc : Nat} {lv : List (Nat × Value)} {st : List Value} {idx ci k q : Nat} {fs : List Value} {v : Value}
theorem z_getf (Lk : zFL own idx ci k) (O : zOk x own cc nL ret nm F L mc ms) (d : decode cc pc = .ok (.getfield idx, 3)) (ho : zOb (zEn x) H q ci fs) (hv : fs[k]? = some v) (K : zG x H a b (pc + 3) lv (v :: st)) : zG x H a b pc lv (.ref q :: st) := by
  obtain ⟨⟨p, e, R, s, m⟩, ⟨args, below, meth, c⟩, E, mc', ms', post, px⟩ := x
  obtain ⟨hx, hb, hml, hr, hown, hlk, htb, hst, hnm, hR, hm1, hm2⟩ := O
  intro hk hf locs ls hl hlv
  obtain ⟨C, T, N, hc, hkN, hin, hlink⟩ := Lk
  have hP : va_P E.2.1 vwCl [(q, .inr (ci, fs))] H := fun i z hz => by
    rcases i with _ | i
    · cases hz; exact ho.1
    · cases hz
  rcases hlink with hm | ⟨host, hm⟩
  · exact va_get hx hb (zts_of hin hk.2.2.1) (fun _ h => h) hown hk.1 hP 0 rfl hc k hkN (hk.2.2.1.at hm rfl rfl) (fun _ h => h) hv d (K hk hf locs ls hl hlv)
  · exact va_getN hx hb (zts_of hin hk.2.2.1) (fun _ h => h) hown hk.1 hP 0 rfl hc k hkN (hk.2.2.1.at hm rfl rfl) (fun _ h => h) hv d (K hk hf locs ls hl hlv)
theorem z_putf {fin : Bool} {ty : FieldType} (Lk : zFP own idx ci k fin ty) (O : zOk x own cc nL ret nm F L mc ms) (hfn : fin = true → nm = "<init>") (d : decode cc pc = .ok (.putfield idx, 3)) (ho : zOb (zEn x) H q ci fs) (hn : narrow ty v = v) (hfit : fits ty v = true) (hlen : k < fs.length)
    (K : ∀ H1 : Heap, zOb (zEn x) H1 q ci (fs.set k v) → zCh H H1 q → zG x H1 a b (pc + 3) lv st) : zG x H a b pc lv (v :: .ref q :: st) := by
  obtain ⟨⟨p, e, R, s, m⟩, ⟨args, below, meth, c⟩, E, mc', ms', post, px⟩ := x
  obtain ⟨hx, hb, hml, hr, hown, hlk, htb, hst, hnm, hR, hm1, hm2⟩ := O
  intro hk hf locs ls hl hlv
  obtain ⟨C, T, N, ty0, hc, hkN, hin, hlink, hty, hnms, hfin, hdec, hte⟩ := Lk
  obtain ⟨⟨r, h1, cell, q1, q2, q3, q4⟩, hBq⟩ := ho
  have hrr : r = (C, T, N) := Option.some.inj (h1.symm.trans hc)
  subst hrr
  obtain ⟨hS, hfc, kC, hkC, hkind⟩ := hk.1.1 ci _ hc
  have hts : ∀ w ∈ u_ws C T N, w.before args s = true := zts_of hin hk.2.2.1
  have hap := va_apart (own := own) hts (fun _ h => h) ty0 hty hnms hk.1 hc
  obtain ⟨cf, kf, fi, f, hi, hsl⟩ := hS k hkN
  have hlay := hts _ (u_in_lay hkN)
  unfold u_lay at hlay
  have hfacts := (u_facts hfc hkC (u_lays hts (fun _ h => h) hkN) hi).1
  have hd : parseFieldDescriptor (T k).2.2.1 = some ty := by rw [hty k hkN, hte]
  have fin1 : ∀ H' : Heap, H'[q]? = some (cell.setSlot f.slot v) → H'.size = H.size → (∀ r, r ≠ q → H'[r]? = H[r]?) → W p E.1 e R s m args below meth c H' (locs ++ [⟨q, f.slot⟩]) a b (zQ E below args s mc' ms' post px) (F0 m (pc + 3) ls st) := by
    intro H' e1 e2 e3
    rw [hsl] at e1
    refine K H' ⟨⟨_, hc, t_OB.to (V := updV (vp_V fs) k v) ⟨_, e1, q2, q3, t_set q4 hap hkN v⟩ (fun j _ => vp_updV_set hlen v j)⟩, hBq⟩ ⟨e2, e3⟩ (hk.step ((show zCh H H' q from ⟨e2, e3⟩).F hBq)) (hf.tr ((show zCh H H' q from ⟨e2, e3⟩).F hBq)) _ ls (fun z hz => ?_) hlv
    rcases List.mem_append.mp hz with h | h
    · exact hl z h
    · rw [List.mem_singleton.mp h]; exact hBq
  cases fin with
  | false =>
    rw [if_neg (by rw [hfin]; decide)] at hlay
    have h6 := u_store hfc hkC hkind hlay hi hd hn hfit
    rcases hlink with hm | ⟨-, host, hm⟩
    · exact W.putK hx hb (f := f) ⟨hown, hk.2.2.1.at hm rfl rfl, ⟨_, _, _, hi⟩, hfacts⟩ (by rw [q2]; exact h6) q1 q3 (by rw [hsl]; exact k2_hasslot (q4 k hkN)) rfl rfl d fin1
    · exact va_WputK hx hb (f := f) hown (hk.2.2.1.at hm rfl rfl) hi hfacts (by rw [q2]; exact h6) q1 q3 (by rw [hsl]; exact k2_hasslot (q4 k hkN)) rfl rfl d fin1
  | true =>
    rw [if_pos hfin] at hlay
    have hcf : m.cls = cf := by
      obtain ⟨_, _, c', _, _, _, -, -, hf', -, -, -, hown2, -⟩ := Cond.laysFinal_spec hlay
      have e1 : c' = cf := by have := hi.symm.trans hf'; simp at this; exact this.1.symm
      rw [hdec rfl] at hown2
      rw [← e1]; exact Option.some.inj (hown.symm.trans hown2)
    have h6 := u_fits hfc hkC hkind (Or.inr hlay) hi hd hn hfit
    rcases hlink with hm | ⟨hq, -⟩
    · exact W.putFinK hx hb hown (hk.2.2.1.at hm rfl rfl) hi hfacts hcf (by rw [hnm]; exact hfn rfl) (by rw [q2]; exact h6) q1 q3 (by rw [hsl]; exact k2_hasslot (q4 k hkN)) rfl rfl d fin1
    · cases hq
/-- a class that is made: its fields' first values -/
def zCN (own : String) (idx ci N : Nat) (fs : List Value) : Prop := ∃ (C : String) (T : u_T) (ty : Nat → FieldType), vwCl[ci]? = some (C, T, N) ∧ (∀ w ∈ u_ws C T N, w ∈ lw_tbl) ∧ (∀ k, k < N → parseFieldDescriptor (T k).2.2.1 = some (ty k)) ∧ Cond.classLink own idx C ∈ lw_tbl ∧ Cond.instantiable C N ∈ lw_tbl ∧ Cond.initialized C ∈ lw_tbl ∧ ∀ j, j < N → defaultValue (ty j) = vp_V fs j
theorem z_new {N : Nat} (Lk : zCN own idx ci N fs) (O : zOk x own cc nL ret nm F L mc ms) (d : decode cc pc = .ok (.new idx, 3)) (h1 : a + 1 ≤ mc) (h2 : b + N ≤ ms)
    (K : ∀ H1 : Heap, zOb (zEn x) H1 H.size ci fs → zNew H H1 → zG x H1 (a + 1) (b + N) (pc + 3) lv (.ref H.size :: st)) : zG x H a b pc lv st := by
  obtain ⟨⟨p, e, R, s, m⟩, ⟨args, below, meth, c⟩, E, mc', ms', post, px⟩ := x
  obtain ⟨hx, hb, hml, hr, hown, hlk, htb, hst, hnm, hR, hm1, hm2⟩ := O
  intro hk hf locs ls hl hlv
  obtain ⟨C, T, ty, hc, hin, hty, hm1', hm2', hm3', hfs⟩ := Lk
  subst hR
  have hKn := hk.1.1 ci _ hc
  refine W.newcK hx hb hown (hk.2.2.1.at hm1' rfl rfl) (hk.2.2.1.at hm2' rfl rfl) (hk.2.2.1.at hm3' rfl rfl) rfl d h1 h2 hKn.2.1 rfl fun H1 kC hkC e1 z1 o1 => ?_
  have hN : zNew H H1 := ⟨z1, o1⟩
  exact K H1 ⟨⟨_, hc, (u_born ty (zts_of (args := args) hin hk.2.2.1) (fun _ h => h) hKn hkC e1 hty).to hfs⟩, hk.2.1⟩ hN (hk.step (hN.F hk.2.1)) (hf.tr (hN.F hk.2.1)) locs ls hl hlv
end ZH
