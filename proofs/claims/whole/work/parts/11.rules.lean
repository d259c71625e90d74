/-! rules of the walk: pure instructions (written by program) -/
def iI (z : Int) : Int32 := Int32.ofInt z
abbrev zR (z : Int) : Prop := -2147483648 ≤ z ∧ z ≤ 2147483647
theorem zbm {z : Int} (h1 : -2147483648 ≤ z) (h2 : z ≤ 2147483647) : z.bmod (2 ^ 32) = z := Int.bmod_eq_of_le (by omega) (by omega)
theorem zbmL {z : Int} (h1 : -9223372036854775808 ≤ z) (h2 : z ≤ 9223372036854775807) : z.bmod (2 ^ 64) = z := Int.bmod_eq_of_le (by omega) (by omega)
theorem iI_toInt {z : Int} (h : zR z) : (iI z).toInt = z := by
  unfold iI
  rw [Int32.toInt_ofInt]
  exact zbm h.1 h.2
theorem iI_of (x : Int32) : ∃ z : Int, zR z ∧ x = iI z := ⟨x.toInt, ⟨by have := Int32.le_toInt x; omega, by have := Int32.toInt_lt x; omega⟩, by unfold iI; simp⟩
theorem iI_add (a b : Int) : iI a + iI b = iI (a + b) := by unfold iI; exact (Int32.ofInt_add a b).symm
theorem iI_sub (a b : Int) : iI a - iI b = iI (a - b) := by unfold iI; exact (Int32.ofInt_sub a b).symm
theorem iI_mul (a b : Int) : iI a * iI b = iI (a * b) := by unfold iI; exact (Int32.ofInt_mul a b).symm
theorem iI_inj {a b : Int} (ha : zR a) (hb : zR b) : iI a = iI b ↔ a = b := ⟨fun h => by rw [← iI_toInt ha, h, iI_toInt hb], fun h => by rw [h]⟩
theorem iI_lt {a b : Int} (ha : zR a) (hb : zR b) : iI a < iI b ↔ a < b := by rw [Int32.lt_iff_toInt_lt, iI_toInt ha, iI_toInt hb]
theorem iI_le {a b : Int} (ha : zR a) (hb : zR b) : iI a ≤ iI b ↔ a ≤ b := by rw [Int32.le_iff_toInt_le, iI_toInt ha, iI_toInt hb]
theorem iI_0 : (0 : Int32) = iI 0 := by decide +kernel
theorem zR0 : zR 0 := by constructor <;> omega
theorem iI_nat (n : Nat) : Int32.ofNat n = iI (n : Int) := by unfold iI; exact (Int32.ofInt_eq_ofNat).symm
theorem iI_div {u v : Int} (hu : zR u) (hv : zR v) (h0 : 0 ≤ u) (h1 : 0 < v) : iI u / iI v = iI (u / v) := by
  have hd : u / v ≤ u := Int.ediv_le_self v h0
  have hd0 : 0 ≤ u / v := Int.ediv_nonneg h0 (by omega)
  have hu2 := hu.2
  apply Int32.toInt_inj.mp
  rw [lg_idiv_nonneg (by rw [iI_toInt hu]; exact h0) (by rw [iI_toInt hv]; exact h1), iI_toInt hu, iI_toInt hv, iI_toInt ⟨by omega, by omega⟩]
theorem iI_rem {u v : Int} (hu : zR u) (hv : zR v) (h0 : 0 ≤ u) (h1 : 0 < v) : iI u - iI u / iI v * iI v = iI (u % v) := by
  rw [iI_div hu hv h0 h1, iI_mul, iI_sub]
  congr 1
  rw [Int.emod_def, Int.mul_comm v]
theorem iI_n0 {v : Int} (hv : zR v) (h1 : 0 < v) : ¬ iI v = 0 := fun h => by
  rw [iI_0, iI_inj hv zR0] at h
  omega
def iL (z : Int) : Int64 := Int64.ofInt z
abbrev zRL (z : Int) : Prop := -9223372036854775808 ≤ z ∧ z ≤ 9223372036854775807
theorem iL_toInt {z : Int} (h : zRL z) : (iL z).toInt = z := by
  unfold iL
  rw [Int64.toInt_ofInt]
  exact zbmL h.1 h.2
theorem iL_of (x : Int64) : ∃ z : Int, zRL z ∧ x = iL z := ⟨x.toInt, ⟨by have := Int64.le_toInt x; omega, by have := Int64.toInt_lt x; omega⟩, by unfold iL; simp⟩
theorem iL_add (a b : Int) : iL a + iL b = iL (a + b) := by unfold iL; exact (Int64.ofInt_add a b).symm
theorem iL_sub (a b : Int) : iL a - iL b = iL (a - b) := by unfold iL; exact (Int64.ofInt_sub a b).symm
theorem iL_mul (a b : Int) : iL a * iL b = iL (a * b) := by unfold iL; exact (Int64.ofInt_mul a b).symm
theorem iL_inj {a b : Int} (ha : zRL a) (hb : zRL b) : iL a = iL b ↔ a = b := ⟨fun h => by rw [← iL_toInt ha, h, iL_toInt hb], fun h => by rw [h]⟩
theorem iL_lt {a b : Int} (ha : zRL a) (hb : zRL b) : iL a < iL b ↔ a < b := by rw [Int64.lt_iff_toInt_lt, iL_toInt ha, iL_toInt hb]
theorem iL_i (z : Int) (h : zR z) : (iI z).toInt64 = iL z := by
  apply Int64.toInt_inj.mp
  have h1 := h.1
  have h2 := h.2
  rw [Int32.toInt_toInt64, iI_toInt h, iL_toInt ⟨by omega, by omega⟩]
theorem iL_to (z : Int) : (iL z).toInt32 = iI z := by
  unfold iL iI
  exact Int64.toInt32_ofInt
theorem iL_div {u v : Int} (hu : zRL u) (hv : zRL v) (h0 : 0 ≤ u) (h1 : 0 < v) : iL u / iL v = iL (u / v) := by
  have hd : u / v ≤ u := Int.ediv_le_self v h0
  have hd0 : 0 ≤ u / v := Int.ediv_nonneg h0 (by omega)
  have hu2 := hu.2
  apply Int64.toInt_inj.mp
  rw [lg_ldiv_nonneg (by rw [iL_toInt hu]; exact h0) (by rw [iL_toInt hv]; exact h1), iL_toInt hu, iL_toInt hv, iL_toInt ⟨by omega, by omega⟩]
theorem iL_rem {u v : Int} (hu : zRL u) (hv : zRL v) (h0 : 0 ≤ u) (h1 : 0 < v) : iL u - iL u / iL v * iL v = iL (u % v) := by
  rw [iL_div hu hv h0 h1, iL_mul, iL_sub]
  congr 1
  rw [Int.emod_def, Int.mul_comm v]
theorem iL_n0 {v : Int} (hv : zRL v) (h1 : 0 < v) : ¬ iL v = 0 := fun h => by
  rw [show (0 : Int64) = iL 0 by decide +kernel, iL_inj hv ⟨by omega, by omega⟩] at h
  omega
/-- what lcmp leaves -/
def zcmp (u v : Int) : Int := if u < v then -1 else if u = v then 0 else 1
theorem iL_cmp {u v : Int} (hu : zRL u) (hv : zRL v) : lg_cmp (iL u) (iL v) = iI (zcmp u v) := by
  unfold lg_cmp zcmp
  rcases Int.lt_trichotomy u v with h | h | h
  · have a : ¬ iL v < iL u := by rw [iL_lt hv hu]; omega
    have b : ¬ iL u = iL v := by rw [iL_inj hu hv]; omega
    simp [a, b, h]
    decide +kernel
  · subst h
    have a : ¬ iL u < iL u := by rw [iL_lt hu hu]; omega
    simp [a]
    decide +kernel
  · have a : iL v < iL u := by rw [iL_lt hv hu]; omega
    have b : ¬ u < v := by omega
    have e : ¬ u = v := by omega
    simp [a, b, e]
    decide +kernel
theorem zcmp_lt {u v : Int} : zcmp u v < 0 ↔ u < v := by unfold zcmp; split <;> (try split) <;> omega
theorem zcmp_gt {u v : Int} : 0 < zcmp u v ↔ v < u := by unfold zcmp; split <;> (try split) <;> omega
theorem zcmp_eq {u v : Int} : zcmp u v = 0 ↔ u = v := by unfold zcmp; split <;> (try split) <;> omega
theorem zcmp_R {u v : Int} : zR (zcmp u v) := by unfold zcmp; constructor <;> (split <;> (try split) <;> omega)
/-- a truth as an int -/
def zb (c : Bool) : Int := if c then 1 else 0
theorem zb_R {c : Bool} : zR (zb c) := by unfold zb; constructor <;> (split <;> omega)
theorem zb_0 {c : Bool} : zb c = 0 ↔ c = false := by cases c <;> decide
theorem zb_1 {c : Bool} : zb c = 1 ↔ c = true := by cases c <;> decide
section ZR
variable {x : zX} {own : String} {cc : ByteArray} {nL : Nat} {ret : Option FieldType} {nm : String} {F L mc ms : Nat} {H : Heap} {a b pc : Nat} {lv : List (Nat × Value)} {st : List Value}
theorem z_iconst {n : Int} (z : Int) (O : zOk x own cc nL ret nm F L mc ms) (d : decode cc pc = .ok (.iconst n, 1)) (hv : Int32.ofInt n = iI z) (K : zG x H a b (pc + 1) lv (.int (iI z) :: st)) : zG x H a b pc lv (st) := by
  obtain ⟨⟨p, e, R, s, m⟩, ⟨args, below, meth, c⟩, E, mc', ms', post, px⟩ := x
  obtain ⟨hx, hb, hml, hr, hown, hlk, htb, hst, hnm, hR, hm1, hm2⟩ := O
  intro hk hf locs ls hl hlv
  exact lv_iconst hx hb d hv (K hk hf locs ls hl hlv)
theorem z_bipush {n : Int} (z : Int) (O : zOk x own cc nL ret nm F L mc ms) (d : decode cc pc = .ok (.bipush n, 2)) (hv : (Int8.ofInt n).toInt32 = iI z) (K : zG x H a b (pc + 2) lv (.int (iI z) :: st)) : zG x H a b pc lv (st) := by
  obtain ⟨⟨p, e, R, s, m⟩, ⟨args, below, meth, c⟩, E, mc', ms', post, px⟩ := x
  obtain ⟨hx, hb, hml, hr, hown, hlk, htb, hst, hnm, hR, hm1, hm2⟩ := O
  intro hk hf locs ls hl hlv
  exact lv_bipush hx hb d hv (K hk hf locs ls hl hlv)
theorem z_sipush {n : Int} (z : Int) (O : zOk x own cc nL ret nm F L mc ms) (d : decode cc pc = .ok (.sipush n, 3)) (hv : (Int16.ofInt n).toInt32 = iI z) (K : zG x H a b (pc + 3) lv (.int (iI z) :: st)) : zG x H a b pc lv (st) := by
  obtain ⟨⟨p, e, R, s, m⟩, ⟨args, below, meth, c⟩, E, mc', ms', post, px⟩ := x
  obtain ⟨hx, hb, hml, hr, hown, hlk, htb, hst, hnm, hR, hm1, hm2⟩ := O
  intro hk hf locs ls hl hlv
  exact lv_sipush hx hb d hv (K hk hf locs ls hl hlv)
theorem z_iload_n {k : Fin 4} {v : Int32} (j : Nat) (O : zOk x own cc nL ret nm F L mc ms) (d : decode cc pc = .ok (.iload_n k, 1)) (h : lv[j]? = some ((k : Nat), .int v)) (K : zG x H a b (pc + 1) lv (.int v :: st)) : zG x H a b pc lv (st) := by
  obtain ⟨⟨p, e, R, s, m⟩, ⟨args, below, meth, c⟩, E, mc', ms', post, px⟩ := x
  obtain ⟨hx, hb, hml, hr, hown, hlk, htb, hst, hnm, hR, hm1, hm2⟩ := O
  intro hk hf locs ls hl hlv
  exact lv_iload_n hx hb d rfl (lv_at hlv j h) (K hk hf locs ls hl hlv)
theorem z_iload {i : Nat} {v : Int32} (j : Nat) (O : zOk x own cc nL ret nm F L mc ms) (d : decode cc pc = .ok (.iload i, 2)) (h : lv[j]? = some (i, .int v)) (K : zG x H a b (pc + 2) lv (.int v :: st)) : zG x H a b pc lv (st) := by
  obtain ⟨⟨p, e, R, s, m⟩, ⟨args, below, meth, c⟩, E, mc', ms', post, px⟩ := x
  obtain ⟨hx, hb, hml, hr, hown, hlk, htb, hst, hnm, hR, hm1, hm2⟩ := O
  intro hk hf locs ls hl hlv
  exact lv_iload hx hb d (lv_at hlv j h) (K hk hf locs ls hl hlv)
theorem z_aload_n {k : Fin 4} {v : Nat} (j : Nat) (O : zOk x own cc nL ret nm F L mc ms) (d : decode cc pc = .ok (.aload_n k, 1)) (h : lv[j]? = some ((k : Nat), .ref v)) (K : zG x H a b (pc + 1) lv (.ref v :: st)) : zG x H a b pc lv (st) := by
  obtain ⟨⟨p, e, R, s, m⟩, ⟨args, below, meth, c⟩, E, mc', ms', post, px⟩ := x
  obtain ⟨hx, hb, hml, hr, hown, hlk, htb, hst, hnm, hR, hm1, hm2⟩ := O
  intro hk hf locs ls hl hlv
  exact lv_aload_n hx hb d rfl (lv_at hlv j h) (K hk hf locs ls hl hlv)
theorem z_aload {i : Nat} {v : Nat} (j : Nat) (O : zOk x own cc nL ret nm F L mc ms) (d : decode cc pc = .ok (.aload i, 2)) (h : lv[j]? = some (i, .ref v)) (K : zG x H a b (pc + 2) lv (.ref v :: st)) : zG x H a b pc lv (st) := by
  obtain ⟨⟨p, e, R, s, m⟩, ⟨args, below, meth, c⟩, E, mc', ms', post, px⟩ := x
  obtain ⟨hx, hb, hml, hr, hown, hlk, htb, hst, hnm, hR, hm1, hm2⟩ := O
  intro hk hf locs ls hl hlv
  exact lv_aload hx hb d (lv_at hlv j h) (K hk hf locs ls hl hlv)
theorem z_lload_n {k : Fin 4} {v : Int64} (j : Nat) (O : zOk x own cc nL ret nm F L mc ms) (d : decode cc pc = .ok (.lload_n k, 1)) (h : lv[j]? = some ((k : Nat), .long v)) (K : zG x H a b (pc + 1) lv (.long v :: st)) : zG x H a b pc lv (st) := by
  obtain ⟨⟨p, e, R, s, m⟩, ⟨args, below, meth, c⟩, E, mc', ms', post, px⟩ := x
  obtain ⟨hx, hb, hml, hr, hown, hlk, htb, hst, hnm, hR, hm1, hm2⟩ := O
  intro hk hf locs ls hl hlv
  exact lv_lload_n hx hb d rfl (lv_at hlv j h) (K hk hf locs ls hl hlv)
theorem z_lload {i : Nat} {v : Int64} (j : Nat) (O : zOk x own cc nL ret nm F L mc ms) (d : decode cc pc = .ok (.lload i, 2)) (h : lv[j]? = some (i, .long v)) (K : zG x H a b (pc + 2) lv (.long v :: st)) : zG x H a b pc lv (st) := by
  obtain ⟨⟨p, e, R, s, m⟩, ⟨args, below, meth, c⟩, E, mc', ms', post, px⟩ := x
  obtain ⟨hx, hb, hml, hr, hown, hlk, htb, hst, hnm, hR, hm1, hm2⟩ := O
  intro hk hf locs ls hl hlv
  exact lv_lload hx hb d (lv_at hlv j h) (K hk hf locs ls hl hlv)
theorem z_aload_nN {k : Fin 4} (j : Nat) (O : zOk x own cc nL ret nm F L mc ms) (d : decode cc pc = .ok (.aload_n k, 1)) (h : lv[j]? = some ((k : Nat), .null)) (K : zG x H a b (pc + 1) lv (.null :: st)) : zG x H a b pc lv (st) := by
  obtain ⟨⟨p, e, R, s, m⟩, ⟨args, below, meth, c⟩, E, mc', ms', post, px⟩ := x
  obtain ⟨hx, hb, hml, hr, hown, hlk, htb, hst, hnm, hR, hm1, hm2⟩ := O
  intro hk hf locs ls hl hlv
  exact lv_aload_nN hx hb d rfl (lv_at hlv j h) (K hk hf locs ls hl hlv)
theorem z_aloadN {i : Nat} (j : Nat) (O : zOk x own cc nL ret nm F L mc ms) (d : decode cc pc = .ok (.aload i, 2)) (h : lv[j]? = some (i, .null)) (K : zG x H a b (pc + 2) lv (.null :: st)) : zG x H a b pc lv (st) := by
  obtain ⟨⟨p, e, R, s, m⟩, ⟨args, below, meth, c⟩, E, mc', ms', post, px⟩ := x
  obtain ⟨hx, hb, hml, hr, hown, hlk, htb, hst, hnm, hR, hm1, hm2⟩ := O
  intro hk hf locs ls hl hlv
  exact lv_aloadN hx hb d (lv_at hlv j h) (K hk hf locs ls hl hlv)
theorem z_istore_n {k : Fin 4} {v : Int32} (lv' : List (Nat × Value)) (O : zOk x own cc nL ret nm F L mc ms) (d : decode cc pc = .ok (.istore_n k, 1)) (hn : (k : Nat) < nL) (h : ((k : Nat), Value.int v) :: lv.filter (fun q => !(q.1 == (k : Nat)) && !(q.1 + 1 == (k : Nat) && q.2.category == 2)) = lv') (K : zG x H a b (pc + 1) lv' st) : zG x H a b pc lv (.int v :: st) := by
  obtain ⟨⟨p, e, R, s, m⟩, ⟨args, below, meth, c⟩, E, mc', ms', post, px⟩ := x
  obtain ⟨hx, hb, hml, hr, hown, hlk, htb, hst, hnm, hR, hm1, hm2⟩ := O
  intro hk hf locs ls hl hlv
  exact lv_istore_n hx hb d rfl hlv (by rw [hml]; exact hn) h (fun ls' h' => K hk hf locs ls' hl h')
theorem z_istore {i : Nat} {v : Int32} (lv' : List (Nat × Value)) (O : zOk x own cc nL ret nm F L mc ms) (d : decode cc pc = .ok (.istore i, 2)) (hn : i < nL) (h : (i, Value.int v) :: lv.filter (fun q => !(q.1 == i) && !(q.1 + 1 == i && q.2.category == 2)) = lv') (K : zG x H a b (pc + 2) lv' st) : zG x H a b pc lv (.int v :: st) := by
  obtain ⟨⟨p, e, R, s, m⟩, ⟨args, below, meth, c⟩, E, mc', ms', post, px⟩ := x
  obtain ⟨hx, hb, hml, hr, hown, hlk, htb, hst, hnm, hR, hm1, hm2⟩ := O
  intro hk hf locs ls hl hlv
  exact lv_istore hx hb d hlv (by rw [hml]; exact hn) h (fun ls' h' => K hk hf locs ls' hl h')
theorem z_astore_n {k : Fin 4} {v : Nat} (lv' : List (Nat × Value)) (O : zOk x own cc nL ret nm F L mc ms) (d : decode cc pc = .ok (.astore_n k, 1)) (hn : (k : Nat) < nL) (h : ((k : Nat), Value.ref v) :: lv.filter (fun q => !(q.1 == (k : Nat)) && !(q.1 + 1 == (k : Nat) && q.2.category == 2)) = lv') (K : zG x H a b (pc + 1) lv' st) : zG x H a b pc lv (.ref v :: st) := by
  obtain ⟨⟨p, e, R, s, m⟩, ⟨args, below, meth, c⟩, E, mc', ms', post, px⟩ := x
  obtain ⟨hx, hb, hml, hr, hown, hlk, htb, hst, hnm, hR, hm1, hm2⟩ := O
  intro hk hf locs ls hl hlv
  exact lv_astore_n hx hb d rfl hlv (by rw [hml]; exact hn) h (fun ls' h' => K hk hf locs ls' hl h')
theorem z_astore {i : Nat} {v : Nat} (lv' : List (Nat × Value)) (O : zOk x own cc nL ret nm F L mc ms) (d : decode cc pc = .ok (.astore i, 2)) (hn : i < nL) (h : (i, Value.ref v) :: lv.filter (fun q => !(q.1 == i) && !(q.1 + 1 == i && q.2.category == 2)) = lv') (K : zG x H a b (pc + 2) lv' st) : zG x H a b pc lv (.ref v :: st) := by
  obtain ⟨⟨p, e, R, s, m⟩, ⟨args, below, meth, c⟩, E, mc', ms', post, px⟩ := x
  obtain ⟨hx, hb, hml, hr, hown, hlk, htb, hst, hnm, hR, hm1, hm2⟩ := O
  intro hk hf locs ls hl hlv
  exact lv_astore hx hb d hlv (by rw [hml]; exact hn) h (fun ls' h' => K hk hf locs ls' hl h')
theorem z_astore_nN {k : Fin 4} (lv' : List (Nat × Value)) (O : zOk x own cc nL ret nm F L mc ms) (d : decode cc pc = .ok (.astore_n k, 1)) (hn : (k : Nat) < nL) (h : ((k : Nat), Value.null) :: lv.filter (fun q => !(q.1 == (k : Nat)) && !(q.1 + 1 == (k : Nat) && q.2.category == 2)) = lv') (K : zG x H a b (pc + 1) lv' st) : zG x H a b pc lv (.null :: st) := by
  obtain ⟨⟨p, e, R, s, m⟩, ⟨args, below, meth, c⟩, E, mc', ms', post, px⟩ := x
  obtain ⟨hx, hb, hml, hr, hown, hlk, htb, hst, hnm, hR, hm1, hm2⟩ := O
  intro hk hf locs ls hl hlv
  exact lv_astore_nN hx hb d rfl hlv (by rw [hml]; exact hn) h (fun ls' h' => K hk hf locs ls' hl h')
theorem z_astoreN {i : Nat} (lv' : List (Nat × Value)) (O : zOk x own cc nL ret nm F L mc ms) (d : decode cc pc = .ok (.astore i, 2)) (hn : i < nL) (h : (i, Value.null) :: lv.filter (fun q => !(q.1 == i) && !(q.1 + 1 == i && q.2.category == 2)) = lv') (K : zG x H a b (pc + 2) lv' st) : zG x H a b pc lv (.null :: st) := by
  obtain ⟨⟨p, e, R, s, m⟩, ⟨args, below, meth, c⟩, E, mc', ms', post, px⟩ := x
  obtain ⟨hx, hb, hml, hr, hown, hlk, htb, hst, hnm, hR, hm1, hm2⟩ := O
  intro hk hf locs ls hl hlv
  exact lv_astoreN hx hb d hlv (by rw [hml]; exact hn) h (fun ls' h' => K hk hf locs ls' hl h')
theorem z_lstore_n {k : Fin 4} {v : Int64} (lv' : List (Nat × Value)) (O : zOk x own cc nL ret nm F L mc ms) (d : decode cc pc = .ok (.lstore_n k, 1)) (hn : (k : Nat) + 1 < nL) (h : ((k : Nat), Value.long v) :: lv.filter (fun q => !(q.1 == (k : Nat)) && (!(q.1 == (k : Nat) + 1) && !(q.1 + 1 == (k : Nat) && q.2.category == 2))) = lv') (K : zG x H a b (pc + 1) lv' st) : zG x H a b pc lv (.long v :: st) := by
  obtain ⟨⟨p, e, R, s, m⟩, ⟨args, below, meth, c⟩, E, mc', ms', post, px⟩ := x
  obtain ⟨hx, hb, hml, hr, hown, hlk, htb, hst, hnm, hR, hm1, hm2⟩ := O
  intro hk hf locs ls hl hlv
  exact lv_lstore_n hx hb d rfl hlv (by rw [hml]; exact hn) h (fun ls' h' => K hk hf locs ls' hl h')
theorem z_lstore {i : Nat} {v : Int64} (lv' : List (Nat × Value)) (O : zOk x own cc nL ret nm F L mc ms) (d : decode cc pc = .ok (.lstore i, 2)) (hn : i + 1 < nL) (h : (i, Value.long v) :: lv.filter (fun q => !(q.1 == i) && (!(q.1 == i + 1) && !(q.1 + 1 == i && q.2.category == 2))) = lv') (K : zG x H a b (pc + 2) lv' st) : zG x H a b pc lv (.long v :: st) := by
  obtain ⟨⟨p, e, R, s, m⟩, ⟨args, below, meth, c⟩, E, mc', ms', post, px⟩ := x
  obtain ⟨hx, hb, hml, hr, hown, hlk, htb, hst, hnm, hR, hm1, hm2⟩ := O
  intro hk hf locs ls hl hlv
  exact lv_lstore hx hb d hlv (by rw [hml]; exact hn) h (fun ls' h' => K hk hf locs ls' hl h')
theorem z_iinc {i : Nat} {n : Int} {z : Int} (j : Nat) (lv' : List (Nat × Value)) (O : zOk x own cc nL ret nm F L mc ms) (d : decode cc pc = .ok (.iinc i n, 3)) (hn : i < nL) (h0 : lv[j]? = some (i, .int (iI z))) (h : (i, Value.int (iI (z + n))) :: lv.filter (fun q => !(q.1 == i) && !(q.1 + 1 == i && q.2.category == 2)) = lv') (K : zG x H a b (pc + 3) lv' st) : zG x H a b pc lv (st) := by
  obtain ⟨⟨p, e, R, s, m⟩, ⟨args, below, meth, c⟩, E, mc', ms', post, px⟩ := x
  obtain ⟨hx, hb, hml, hr, hown, hlk, htb, hst, hnm, hR, hm1, hm2⟩ := O
  intro hk hf locs ls hl hlv
  exact lv_iinc hx hb d hlv h0 (iI_add z n) (by rw [hml]; exact hn) h (fun ls' h' => K hk hf locs ls' hl h')
theorem z_iadd {u v : Int} (O : zOk x own cc nL ret nm F L mc ms) (d : decode cc pc = .ok (.iadd, 1)) (K : zG x H a b (pc + 1) lv (.int (iI (u + v)) :: st)) : zG x H a b pc lv (.int (iI v) :: .int (iI u) :: st) := by
  obtain ⟨⟨p, e, R, s, m⟩, ⟨args, below, meth, c⟩, E, mc', ms', post, px⟩ := x
  obtain ⟨hx, hb, hml, hr, hown, hlk, htb, hst, hnm, hR, hm1, hm2⟩ := O
  intro hk hf locs ls hl hlv
  exact lv_iadd hx hb d (by rw [iI_add]; exact K hk hf locs ls hl hlv)
theorem z_isub {u v : Int} (O : zOk x own cc nL ret nm F L mc ms) (d : decode cc pc = .ok (.isub, 1)) (K : zG x H a b (pc + 1) lv (.int (iI (u - v)) :: st)) : zG x H a b pc lv (.int (iI v) :: .int (iI u) :: st) := by
  obtain ⟨⟨p, e, R, s, m⟩, ⟨args, below, meth, c⟩, E, mc', ms', post, px⟩ := x
  obtain ⟨hx, hb, hml, hr, hown, hlk, htb, hst, hnm, hR, hm1, hm2⟩ := O
  intro hk hf locs ls hl hlv
  exact lv_isub hx hb d (by rw [iI_sub]; exact K hk hf locs ls hl hlv)
theorem z_imul {u v : Int} (O : zOk x own cc nL ret nm F L mc ms) (d : decode cc pc = .ok (.imul, 1)) (K : zG x H a b (pc + 1) lv (.int (iI (u * v)) :: st)) : zG x H a b pc lv (.int (iI v) :: .int (iI u) :: st) := by
  obtain ⟨⟨p, e, R, s, m⟩, ⟨args, below, meth, c⟩, E, mc', ms', post, px⟩ := x
  obtain ⟨hx, hb, hml, hr, hown, hlk, htb, hst, hnm, hR, hm1, hm2⟩ := O
  intro hk hf locs ls hl hlv
  exact lv_imul hx hb d (by rw [iI_mul]; exact K hk hf locs ls hl hlv)
theorem z_ladd {u v : Int64} (O : zOk x own cc nL ret nm F L mc ms) (d : decode cc pc = .ok (.ladd, 1)) (K : zG x H a b (pc + 1) lv (.long (u + v) :: st)) : zG x H a b pc lv (.long v :: .long u :: st) := by
  obtain ⟨⟨p, e, R, s, m⟩, ⟨args, below, meth, c⟩, E, mc', ms', post, px⟩ := x
  obtain ⟨hx, hb, hml, hr, hown, hlk, htb, hst, hnm, hR, hm1, hm2⟩ := O
  intro hk hf locs ls hl hlv
  exact lv_ladd hx hb d (K hk hf locs ls hl hlv)
theorem z_lsub {u v : Int64} (O : zOk x own cc nL ret nm F L mc ms) (d : decode cc pc = .ok (.lsub, 1)) (K : zG x H a b (pc + 1) lv (.long (u - v) :: st)) : zG x H a b pc lv (.long v :: .long u :: st) := by
  obtain ⟨⟨p, e, R, s, m⟩, ⟨args, below, meth, c⟩, E, mc', ms', post, px⟩ := x
  obtain ⟨hx, hb, hml, hr, hown, hlk, htb, hst, hnm, hR, hm1, hm2⟩ := O
  intro hk hf locs ls hl hlv
  exact lv_lsub hx hb d (K hk hf locs ls hl hlv)
theorem z_lmul {u v : Int64} (O : zOk x own cc nL ret nm F L mc ms) (d : decode cc pc = .ok (.lmul, 1)) (K : zG x H a b (pc + 1) lv (.long (u * v) :: st)) : zG x H a b pc lv (.long v :: .long u :: st) := by
  obtain ⟨⟨p, e, R, s, m⟩, ⟨args, below, meth, c⟩, E, mc', ms', post, px⟩ := x
  obtain ⟨hx, hb, hml, hr, hown, hlk, htb, hst, hnm, hR, hm1, hm2⟩ := O
  intro hk hf locs ls hl hlv
  exact lv_lmul hx hb d (K hk hf locs ls hl hlv)
theorem z_idiv {u v : Int} (O : zOk x own cc nL ret nm F L mc ms) (d : decode cc pc = .ok (.idiv, 1)) (hu : zR u) (hv : zR v) (h0 : 0 ≤ u) (h1 : 0 < v) (K : zG x H a b (pc + 1) lv (.int (iI (u / v)) :: st)) : zG x H a b pc lv (.int (iI v) :: .int (iI u) :: st) := by
  obtain ⟨⟨p, e, R, s, m⟩, ⟨args, below, meth, c⟩, E, mc', ms', post, px⟩ := x
  obtain ⟨hx, hb, hml, hr, hown, hlk, htb, hst, hnm, hR, hm1, hm2⟩ := O
  intro hk hf locs ls hl hlv
  exact lv_idiv hx hb d (iI_n0 hv h1) (by rw [iI_div hu hv h0 h1]; exact K hk hf locs ls hl hlv)
theorem z_irem {u v : Int} (O : zOk x own cc nL ret nm F L mc ms) (d : decode cc pc = .ok (.irem, 1)) (hu : zR u) (hv : zR v) (h0 : 0 ≤ u) (h1 : 0 < v) (K : zG x H a b (pc + 1) lv (.int (iI (u % v)) :: st)) : zG x H a b pc lv (.int (iI v) :: .int (iI u) :: st) := by
  obtain ⟨⟨p, e, R, s, m⟩, ⟨args, below, meth, c⟩, E, mc', ms', post, px⟩ := x
  obtain ⟨hx, hb, hml, hr, hown, hlk, htb, hst, hnm, hR, hm1, hm2⟩ := O
  intro hk hf locs ls hl hlv
  exact lv_irem hx hb d (iI_n0 hv h1) (by rw [iI_rem hu hv h0 h1]; exact K hk hf locs ls hl hlv)
theorem z_ldiv {u v : Int} (O : zOk x own cc nL ret nm F L mc ms) (d : decode cc pc = .ok (.ldiv, 1)) (hu : zRL u) (hv : zRL v) (h0 : 0 ≤ u) (h1 : 0 < v) (K : zG x H a b (pc + 1) lv (.long (iL (u / v)) :: st)) : zG x H a b pc lv (.long (iL v) :: .long (iL u) :: st) := by
  obtain ⟨⟨p, e, R, s, m⟩, ⟨args, below, meth, c⟩, E, mc', ms', post, px⟩ := x
  obtain ⟨hx, hb, hml, hr, hown, hlk, htb, hst, hnm, hR, hm1, hm2⟩ := O
  intro hk hf locs ls hl hlv
  exact lv_ldiv hx hb d (iL_n0 hv h1) (by rw [iL_div hu hv h0 h1]; exact K hk hf locs ls hl hlv)
theorem z_lrem {u v : Int} (O : zOk x own cc nL ret nm F L mc ms) (d : decode cc pc = .ok (.lrem, 1)) (hu : zRL u) (hv : zRL v) (h0 : 0 ≤ u) (h1 : 0 < v) (K : zG x H a b (pc + 1) lv (.long (iL (u % v)) :: st)) : zG x H a b pc lv (.long (iL v) :: .long (iL u) :: st) := by
  obtain ⟨⟨p, e, R, s, m⟩, ⟨args, below, meth, c⟩, E, mc', ms', post, px⟩ := x
  obtain ⟨hx, hb, hml, hr, hown, hlk, htb, hst, hnm, hR, hm1, hm2⟩ := O
  intro hk hf locs ls hl hlv
  exact lv_lrem hx hb d (iL_n0 hv h1) (by rw [iL_rem hu hv h0 h1]; exact K hk hf locs ls hl hlv)
theorem z_laddI {u v : Int} (O : zOk x own cc nL ret nm F L mc ms) (d : decode cc pc = .ok (.ladd, 1)) (K : zG x H a b (pc + 1) lv (.long (iL (u + v)) :: st)) : zG x H a b pc lv (.long (iL v) :: .long (iL u) :: st) := by
  obtain ⟨⟨p, e, R, s, m⟩, ⟨args, below, meth, c⟩, E, mc', ms', post, px⟩ := x
  obtain ⟨hx, hb, hml, hr, hown, hlk, htb, hst, hnm, hR, hm1, hm2⟩ := O
  intro hk hf locs ls hl hlv
  exact lv_ladd hx hb d (by rw [iL_add]; exact K hk hf locs ls hl hlv)
theorem z_lsubI {u v : Int} (O : zOk x own cc nL ret nm F L mc ms) (d : decode cc pc = .ok (.lsub, 1)) (K : zG x H a b (pc + 1) lv (.long (iL (u - v)) :: st)) : zG x H a b pc lv (.long (iL v) :: .long (iL u) :: st) := by
  obtain ⟨⟨p, e, R, s, m⟩, ⟨args, below, meth, c⟩, E, mc', ms', post, px⟩ := x
  obtain ⟨hx, hb, hml, hr, hown, hlk, htb, hst, hnm, hR, hm1, hm2⟩ := O
  intro hk hf locs ls hl hlv
  exact lv_lsub hx hb d (by rw [iL_sub]; exact K hk hf locs ls hl hlv)
theorem z_lmulI {u v : Int} (O : zOk x own cc nL ret nm F L mc ms) (d : decode cc pc = .ok (.lmul, 1)) (K : zG x H a b (pc + 1) lv (.long (iL (u * v)) :: st)) : zG x H a b pc lv (.long (iL v) :: .long (iL u) :: st) := by
  obtain ⟨⟨p, e, R, s, m⟩, ⟨args, below, meth, c⟩, E, mc', ms', post, px⟩ := x
  obtain ⟨hx, hb, hml, hr, hown, hlk, htb, hst, hnm, hR, hm1, hm2⟩ := O
  intro hk hf locs ls hl hlv
  exact lv_lmul hx hb d (by rw [iL_mul]; exact K hk hf locs ls hl hlv)
theorem z_i2l {u : Int} (O : zOk x own cc nL ret nm F L mc ms) (d : decode cc pc = .ok (.i2l, 1)) (hu : zR u) (K : zG x H a b (pc + 1) lv (.long (iL u) :: st)) : zG x H a b pc lv (.int (iI u) :: st) := by
  obtain ⟨⟨p, e, R, s, m⟩, ⟨args, below, meth, c⟩, E, mc', ms', post, px⟩ := x
  obtain ⟨hx, hb, hml, hr, hown, hlk, htb, hst, hnm, hR, hm1, hm2⟩ := O
  intro hk hf locs ls hl hlv
  exact lv_i2l hx hb d (iL_i u hu) (K hk hf locs ls hl hlv)
theorem z_l2i {u : Int} (O : zOk x own cc nL ret nm F L mc ms) (d : decode cc pc = .ok (.l2i, 1)) (K : zG x H a b (pc + 1) lv (.int (iI u) :: st)) : zG x H a b pc lv (.long (iL u) :: st) := by
  obtain ⟨⟨p, e, R, s, m⟩, ⟨args, below, meth, c⟩, E, mc', ms', post, px⟩ := x
  obtain ⟨hx, hb, hml, hr, hown, hlk, htb, hst, hnm, hR, hm1, hm2⟩ := O
  intro hk hf locs ls hl hlv
  exact lv_l2i hx hb d (iL_to u) (K hk hf locs ls hl hlv)
theorem z_l2iR {u : Int64} {z : Int} (O : zOk x own cc nL ret nm F L mc ms) (d : decode cc pc = .ok (.l2i, 1)) (hu : u.toInt32 = iI z) (K : zG x H a b (pc + 1) lv (.int (iI z) :: st)) : zG x H a b pc lv (.long u :: st) := by
  obtain ⟨⟨p, e, R, s, m⟩, ⟨args, below, meth, c⟩, E, mc', ms', post, px⟩ := x
  obtain ⟨hx, hb, hml, hr, hown, hlk, htb, hst, hnm, hR, hm1, hm2⟩ := O
  intro hk hf locs ls hl hlv
  exact lv_l2i hx hb d hu (K hk hf locs ls hl hlv)
theorem z_lushr {u v : Int64} {y : Int32} (O : zOk x own cc nL ret nm F L mc ms) (d : decode cc pc = .ok (.lushr, 1)) (hv : (u.toUInt64 >>> (y.toInt64.toUInt64 &&& Int64.toUInt64 63)).toInt64 = v) (K : zG x H a b (pc + 1) lv (.long v :: st)) : zG x H a b pc lv (.int y :: .long u :: st) := by
  obtain ⟨⟨p, e, R, s, m⟩, ⟨args, below, meth, c⟩, E, mc', ms', post, px⟩ := x
  obtain ⟨hx, hb, hml, hr, hown, hlk, htb, hst, hnm, hR, hm1, hm2⟩ := O
  intro hk hf locs ls hl hlv
  exact lv_lushr hx hb d hv (K hk hf locs ls hl hlv)
theorem z_lconst {n : Fin 2} (z : Int) (O : zOk x own cc nL ret nm F L mc ms) (d : decode cc pc = .ok (.lconst n, 1)) (hv : Int64.ofNat (n : Nat) = iL z) (K : zG x H a b (pc + 1) lv (.long (iL z) :: st)) : zG x H a b pc lv (st) := by
  obtain ⟨⟨p, e, R, s, m⟩, ⟨args, below, meth, c⟩, E, mc', ms', post, px⟩ := x
  obtain ⟨hx, hb, hml, hr, hown, hlk, htb, hst, hnm, hR, hm1, hm2⟩ := O
  intro hk hf locs ls hl hlv
  exact lv_lconst hx hb d hv (K hk hf locs ls hl hlv)
theorem z_ldc2 {i : Nat} (v : Int64) (O : zOk x own cc nL ret nm F L mc ms) (d : decode cc pc = .ok (.ldc2_w i, 3)) (hm : Cond.constantLong own i v ∈ lw_tbl) (K : zG x H a b (pc + 3) lv (.long v :: st)) : zG x H a b pc lv (st) := by
  obtain ⟨⟨p, e, R, s, m⟩, ⟨args, below, meth, c⟩, E, mc', ms', post, px⟩ := x
  obtain ⟨hx, hb, hml, hr, hown, hlk, htb, hst, hnm, hR, hm1, hm2⟩ := O
  intro hk hf locs ls hl hlv
  exact lv_ldc2 hx hb hown (hk.2.2.1.at hm rfl rfl) d (K hk hf locs ls hl hlv)
theorem z_lcmp {u v : Int} (O : zOk x own cc nL ret nm F L mc ms) (d : decode cc pc = .ok (.lcmp, 1)) (hu : zRL u) (hv : zRL v) (K : zG x H a b (pc + 1) lv (.int (iI (zcmp u v)) :: st)) : zG x H a b pc lv (.long (iL v) :: .long (iL u) :: st) := by
  obtain ⟨⟨p, e, R, s, m⟩, ⟨args, below, meth, c⟩, E, mc', ms', post, px⟩ := x
  obtain ⟨hx, hb, hml, hr, hown, hlk, htb, hst, hnm, hR, hm1, hm2⟩ := O
  intro hk hf locs ls hl hlv
  exact W.lcmp hx hb d (by rw [iL_cmp hu hv]; exact K hk hf locs ls hl hlv)
theorem z_i2c {u : Int} (O : zOk x own cc nL ret nm F L mc ms) (d : decode cc pc = .ok (.i2c, 1)) (h : ((iI u).toUInt32 % 65536).toInt32 = iI u) (K : zG x H a b (pc + 1) lv (.int (iI u) :: st)) : zG x H a b pc lv (.int (iI u) :: st) := by
  obtain ⟨⟨p, e, R, s, m⟩, ⟨args, below, meth, c⟩, E, mc', ms', post, px⟩ := x
  obtain ⟨hx, hb, hml, hr, hown, hlk, htb, hst, hnm, hR, hm1, hm2⟩ := O
  intro hk hf locs ls hl hlv
  exact lv_i2c hx hb d h (K hk hf locs ls hl hlv)
theorem z_dup {v : Value} (O : zOk x own cc nL ret nm F L mc ms) (d : decode cc pc = .ok (.dup, 1)) (h : v.category = 1) (K : zG x H a b (pc + 1) lv (v :: v :: st)) : zG x H a b pc lv (v :: st) := by
  obtain ⟨⟨p, e, R, s, m⟩, ⟨args, below, meth, c⟩, E, mc', ms', post, px⟩ := x
  obtain ⟨hx, hb, hml, hr, hown, hlk, htb, hst, hnm, hR, hm1, hm2⟩ := O
  intro hk hf locs ls hl hlv
  exact lv_dup hx hb d h (K hk hf locs ls hl hlv)
theorem z_pop {v : Value} (O : zOk x own cc nL ret nm F L mc ms) (d : decode cc pc = .ok (.pop, 1)) (h : v.category = 1) (K : zG x H a b (pc + 1) lv st) : zG x H a b pc lv (v :: st) := by
  obtain ⟨⟨p, e, R, s, m⟩, ⟨args, below, meth, c⟩, E, mc', ms', post, px⟩ := x
  obtain ⟨hx, hb, hml, hr, hown, hlk, htb, hst, hnm, hR, hm1, hm2⟩ := O
  intro hk hf locs ls hl hlv
  exact lv_pop hx hb d h (K hk hf locs ls hl hlv)
theorem z_dup2 {v w : Value} (O : zOk x own cc nL ret nm F L mc ms) (d : decode cc pc = .ok (.dup2, 1)) (h : v.category = 1) (h2 : w.category = 1) (K : zG x H a b (pc + 1) lv (v :: w :: v :: w :: st)) : zG x H a b pc lv (v :: w :: st) := by
  obtain ⟨⟨p, e, R, s, m⟩, ⟨args, below, meth, c⟩, E, mc', ms', post, px⟩ := x
  obtain ⟨hx, hb, hml, hr, hown, hlk, htb, hst, hnm, hR, hm1, hm2⟩ := O
  intro hk hf locs ls hl hlv
  exact lv_dup2_11 hx hb d h h2 (K hk hf locs ls hl hlv)
theorem z_null  (O : zOk x own cc nL ret nm F L mc ms) (d : decode cc pc = .ok (.aconst_null, 1)) (K : zG x H a b (pc + 1) lv (.null :: st)) : zG x H a b pc lv (st) := by
  obtain ⟨⟨p, e, R, s, m⟩, ⟨args, below, meth, c⟩, E, mc', ms', post, px⟩ := x
  obtain ⟨hx, hb, hml, hr, hown, hlk, htb, hst, hnm, hR, hm1, hm2⟩ := O
  intro hk hf locs ls hl hlv
  exact lv_null hx hb d (K hk hf locs ls hl hlv)
theorem z_goto {off : Int} (tgt : Nat) (O : zOk x own cc nL ret nm F L mc ms) (d : decode cc pc = .ok (.goto off, 3)) (ht : (pc : Int) + off = (tgt : Int)) (K : zG x H a b tgt lv st) : zG x H a b pc lv (st) := by
  obtain ⟨⟨p, e, R, s, m⟩, ⟨args, below, meth, c⟩, E, mc', ms', post, px⟩ := x
  obtain ⟨hx, hb, hml, hr, hown, hlk, htb, hst, hnm, hR, hm1, hm2⟩ := O
  intro hk hf locs ls hl hlv
  exact lv_goto hx hb d ht (K hk hf locs ls hl hlv)
theorem z_ifnonnull {off : Int} {v : Nat} (tgt : Nat) (O : zOk x own cc nL ret nm F L mc ms) (d : decode cc pc = .ok (.ifnonnull off, 3)) (ht : (pc : Int) + off = (tgt : Int)) (K : zG x H a b tgt lv st) : zG x H a b pc lv (.ref v :: st) := by
  obtain ⟨⟨p, e, R, s, m⟩, ⟨args, below, meth, c⟩, E, mc', ms', post, px⟩ := x
  obtain ⟨hx, hb, hml, hr, hown, hlk, htb, hst, hnm, hR, hm1, hm2⟩ := O
  intro hk hf locs ls hl hlv
  exact lv_ifnonnull hx hb d ht (K hk hf locs ls hl hlv)
theorem z_ifnonnullN {off : Int} (O : zOk x own cc nL ret nm F L mc ms) (d : decode cc pc = .ok (.ifnonnull off, 3)) (K : zG x H a b (pc + 3) lv st) : zG x H a b pc lv (.null :: st) := by
  obtain ⟨⟨p, e, R, s, m⟩, ⟨args, below, meth, c⟩, E, mc', ms', post, px⟩ := x
  obtain ⟨hx, hb, hml, hr, hown, hlk, htb, hst, hnm, hR, hm1, hm2⟩ := O
  intro hk hf locs ls hl hlv
  exact lv_ifnonnullN hx hb d (K hk hf locs ls hl hlv)
theorem z_ifnull {off : Int} {v : Nat} (O : zOk x own cc nL ret nm F L mc ms) (d : decode cc pc = .ok (.ifnull off, 3)) (K : zG x H a b (pc + 3) lv st) : zG x H a b pc lv (.ref v :: st) := by
  obtain ⟨⟨p, e, R, s, m⟩, ⟨args, below, meth, c⟩, E, mc', ms', post, px⟩ := x
  obtain ⟨hx, hb, hml, hr, hown, hlk, htb, hst, hnm, hR, hm1, hm2⟩ := O
  intro hk hf locs ls hl hlv
  exact lv_ifnull hx hb d (K hk hf locs ls hl hlv)
theorem z_ifnullN {off : Int} (tgt : Nat) (O : zOk x own cc nL ret nm F L mc ms) (d : decode cc pc = .ok (.ifnull off, 3)) (ht : (pc : Int) + off = (tgt : Int)) (K : zG x H a b tgt lv st) : zG x H a b pc lv (.null :: st) := by
  obtain ⟨⟨p, e, R, s, m⟩, ⟨args, below, meth, c⟩, E, mc', ms', post, px⟩ := x
  obtain ⟨hx, hb, hml, hr, hown, hlk, htb, hst, hnm, hR, hm1, hm2⟩ := O
  intro hk hf locs ls hl hlv
  exact lv_ifnullN hx hb d ht (K hk hf locs ls hl hlv)
theorem z_icmp_eq {off : Int} {u v : Int} (tgt : Nat) (O : zOk x own cc nL ret nm F L mc ms) (d : decode cc pc = .ok (.if_icmp .eq off, 3)) (ht : (pc : Int) + off = (tgt : Int)) (hu : zR u) (hv : zR v) (kt : u = v → zG x H a b tgt lv st) (kf : ¬ u = v → zG x H a b (pc + 3) lv st) : zG x H a b pc lv (.int (iI v) :: .int (iI u) :: st) := by
  obtain ⟨⟨p, e, R, s, m⟩, ⟨args, below, meth, c⟩, E, mc', ms', post, px⟩ := x
  obtain ⟨hx, hb, hml, hr, hown, hlk, htb, hst, hnm, hR, hm1, hm2⟩ := O
  intro hk hf locs ls hl hlv
  exact lv_icmp_eq hx hb d ht (fun h => kt ((iI_inj hu hv).mp h) hk hf locs ls hl hlv) (fun h => kf (fun q => h ((iI_inj hu hv).mpr q)) hk hf locs ls hl hlv)
theorem z_if_eq {off : Int} {u : Int} (tgt : Nat) (O : zOk x own cc nL ret nm F L mc ms) (d : decode cc pc = .ok (.ifCond .eq off, 3)) (ht : (pc : Int) + off = (tgt : Int)) (hu : zR u) (kt : u = 0 → zG x H a b tgt lv st) (kf : ¬ u = 0 → zG x H a b (pc + 3) lv st) : zG x H a b pc lv (.int (iI u) :: st) := by
  obtain ⟨⟨p, e, R, s, m⟩, ⟨args, below, meth, c⟩, E, mc', ms', post, px⟩ := x
  obtain ⟨hx, hb, hml, hr, hown, hlk, htb, hst, hnm, hR, hm1, hm2⟩ := O
  intro hk hf locs ls hl hlv
  refine lv_if_eq hx hb d ht ?_ ?_ <;> rw [iI_0]
  · exact (fun h => kt ((iI_inj hu zR0).mp h) hk hf locs ls hl hlv)
  · exact (fun h => kf (fun q => h ((iI_inj hu zR0).mpr q)) hk hf locs ls hl hlv)
theorem z_icmp_ne {off : Int} {u v : Int} (tgt : Nat) (O : zOk x own cc nL ret nm F L mc ms) (d : decode cc pc = .ok (.if_icmp .ne off, 3)) (ht : (pc : Int) + off = (tgt : Int)) (hu : zR u) (hv : zR v) (kt : ¬ u = v → zG x H a b tgt lv st) (kf : u = v → zG x H a b (pc + 3) lv st) : zG x H a b pc lv (.int (iI v) :: .int (iI u) :: st) := by
  obtain ⟨⟨p, e, R, s, m⟩, ⟨args, below, meth, c⟩, E, mc', ms', post, px⟩ := x
  obtain ⟨hx, hb, hml, hr, hown, hlk, htb, hst, hnm, hR, hm1, hm2⟩ := O
  intro hk hf locs ls hl hlv
  exact lv_icmp_ne hx hb d ht (fun h => kt (fun q => h ((iI_inj hu hv).mpr q)) hk hf locs ls hl hlv) (fun h => kf ((iI_inj hu hv).mp h) hk hf locs ls hl hlv)
theorem z_if_ne {off : Int} {u : Int} (tgt : Nat) (O : zOk x own cc nL ret nm F L mc ms) (d : decode cc pc = .ok (.ifCond .ne off, 3)) (ht : (pc : Int) + off = (tgt : Int)) (hu : zR u) (kt : ¬ u = 0 → zG x H a b tgt lv st) (kf : u = 0 → zG x H a b (pc + 3) lv st) : zG x H a b pc lv (.int (iI u) :: st) := by
  obtain ⟨⟨p, e, R, s, m⟩, ⟨args, below, meth, c⟩, E, mc', ms', post, px⟩ := x
  obtain ⟨hx, hb, hml, hr, hown, hlk, htb, hst, hnm, hR, hm1, hm2⟩ := O
  intro hk hf locs ls hl hlv
  refine lv_if_ne hx hb d ht ?_ ?_ <;> rw [iI_0]
  · exact (fun h => kt (fun q => h ((iI_inj hu zR0).mpr q)) hk hf locs ls hl hlv)
  · exact (fun h => kf ((iI_inj hu zR0).mp h) hk hf locs ls hl hlv)
theorem z_icmp_lt {off : Int} {u v : Int} (tgt : Nat) (O : zOk x own cc nL ret nm F L mc ms) (d : decode cc pc = .ok (.if_icmp .lt off, 3)) (ht : (pc : Int) + off = (tgt : Int)) (hu : zR u) (hv : zR v) (kt : u < v → zG x H a b tgt lv st) (kf : v ≤ u → zG x H a b (pc + 3) lv st) : zG x H a b pc lv (.int (iI v) :: .int (iI u) :: st) := by
  obtain ⟨⟨p, e, R, s, m⟩, ⟨args, below, meth, c⟩, E, mc', ms', post, px⟩ := x
  obtain ⟨hx, hb, hml, hr, hown, hlk, htb, hst, hnm, hR, hm1, hm2⟩ := O
  intro hk hf locs ls hl hlv
  exact lv_icmp_lt hx hb d ht (fun h => kt ((iI_lt hu hv).mp h) hk hf locs ls hl hlv) (fun h => kf (by have q := mt (iI_lt hu hv).mpr h; omega) hk hf locs ls hl hlv)
theorem z_if_lt {off : Int} {u : Int} (tgt : Nat) (O : zOk x own cc nL ret nm F L mc ms) (d : decode cc pc = .ok (.ifCond .lt off, 3)) (ht : (pc : Int) + off = (tgt : Int)) (hu : zR u) (kt : u < 0 → zG x H a b tgt lv st) (kf : 0 ≤ u → zG x H a b (pc + 3) lv st) : zG x H a b pc lv (.int (iI u) :: st) := by
  obtain ⟨⟨p, e, R, s, m⟩, ⟨args, below, meth, c⟩, E, mc', ms', post, px⟩ := x
  obtain ⟨hx, hb, hml, hr, hown, hlk, htb, hst, hnm, hR, hm1, hm2⟩ := O
  intro hk hf locs ls hl hlv
  refine lv_if_lt hx hb d ht ?_ ?_ <;> rw [iI_0]
  · exact (fun h => kt ((iI_lt hu zR0).mp h) hk hf locs ls hl hlv)
  · exact (fun h => kf (by have q := mt (iI_lt hu zR0).mpr h; omega) hk hf locs ls hl hlv)
theorem z_icmp_ge {off : Int} {u v : Int} (tgt : Nat) (O : zOk x own cc nL ret nm F L mc ms) (d : decode cc pc = .ok (.if_icmp .ge off, 3)) (ht : (pc : Int) + off = (tgt : Int)) (hu : zR u) (hv : zR v) (kt : v ≤ u → zG x H a b tgt lv st) (kf : u < v → zG x H a b (pc + 3) lv st) : zG x H a b pc lv (.int (iI v) :: .int (iI u) :: st) := by
  obtain ⟨⟨p, e, R, s, m⟩, ⟨args, below, meth, c⟩, E, mc', ms', post, px⟩ := x
  obtain ⟨hx, hb, hml, hr, hown, hlk, htb, hst, hnm, hR, hm1, hm2⟩ := O
  intro hk hf locs ls hl hlv
  exact lv_icmp_ge hx hb d ht (fun h => kt ((iI_le hv hu).mp h) hk hf locs ls hl hlv) (fun h => kf (by have q := mt (iI_le hv hu).mpr h; omega) hk hf locs ls hl hlv)
theorem z_if_ge {off : Int} {u : Int} (tgt : Nat) (O : zOk x own cc nL ret nm F L mc ms) (d : decode cc pc = .ok (.ifCond .ge off, 3)) (ht : (pc : Int) + off = (tgt : Int)) (hu : zR u) (kt : 0 ≤ u → zG x H a b tgt lv st) (kf : u < 0 → zG x H a b (pc + 3) lv st) : zG x H a b pc lv (.int (iI u) :: st) := by
  obtain ⟨⟨p, e, R, s, m⟩, ⟨args, below, meth, c⟩, E, mc', ms', post, px⟩ := x
  obtain ⟨hx, hb, hml, hr, hown, hlk, htb, hst, hnm, hR, hm1, hm2⟩ := O
  intro hk hf locs ls hl hlv
  refine lv_if_ge hx hb d ht ?_ ?_ <;> rw [iI_0]
  · exact (fun h => kt ((iI_le zR0 hu).mp h) hk hf locs ls hl hlv)
  · exact (fun h => kf (by have q := mt (iI_le zR0 hu).mpr h; omega) hk hf locs ls hl hlv)
theorem z_icmp_gt {off : Int} {u v : Int} (tgt : Nat) (O : zOk x own cc nL ret nm F L mc ms) (d : decode cc pc = .ok (.if_icmp .gt off, 3)) (ht : (pc : Int) + off = (tgt : Int)) (hu : zR u) (hv : zR v) (kt : v < u → zG x H a b tgt lv st) (kf : u ≤ v → zG x H a b (pc + 3) lv st) : zG x H a b pc lv (.int (iI v) :: .int (iI u) :: st) := by
  obtain ⟨⟨p, e, R, s, m⟩, ⟨args, below, meth, c⟩, E, mc', ms', post, px⟩ := x
  obtain ⟨hx, hb, hml, hr, hown, hlk, htb, hst, hnm, hR, hm1, hm2⟩ := O
  intro hk hf locs ls hl hlv
  exact lv_icmp_gt hx hb d ht (fun h => kt ((iI_lt hv hu).mp h) hk hf locs ls hl hlv) (fun h => kf (by have q := mt (iI_lt hv hu).mpr h; omega) hk hf locs ls hl hlv)
theorem z_if_gt {off : Int} {u : Int} (tgt : Nat) (O : zOk x own cc nL ret nm F L mc ms) (d : decode cc pc = .ok (.ifCond .gt off, 3)) (ht : (pc : Int) + off = (tgt : Int)) (hu : zR u) (kt : 0 < u → zG x H a b tgt lv st) (kf : u ≤ 0 → zG x H a b (pc + 3) lv st) : zG x H a b pc lv (.int (iI u) :: st) := by
  obtain ⟨⟨p, e, R, s, m⟩, ⟨args, below, meth, c⟩, E, mc', ms', post, px⟩ := x
  obtain ⟨hx, hb, hml, hr, hown, hlk, htb, hst, hnm, hR, hm1, hm2⟩ := O
  intro hk hf locs ls hl hlv
  refine lv_if_gt hx hb d ht ?_ ?_ <;> rw [iI_0]
  · exact (fun h => kt ((iI_lt zR0 hu).mp h) hk hf locs ls hl hlv)
  · exact (fun h => kf (by have q := mt (iI_lt zR0 hu).mpr h; omega) hk hf locs ls hl hlv)
theorem z_icmp_le {off : Int} {u v : Int} (tgt : Nat) (O : zOk x own cc nL ret nm F L mc ms) (d : decode cc pc = .ok (.if_icmp .le off, 3)) (ht : (pc : Int) + off = (tgt : Int)) (hu : zR u) (hv : zR v) (kt : u ≤ v → zG x H a b tgt lv st) (kf : v < u → zG x H a b (pc + 3) lv st) : zG x H a b pc lv (.int (iI v) :: .int (iI u) :: st) := by
  obtain ⟨⟨p, e, R, s, m⟩, ⟨args, below, meth, c⟩, E, mc', ms', post, px⟩ := x
  obtain ⟨hx, hb, hml, hr, hown, hlk, htb, hst, hnm, hR, hm1, hm2⟩ := O
  intro hk hf locs ls hl hlv
  exact lv_icmp_le hx hb d ht (fun h => kt ((iI_le hu hv).mp h) hk hf locs ls hl hlv) (fun h => kf (by have q := mt (iI_le hu hv).mpr h; omega) hk hf locs ls hl hlv)
theorem z_if_le {off : Int} {u : Int} (tgt : Nat) (O : zOk x own cc nL ret nm F L mc ms) (d : decode cc pc = .ok (.ifCond .le off, 3)) (ht : (pc : Int) + off = (tgt : Int)) (hu : zR u) (kt : u ≤ 0 → zG x H a b tgt lv st) (kf : 0 < u → zG x H a b (pc + 3) lv st) : zG x H a b pc lv (.int (iI u) :: st) := by
  obtain ⟨⟨p, e, R, s, m⟩, ⟨args, below, meth, c⟩, E, mc', ms', post, px⟩ := x
  obtain ⟨hx, hb, hml, hr, hown, hlk, htb, hst, hnm, hR, hm1, hm2⟩ := O
  intro hk hf locs ls hl hlv
  refine lv_if_le hx hb d ht ?_ ?_ <;> rw [iI_0]
  · exact (fun h => kt ((iI_le hu zR0).mp h) hk hf locs ls hl hlv)
  · exact (fun h => kf (by have q := mt (iI_le hu zR0).mpr h; omega) hk hf locs ls hl hlv)
theorem z_ifb_eq {off : Int} {u : Bool} (tgt : Nat) (O : zOk x own cc nL ret nm F L mc ms) (d : decode cc pc = .ok (.ifCond .eq off, 3)) (ht : (pc : Int) + off = (tgt : Int)) (kt : u = false → zG x H a b tgt lv st) (kf : u = true → zG x H a b (pc + 3) lv st) : zG x H a b pc lv (.int (iI (zb u)) :: st) := by
  refine z_if_eq tgt O d ht zb_R (fun h => kt ?_) (fun h => kf ?_)
  · exact zb_0.mp h
  · cases u; exact absurd (zb_0.mpr rfl) h; rfl
theorem z_ifb_ne {off : Int} {u : Bool} (tgt : Nat) (O : zOk x own cc nL ret nm F L mc ms) (d : decode cc pc = .ok (.ifCond .ne off, 3)) (ht : (pc : Int) + off = (tgt : Int)) (kt : u = true → zG x H a b tgt lv st) (kf : u = false → zG x H a b (pc + 3) lv st) : zG x H a b pc lv (.int (iI (zb u)) :: st) := by
  refine z_if_ne tgt O d ht zb_R (fun h => kt ?_) (fun h => kf ?_)
  · cases u; exact absurd (zb_0.mpr rfl) h; rfl
  · exact zb_0.mp h
theorem z_lif_lt {off : Int} {u v : Int} (tgt : Nat) (O : zOk x own cc nL ret nm F L mc ms) (d0 : decode cc pc = .ok (.lcmp, 1)) (d : decode cc (pc + 1) = .ok (.ifCond .lt off, 3)) (ht : ((pc + 1 : Nat) : Int) + off = (tgt : Int)) (hu : zRL u) (hv : zRL v) (kt : u < v → zG x H a b tgt lv st) (kf : v ≤ u → zG x H a b (pc + 1 + 3) lv st) : zG x H a b pc lv (.long (iL v) :: .long (iL u) :: st) := by
  have e1 := @zcmp_lt u v
  have e2 := @zcmp_gt u v
  have e3 := @zcmp_eq u v
  refine z_lcmp O d0 hu hv (z_if_lt tgt O d ht zcmp_R (fun h => kt ?_) (fun h => kf ?_)) <;> omega
theorem z_lif_gt {off : Int} {u v : Int} (tgt : Nat) (O : zOk x own cc nL ret nm F L mc ms) (d0 : decode cc pc = .ok (.lcmp, 1)) (d : decode cc (pc + 1) = .ok (.ifCond .gt off, 3)) (ht : ((pc + 1 : Nat) : Int) + off = (tgt : Int)) (hu : zRL u) (hv : zRL v) (kt : v < u → zG x H a b tgt lv st) (kf : u ≤ v → zG x H a b (pc + 1 + 3) lv st) : zG x H a b pc lv (.long (iL v) :: .long (iL u) :: st) := by
  have e1 := @zcmp_lt u v
  have e2 := @zcmp_gt u v
  have e3 := @zcmp_eq u v
  refine z_lcmp O d0 hu hv (z_if_gt tgt O d ht zcmp_R (fun h => kt ?_) (fun h => kf ?_)) <;> omega
theorem z_lif_ge {off : Int} {u v : Int} (tgt : Nat) (O : zOk x own cc nL ret nm F L mc ms) (d0 : decode cc pc = .ok (.lcmp, 1)) (d : decode cc (pc + 1) = .ok (.ifCond .ge off, 3)) (ht : ((pc + 1 : Nat) : Int) + off = (tgt : Int)) (hu : zRL u) (hv : zRL v) (kt : v ≤ u → zG x H a b tgt lv st) (kf : u < v → zG x H a b (pc + 1 + 3) lv st) : zG x H a b pc lv (.long (iL v) :: .long (iL u) :: st) := by
  have e1 := @zcmp_lt u v
  have e2 := @zcmp_gt u v
  have e3 := @zcmp_eq u v
  refine z_lcmp O d0 hu hv (z_if_ge tgt O d ht zcmp_R (fun h => kt ?_) (fun h => kf ?_)) <;> omega
theorem z_lif_le {off : Int} {u v : Int} (tgt : Nat) (O : zOk x own cc nL ret nm F L mc ms) (d0 : decode cc pc = .ok (.lcmp, 1)) (d : decode cc (pc + 1) = .ok (.ifCond .le off, 3)) (ht : ((pc + 1 : Nat) : Int) + off = (tgt : Int)) (hu : zRL u) (hv : zRL v) (kt : u ≤ v → zG x H a b tgt lv st) (kf : v < u → zG x H a b (pc + 1 + 3) lv st) : zG x H a b pc lv (.long (iL v) :: .long (iL u) :: st) := by
  have e1 := @zcmp_lt u v
  have e2 := @zcmp_gt u v
  have e3 := @zcmp_eq u v
  refine z_lcmp O d0 hu hv (z_if_le tgt O d ht zcmp_R (fun h => kt ?_) (fun h => kf ?_)) <;> omega
theorem z_lif_eq {off : Int} {u v : Int} (tgt : Nat) (O : zOk x own cc nL ret nm F L mc ms) (d0 : decode cc pc = .ok (.lcmp, 1)) (d : decode cc (pc + 1) = .ok (.ifCond .eq off, 3)) (ht : ((pc + 1 : Nat) : Int) + off = (tgt : Int)) (hu : zRL u) (hv : zRL v) (kt : u = v → zG x H a b tgt lv st) (kf : ¬ u = v → zG x H a b (pc + 1 + 3) lv st) : zG x H a b pc lv (.long (iL v) :: .long (iL u) :: st) := by
  have e1 := @zcmp_lt u v
  have e2 := @zcmp_gt u v
  have e3 := @zcmp_eq u v
  refine z_lcmp O d0 hu hv (z_if_eq tgt O d ht zcmp_R (fun h => kt ?_) (fun h => kf ?_)) <;> omega
theorem z_lif_ne {off : Int} {u v : Int} (tgt : Nat) (O : zOk x own cc nL ret nm F L mc ms) (d0 : decode cc pc = .ok (.lcmp, 1)) (d : decode cc (pc + 1) = .ok (.ifCond .ne off, 3)) (ht : ((pc + 1 : Nat) : Int) + off = (tgt : Int)) (hu : zRL u) (hv : zRL v) (kt : ¬ u = v → zG x H a b tgt lv st) (kf : u = v → zG x H a b (pc + 1 + 3) lv st) : zG x H a b pc lv (.long (iL v) :: .long (iL u) :: st) := by
  have e1 := @zcmp_lt u v
  have e2 := @zcmp_gt u v
  have e3 := @zcmp_eq u v
  refine z_lcmp O d0 hu hv (z_if_ne tgt O d ht zcmp_R (fun h => kt ?_) (fun h => kf ?_)) <;> omega
theorem z_tsw {dflt lo hi off : Int} {offs : Array Int} {len : Nat} {z : Int} (i : Nat) (tgt : Nat) (O : zOk x own cc nL ret nm F L mc ms) (d : decode cc pc = .ok (.tableswitch dflt lo hi offs, len)) (hz : zR z) (he : z = lo + i) (hh : lo + i ≤ hi) (ho : offs[i]? = some off) (ht : (pc : Int) + off = (tgt : Int)) (K : zG x H a b tgt lv st) : zG x H a b pc lv (.int (iI z) :: st) := by
  obtain ⟨⟨p, e, R, s, m⟩, ⟨args, below, meth, c⟩, E, mc', ms', post, px⟩ := x
  obtain ⟨hx, hb, hml, hr, hown, hlk, htb, hst, hnm, hR, hm1, hm2⟩ := O
  intro hk hf locs ls hl hlv
  exact lv_tableIn hx hb d (by rw [iI_toInt hz]; omega) (by rw [iI_toInt hz]; omega) (by rw [iI_toInt hz, he, show (lo + (i : Int) - lo).toNat = i by omega]; exact ho) ht (K hk hf locs ls hl hlv)
theorem z_tswO {dflt lo hi : Int} {offs : Array Int} {len : Nat} {z : Int} (tgt : Nat) (O : zOk x own cc nL ret nm F L mc ms) (d : decode cc pc = .ok (.tableswitch dflt lo hi offs, len)) (hz : zR z) (he : z < lo ∨ hi < z) (ht : (pc : Int) + dflt = (tgt : Int)) (K : zG x H a b tgt lv st) : zG x H a b pc lv (.int (iI z) :: st) := by
  obtain ⟨⟨p, e, R, s, m⟩, ⟨args, below, meth, c⟩, E, mc', ms', post, px⟩ := x
  obtain ⟨hx, hb, hml, hr, hown, hlk, htb, hst, hnm, hR, hm1, hm2⟩ := O
  intro hk hf locs ls hl hlv
  exact lv_tableOut hx hb d (by rw [iI_toInt hz]; exact he) ht (K hk hf locs ls hl hlv)
theorem z_lsw {dflt off : Int} {ps : Array (Int × Int)} {len : Nat} {z : Int} (tgt : Nat) (O : zOk x own cc nL ret nm F L mc ms) (d : decode cc pc = .ok (.lookupswitch dflt ps, len)) (hz : zR z) (hp : (ps.toList.zip (ps.toList.drop 1)).all (fun (a, next) => a.1 < next.1) = true) (ho : Op.lookupswitch.offset ps.toList dflt z = off) (ht : (pc : Int) + off = (tgt : Int)) (K : zG x H a b tgt lv st) : zG x H a b pc lv (.int (iI z) :: st) := by
  obtain ⟨⟨p, e, R, s, m⟩, ⟨args, below, meth, c⟩, E, mc', ms', post, px⟩ := x
  obtain ⟨hx, hb, hml, hr, hown, hlk, htb, hst, hnm, hR, hm1, hm2⟩ := O
  intro hk hf locs ls hl hlv
  exact lv_lookup hx hb d hp (by rw [iI_toInt hz]; exact ho) ht (K hk hf locs ls hl hlv)
theorem z_widen {k n : Nat} (h1 : a ≤ k) (h2 : b ≤ n) (K : zG x H k n pc lv st) : zG x H a b pc lv st := by
  obtain ⟨⟨p, e, R, s, m⟩, ⟨args, below, meth, c⟩, E, mc', ms', post, px⟩ := x
  intro hk hf locs ls hl hlv
  exact W.widen h1 h2 (K hk hf locs ls hl hlv)
theorem z_ireturn {v : Int32} (O : zOk x own cc nL ret nm F L mc ms) (d : decode cc pc = .ok (.ireturn, 1)) (hr9 : ret = some .int) (h1 : a ≤ mc) (h2 : b ≤ ms) (K : zPo x (some (.int v)) H) : zG x H a b pc lv [.int v] := by
  obtain ⟨⟨p, e, R, s, m⟩, ⟨args, below, meth, c⟩, E, mc', ms', post, px⟩ := x
  obtain ⟨hx, hb, hml, hr, hown, hlk, htb, hst, hnm, hR, hm1, hm2⟩ := O
  intro hk hf locs ls hl hlv
  subst hm1 hm2
  subst hr9
  refine W.widen h1 h2 (vx_ret ?_)
  exact W.iret hx hb hr (fun t ht hW => by subst ht; exact ⟨⟨_, rfl, K⟩, hf⟩) hl d hlk
theorem z_zreturn {v : Int32} (O : zOk x own cc nL ret nm F L mc ms) (d : decode cc pc = .ok (.ireturn, 1)) (hr9 : ret = some .boolean) (hn : narrow .boolean (.int v) = .int v) (h1 : a ≤ mc) (h2 : b ≤ ms) (K : zPo x (some (.int v)) H) : zG x H a b pc lv [.int v] := by
  obtain ⟨⟨p, e, R, s, m⟩, ⟨args, below, meth, c⟩, E, mc', ms', post, px⟩ := x
  obtain ⟨hx, hb, hml, hr, hown, hlk, htb, hst, hnm, hR, hm1, hm2⟩ := O
  intro hk hf locs ls hl hlv
  subst hm1 hm2
  subst hr9
  refine W.widen h1 h2 (vx_ret ?_)
  exact W.zret (ty := .boolean) hx hb hr hn (fun t ht hW => by subst ht; exact ⟨⟨_, rfl, K⟩, hf⟩) hl d hlk
theorem z_lreturn {v : Int64} (O : zOk x own cc nL ret nm F L mc ms) (d : decode cc pc = .ok (.lreturn, 1)) (hr9 : ret = some .long) (h1 : a ≤ mc) (h2 : b ≤ ms) (K : zPo x (some (.long v)) H) : zG x H a b pc lv [.long v] := by
  obtain ⟨⟨p, e, R, s, m⟩, ⟨args, below, meth, c⟩, E, mc', ms', post, px⟩ := x
  obtain ⟨hx, hb, hml, hr, hown, hlk, htb, hst, hnm, hR, hm1, hm2⟩ := O
  intro hk hf locs ls hl hlv
  subst hm1 hm2
  subst hr9
  refine W.widen h1 h2 (vx_ret ?_)
  exact W.lret hx hb hr (fun t ht hW => by subst ht; exact ⟨⟨_, rfl, K⟩, hf⟩) hl d hlk
theorem z_vreturn  (O : zOk x own cc nL ret nm F L mc ms) (d : decode cc pc = .ok (.return_, 1)) (hr9 : ret = none) (h1 : a ≤ mc) (h2 : b ≤ ms) (K : zPo x none H) : zG x H a b pc lv [] := by
  obtain ⟨⟨p, e, R, s, m⟩, ⟨args, below, meth, c⟩, E, mc', ms', post, px⟩ := x
  obtain ⟨hx, hb, hml, hr, hown, hlk, htb, hst, hnm, hR, hm1, hm2⟩ := O
  intro hk hf locs ls hl hlv
  subst hm1 hm2
  subst hr9
  refine W.widen h1 h2 (vx_ret ?_)
  exact W.vret hx hb hr (fun t ht hW => by subst ht; exact ⟨⟨_, rfl, K⟩, hf⟩) hl d hlk
theorem z_areturn {v : Nat} {rt : FieldType} (O : zOk x own cc nL ret nm F L mc ms) (d : decode cc pc = .ok (.areturn, 1)) (hr9 : ret = some rt) (hrt : (∃ n, rt = .object n) ∨ ∃ t, rt = .array t) (h1 : a ≤ mc) (h2 : b ≤ ms) (K : zPo x (some (.ref v)) H) : zG x H a b pc lv [.ref v] := by
  obtain ⟨⟨p, e, R, s, m⟩, ⟨args, below, meth, c⟩, E, mc', ms', post, px⟩ := x
  obtain ⟨hx, hb, hml, hr, hown, hlk, htb, hst, hnm, hR, hm1, hm2⟩ := O
  intro hk hf locs ls hl hlv
  subst hm1 hm2
  subst hr9
  refine W.widen h1 h2 (vx_ret ?_)
  exact W.aret hx hb hr hrt (Or.inr ⟨_, rfl⟩) (fun t ht hW => by subst ht; exact ⟨⟨_, rfl, K⟩, hf⟩) hl d hlk
theorem z_areturnN {rt : FieldType} (O : zOk x own cc nL ret nm F L mc ms) (d : decode cc pc = .ok (.areturn, 1)) (hr9 : ret = some rt) (hrt : (∃ n, rt = .object n) ∨ ∃ t, rt = .array t) (h1 : a ≤ mc) (h2 : b ≤ ms) (K : zPo x (some .null) H) : zG x H a b pc lv [.null] := by
  obtain ⟨⟨p, e, R, s, m⟩, ⟨args, below, meth, c⟩, E, mc', ms', post, px⟩ := x
  obtain ⟨hx, hb, hml, hr, hown, hlk, htb, hst, hnm, hR, hm1, hm2⟩ := O
  intro hk hf locs ls hl hlv
  subst hm1 hm2
  subst hr9
  refine W.widen h1 h2 (vx_ret ?_)
  exact W.aret hx hb hr hrt (Or.inl rfl) (fun t ht hW => by subst ht; exact ⟨⟨_, rfl, K⟩, hf⟩) hl d hlk
end ZR
