/-! rules of the walk: 'throw new E("text")' -/
def zTh (own : String) (ik is ic : Nat) (cls : String) (names : List String) : Prop := Bundle.fit cls = true ∧ (∀ n ∈ names, Bundle.fit n = true) ∧ Cond.classLink own ik cls ∈ lw_tbl ∧ Cond.initialized cls ∈ lw_tbl ∧ (∃ text, Cond.stringRef own is text ∈ lw_tbl) ∧ (vx_atS own ic cls names).all (fun w => decide (w ∈ lw_tbl) && zGoodW w && w.onTables) = true
section ZT
variable {x : zX} {own : String} {cc : ByteArray} {nL : Nat} {ret : Option FieldType} {nm : String} {F L mc ms : Nat} {H : Heap} {a b pc : Nat} {lv : List (Nat × Value)} {rest : List Value} {ik is ic : Nat} {cls : String} {names : List String}
theorem zTh_good {s : State} (hw : zW s) (h : (vx_atS own ic cls names).all (fun w => decide (w ∈ lw_tbl) && zGoodW w && w.onTables) = true) : ∀ w ∈ vx_atS own ic cls names, (∀ args : Array Value, w.before args s = true) ∧ vx_ot w = true := by
  intro w hm
  have h1 := List.all_eq_true.mp h w hm
  simp only [Bool.and_eq_true, decide_eq_true_eq] at h1
  exact ⟨fun args => hw.at h1.1.1 h1.1.2 h1.2, by unfold vx_ot; rw [h1.2]; rfl⟩
theorem z_throw (Lk : zTh own ik is ic cls names) (O : zOk x own cc nL ret nm F L mc ms)
    (d0 : decode cc pc = .ok (.new ik, 3)) (d3 : decode cc (pc + 3) = .ok (.dup, 1)) (d4 : decode cc (pc + 4) = .ok (.ldc is, 2)) (d6 : decode cc (pc + 6) = .ok (.invokespecial ic, 3)) (d9 : decode cc (pc + 9) = .ok (.athrow, 1))
    (hF : names.length + 3 < F) (hL : (rest.map fun v => v.category).sum + (13 * (names.length + 1) + 43) ≤ L) (h1 : a + 1 ≤ mc) (h2 : b + 6 ≤ ms) (hpx : ∀ H1 : Heap, H.size ≤ H1.size → (∀ q : Nat, q < H.size → H1[q]? = H[q]?) → zPx x cls H1) : zG x H a b pc lv rest := by
  obtain ⟨⟨p, e, R, s, m⟩, ⟨args, below, meth, c⟩, E, mc', ms', post', px'⟩ := x
  obtain ⟨hx, hb, hml, hr, hown, hlk, htb, hst, hnm, hR, hm1, hm2⟩ := O
  intro hk hf locs ls hl hlv
  subst hR
  subst hm1 hm2
  obtain ⟨t1, t2, t3, t4, ⟨text, t5⟩, t6⟩ := Lk
  have hw := hk.2.2.1
  obtain ⟨sa, hsa⟩ := hk.2.2.2.1 _ _ _ t5
  have hg := zTh_good hw t6
  have hback : ∀ q : Nat, q < H.size → ¬ (E.2.2.2 ≤ q) → s.heap[q]? = H[q]? := fun q _ hq => (hf.2 q (by omega)).symm
  exact vx_throwS hx hb hst hown t1 t2 (hw.at t3 rfl rfl) (hw.at t4 rfl rfl) hsa (fun w hm => (hg w hm).1 args) (fun w hm => by
      rcases List.mem_cons.mp hm with rfl | hm
      · rfl
      rcases List.mem_cons.mp hm with rfl | hm
      · rfl
      exact (hg w hm).2) (A := fun q => E.2.2.2 ≤ q) (hk.2.2.2.2.1.kept hback) (hk.2.2.2.2.2.1.kept hback) ⟨hf.1, fun q _ hq => hf.2 q (by omega), hl⟩ hlv.1 d0 d3 d4 d6 d9 (fun z hz => (htb z hz).elim) hF hL h1 h2 hlk
    (fun t9 _ hsz hq => ⟨hpx _ hsz hq, hf.tr ⟨hsz, fun q hB => hq q (Nat.lt_of_lt_of_le hB hk.2.1)⟩⟩) hl h1 h2
theorem z_throwW (Lk : zTh own ik is ic cls names) (O : zOk x own cc nL ret nm F L mc ms)
    (d0 : decode cc pc = .ok (.new ik, 3)) (d3 : decode cc (pc + 3) = .ok (.dup, 1)) (d4 : decode cc (pc + 4) = .ok (.ldc_w is, 3)) (d6 : decode cc (pc + 7) = .ok (.invokespecial ic, 3)) (d9 : decode cc (pc + 10) = .ok (.athrow, 1))
    (hF : names.length + 3 < F) (hL : (rest.map fun v => v.category).sum + (13 * (names.length + 1) + 43) ≤ L) (h1 : a + 1 ≤ mc) (h2 : b + 6 ≤ ms) (hpx : ∀ H1 : Heap, H.size ≤ H1.size → (∀ q : Nat, q < H.size → H1[q]? = H[q]?) → zPx x cls H1) : zG x H a b pc lv rest := by
  obtain ⟨⟨p, e, R, s, m⟩, ⟨args, below, meth, c⟩, E, mc', ms', post', px'⟩ := x
  obtain ⟨hx, hb, hml, hr, hown, hlk, htb, hst, hnm, hR, hm1, hm2⟩ := O
  intro hk hf locs ls hl hlv
  subst hR
  subst hm1 hm2
  obtain ⟨t1, t2, t3, t4, ⟨text, t5⟩, t6⟩ := Lk
  have hw := hk.2.2.1
  obtain ⟨sa, hsa⟩ := hk.2.2.2.1 _ _ _ t5
  have hg := zTh_good hw t6
  have hback : ∀ q : Nat, q < H.size → ¬ (E.2.2.2 ≤ q) → s.heap[q]? = H[q]? := fun q _ hq => (hf.2 q (by omega)).symm
  exact vx_throwSW hx hb hst hown t1 t2 (hw.at t3 rfl rfl) (hw.at t4 rfl rfl) hsa (fun w hm => (hg w hm).1 args) (fun w hm => by
      rcases List.mem_cons.mp hm with rfl | hm
      · rfl
      rcases List.mem_cons.mp hm with rfl | hm
      · rfl
      exact (hg w hm).2) (A := fun q => E.2.2.2 ≤ q) (hk.2.2.2.2.1.kept hback) (hk.2.2.2.2.2.1.kept hback) ⟨hf.1, fun q _ hq => hf.2 q (by omega), hl⟩ hlv.1 d0 d3 d4 d6 d9 (fun z hz => (htb z hz).elim) hF hL h1 h2 hlk
    (fun t9 _ hsz hq => ⟨hpx _ hsz hq, hf.tr ⟨hsz, fun q hB => hq q (Nat.lt_of_lt_of_le hB hk.2.1)⟩⟩) hl h1 h2
/-- one of them, to try it -/
theorem zTh_try : zTh RX5 43 45 47 "java/lang/IllegalArgumentException" ["java/lang/RuntimeException", "java/lang/Exception"] := ⟨by decide +kernel, by decide +kernel, by decide +kernel, by decide +kernel, ⟨"no such character code", by decide +kernel⟩, by decide +kernel⟩
end ZT
