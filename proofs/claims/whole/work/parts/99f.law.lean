/-! the law: its rules; what holds goes on to hold (written by program: wip/whole/gen/class30.py) -/
theorem iI_toI (w : Int32) : iI w.toInt = w := Int32.ofInt_toInt w
theorem iL_toI (w : Int64) : iL w.toInt = w := Int64.ofInt_toInt w
theorem zR_toI (w : Int32) : zR w.toInt := ⟨by have := Int32.le_toInt w; omega, by have := Int32.toInt_lt w; omega⟩
theorem zRL_toI (w : Int64) : zRL w.toInt := ⟨by have := Int64.le_toInt w; omega, by have := Int64.toInt_lt w; omega⟩
def zScr (x : zX) (b Ls : Nat) (xs : Nat → Int32) : Prop := va_X b Ls xs x.1.2.2.2.1 (zH0 x) ∧ b < (zH0 x).size ∧ (zEn x).2.2.2 = (zH0 x).size
def sv (xs : Nat → Int32) (i : Int) : Int := (xs i.toNat).toInt
theorem sv_R (xs : Nat → Int32) (i : Int) : zR (sv xs i) := zR_toI _
/-- a method with handlers, by its link -/
def zMSW (own : String) (idx : Nat) (y : MethodName) (cc : ByteArray) (nL : Nat) (ret : Option FieldType) (hh : List (Nat × Nat × Nat × Nat)) (n : Nat) : Prop := Cond.initialized y.cls ∈ lw_tbl ∧ Cond.codeWith y cc nL ret hh ∈ lw_tbl ∧ y.cls ≠ "java/lang/invoke/MethodHandle" ∧ y.cls ≠ "java/lang/invoke/VarHandle" ∧ (parseMethodDescriptor y.desc).map (fun d => d.parameters.length) = some n ∧ Cond.methodLink own idx y ∈ lw_tbl ∧ Cond.static y ∈ lw_tbl
section ZL
variable {x : zX} {own : String} {cc : ByteArray} {nL : Nat} {ret : Option FieldType} {nm : String} {F L mc ms : Nat} {H : Heap} {a b pc : Nat} {lv : List (Nat × Value)} {st : List Value} {idx bs Ls : Nat} {xs : Nat → Int32} {i : Int}
theorem z_sld (hS : zScr x bs Ls xs) (hz : zR i) (h0 : 0 ≤ i) (h1 : i < Ls) (O : zOk x own cc nL ret nm F L mc ms) (d : decode cc pc = .ok (.iaload, 1)) (K : zG x H a b (pc + 1) lv (.int (iI (sv xs i)) :: st)) : zG x H a b pc lv (.int (iI i) :: .ref bs :: st) := by
  obtain ⟨⟨p, e, R, s, m⟩, ⟨args, below, meth, c⟩, E, mc', ms', post, px⟩ := x
  obtain ⟨hx, hb, hml, hr, hown, hlk, htb, hst, hnm, hR, hm1, hm2⟩ := O
  intro hk hf locs ls hl hlv
  obtain ⟨hX, hbl, hfl⟩ := hS
  have hfl : E.2.2.2 = s.heap.size := hfl
  refine va_sld hx hb (A := fun q => E.2.2.2 ≤ q) hX hbl (by show ¬ E.2.2.2 ≤ bs; rw [hfl]; exact Nat.not_le.mpr hbl) ⟨hf.1, fun q _ hn => hf.2 q (Nat.not_le.mp hn), hl⟩ (zix hz h0 h1) d ?_
  have e9 : xs (iI i).toNatClampNeg = iI (sv xs i) := by rw [zcl hz]; exact (iI_toI _).symm
  rw [e9]
  exact K hk hf locs ls hl hlv
theorem z_slen0 (hS : zScr x bs Ls xs) (O : zOk x own cc nL ret nm F L mc ms) (d : decode cc pc = .ok (.arraylength, 1)) (K : zG x H a b (pc + 1) lv (.int (iI (Ls : Int)) :: st)) : zG x H a b pc lv (.ref bs :: st) := by
  obtain ⟨⟨p, e, R, s, m⟩, ⟨args, below, meth, c⟩, E, mc', ms', post, px⟩ := x
  obtain ⟨hx, hb, hml, hr, hown, hlk, htb, hst, hnm, hR, hm1, hm2⟩ := O
  intro hk hf locs ls hl hlv
  obtain ⟨hX, hbl, hfl⟩ := hS
  have hfl : E.2.2.2 = s.heap.size := hfl
  refine va_slen hx hb (A := fun q => E.2.2.2 ≤ q) hX hbl (by show ¬ E.2.2.2 ≤ bs; rw [hfl]; exact Nat.not_le.mpr hbl) ⟨hf.1, fun q _ hn => hf.2 q (Nat.not_le.mp hn), hl⟩ d ?_
  rw [iI_nat]
  exact K hk hf locs ls hl hlv
theorem z_lshlR {u : Int64} {v : Int32} (O : zOk x own cc nL ret nm F L mc ms) (d : decode cc pc = .ok (.lshl, 1)) (K : zG x H a b (pc + 1) lv (.long (u <<< (v.toInt64 &&& 63)) :: st)) : zG x H a b pc lv (.int v :: .long u :: st) := by
  obtain ⟨⟨p, e, R, s, m⟩, ⟨args, below, meth, c⟩, E, mc', ms', post, px⟩ := x
  obtain ⟨hx, hb, hml, hr, hown, hlk, htb, hst, hnm, hR, hm1, hm2⟩ := O
  intro hk hf locs ls hl hlv
  exact lv_lshl hx hb d rfl (K hk hf locs ls hl hlv)
theorem z_landR {u v : Int64} (O : zOk x own cc nL ret nm F L mc ms) (d : decode cc pc = .ok (.land, 1)) (K : zG x H a b (pc + 1) lv (.long (u &&& v) :: st)) : zG x H a b pc lv (.long v :: .long u :: st) := by
  obtain ⟨⟨p, e, R, s, m⟩, ⟨args, below, meth, c⟩, E, mc', ms', post, px⟩ := x
  obtain ⟨hx, hb, hml, hr, hown, hlk, htb, hst, hnm, hR, hm1, hm2⟩ := O
  intro hk hf locs ls hl hlv
  exact lv_land hx hb d (K hk hf locs ls hl hlv)
theorem z_lorR {u v : Int64} (O : zOk x own cc nL ret nm F L mc ms) (d : decode cc pc = .ok (.lor, 1)) (K : zG x H a b (pc + 1) lv (.long (u ||| v) :: st)) : zG x H a b pc lv (.long v :: .long u :: st) := by
  obtain ⟨⟨p, e, R, s, m⟩, ⟨args, below, meth, c⟩, E, mc', ms', post, px⟩ := x
  obtain ⟨hx, hb, hml, hr, hown, hlk, htb, hst, hnm, hR, hm1, hm2⟩ := O
  intro hk hf locs ls hl hlv
  exact lv_lor hx hb d (K hk hf locs ls hl hlv)
theorem z_lcmpS {y : Int64} (O : zOk x own cc nL ret nm F L mc ms) (d : decode cc pc = .ok (.lcmp, 1)) (K : zG x H a b (pc + 1) lv (.int (iI 0) :: st)) : zG x H a b pc lv (.long y :: .long y :: st) := by
  have h := z_lcmp (st := st) (lv := lv) (H := H) (a := a) (b := b) (u := y.toInt) (v := y.toInt) O d (zRL_toI y) (zRL_toI y) (by rw [show zcmp y.toInt y.toInt = 0 from by unfold zcmp; (repeat first | rw [if_pos (by omega)] | rw [if_neg (by omega)])]; exact K)
  rw [iL_toI] at h
  exact h
variable {y : MethodName} {cc2 : ByteArray} {nL2 : Nat} {ret2 : Option FieldType} {n F2 L2 mc2 ms2 : Nat} {post : Option Value → Heap → Prop} {hh : List (Nat × Nat × Nat × Nat)}
theorem z_callH (As rest : List Value) (Lk : zMSW own idx y cc2 nL2 ret2 hh n) (O : zOk x own cc nL ret nm F L mc ms) (d : decode cc pc = .ok (.invokestatic idx, 3)) (C : zCH (zEn x) y cc2 nL2 ret2 hh F2 L2 As H mc2 ms2 post) (hs : As.reverse ++ rest = st) (hn : As.length = n) (hF : F2 + 1 ≤ F) (hL : 8 + (nL2 + 11) + L2 ≤ L) (hmc : a + mc2 ≤ mc) (hms : b + ms2 ≤ ms) (hW : (rest.map fun v => v.category).sum ≤ 8)
    (K : ∀ (v : Option Value) (H1 : Heap), post v H1 → zF (zEn x) H H1 → zG x H1 (a + mc2) (b + ms2) (pc + 3) lv (v.toList ++ rest)) : zG x H a b pc lv st := by
  subst hs
  obtain ⟨⟨p, e, R, s, m⟩, ⟨args, below, meth, c⟩, E, mc', ms', post', px'⟩ := x
  obtain ⟨hx, hb, hml, hr, hown, hlk, htb, hst, hnm, hR, hm1, hm2⟩ := O
  intro hk hf locs ls hl hlv
  subst hR
  subst hm1 hm2
  obtain ⟨h1, h2, h3, h4, h5, h6, h7⟩ := Lk
  have hw := hk.2.2.1
  have hcw := hw.at h2 rfl rfl (args := args)
  have cw : vx_CSW { frames := F, cells := mc', slots := ms', locals := L } s args own idx y cc2 nL2 ret2 hh [Cond.codeWith y cc2 nL2 ret2 hh] { frames := F2, cells := mc2, slots := ms2, locals := L2 } mc2 ms2 n :=
    ⟨⟨rfl, rfl, hF, hL, fun w hm a' U hU => by rw [List.mem_singleton.mp hm]; exact word_at hU (Or.inl rfl) hcw, List.mem_singleton.mpr rfl⟩, hcw, hw.at h1 rfl rfl, ⟨h3, h4⟩, fun sig h => by
      rw [h] at h5
      exact (Option.some.inj h5).symm, hw.at h6 rfl rfl, hw.at h7 rfl rfl⟩
  have hr9 := vx_runSW (Ts := []) (args := args) (As := As) (rest := rest) (g := F0 m pc ls (As.reverse ++ rest)) (locs := locs) (cells := a) (slots := b) (p := p) (e := e) (l := E.1) (R := { frames := F, cells := mc', slots := ms', locals := L }) (below := below) (meth := meth) ⟨hx, hb, hml, hown, fun w h => nomatch h⟩ C cw (zPreS hk) rfl hn (by rw [← hml]; exact hlv.1) rfl (lv_room hW) d ⟨hmc, hms⟩
  intro T hT X
  obtain ⟨v, st₀, t, T', LL, h0, X', hL9, e1, e2, ⟨⟨v', hv, hp⟩, hF9⟩, st9⟩ := hr9 T hT X
  cases hv
  rw [h0] at hF9
  obtain ⟨t2, a1, b1⟩ := K v t.heap hp hF9 (hk.step hF9) (hf.tr hF9) (locs ++ LL) ls (fun z hz => (List.mem_append.mp hz).elim (hl z) (hL9 z)) hlv T' e1 X'
  exact ⟨t2, st9 t2 a1, b1⟩
end ZL
theorem zMs.fr {E : zE} {H H1 : Heap} {r r1 : zH} {q : Nat} {Q : Nat → Nat} {n : Int} {tx G : Int → Int} {fi ac : Int} {dd : Nat → Int → Int} {kp ik : Int → Int} {rf : Int} {T : Nat → Prop} (h : zMs E H r q Q n tx G fi ac dd kp ik rf) (f : zFr H r H1 r1 T) (m : ∀ s, 100000 ≤ s → ¬ T s) : zMs E H1 r1 q Q n tx G fi ac dd kp ik rf := by
  obtain ⟨sp, gd, lo, rd, tr, h1, h2, h3, h4, h5, h6, h7, h8⟩ := h
  exact ⟨sp, gd, lo, rd, tr, zO.fr h1 f (m _ (by omega)), h2.fr f (m _ (by omega)), h3.fr f (m _ (by omega)), h4.fr f (m _ (by omega)), h5.fr f (m _ (by omega)), h6.fr f (m _ (by omega)) (m _ (by omega)) (m _ (by omega)) (m _ (by omega)), h7.fr f (m _ (by omega)), h8.fr f (m _ (by omega))⟩
/-! what holds of the numbers goes on to hold -/
section KEEP
variable {n : Int} {tx G : Int → Int} {fi ac : Int} {dd : Nat → Int → Int} {kp ik : Int → Int} {N : Int}
theorem cOK.keep (h : cOK n tx G fi ac dd kp ik N) (hN : N ≤ 538) : cOK n tx G fi ac dd kp ik (N + 1) := by
  obtain ⟨⟨h1, h2, h3, h4, h5, h6, h7⟩, h8, h9⟩ := h
  exact ⟨⟨h1, h2, h3.up (by omega) (by omega), by omega, h5, h6, h7⟩, fun k a b => (h8 k a b).up (by omega) (by omega), fun s a b c => (h9 s a b c).up (by omega) (by omega)⟩
theorem cOK.act {G1 : Int → Int} (h : cOK n tx G fi ac dd kp ik N) (hN : N ≤ 538) (hG : sW G1 (N + 1)) : cOK n tx G1 (mFi fi ac) (mAc ac) (zDw dd (mIx fi ac) G) kp ik (N + 1) := by
  obtain ⟨⟨h1, h2, h3, h4, h5, h6, h7⟩, h8, h9⟩ := h
  have m1 : mAc ac = min 14 (ac + 1) := by unfold mAc; split <;> omega
  have hx : mIx fi ac = (mFi fi ac + (min 14 (ac + 1) - 1)) % 16 := by unfold mIx; rw [m1]
  have hfi : (ac = 14 ∧ mFi fi ac = (fi + 1) % 16) ∨ (ac < 14 ∧ mFi fi ac = fi) := by
    unfold mFi
    by_cases q : ac = 14
    · rw [if_pos q]; exact Or.inl ⟨q, rfl⟩
    · rw [if_neg q]; exact Or.inr ⟨by omega, rfl⟩
  refine ⟨⟨h1, h2, hG, by omega, by omega, by rw [m1]; omega, h7⟩, fun k k0 k1 => ?_, fun s a b c => (h9 s a b c).up (by omega) (by omega)⟩
  rw [m1] at k1
  by_cases z : k = 0
  · subst z
    rw [show (mFi fi ac + (mAc ac - 1 - 0)) % 16 = mIx fi ac by rw [hx, m1]; omega]
    exact (h3.up (N' := N + 1) (by omega) (by omega)).cong (fun j j0 j1 => zDw_e (by rw [hx]; omega) ⟨j0, j1⟩)
  · rw [m1, show (mFi fi ac + (min 14 (ac + 1) - 1 - k)) % 16 = (fi + (ac - 1 - (k - 1))) % 16 by omega]
    exact ((h8 (k - 1) (by omega) (by omega)).up (N' := N + 1) (by omega) (by omega)).cong (fun j j0 j1 => zDw_n (by rw [hx]; omega) (by omega) (by rw [hx]; omega) ⟨j0, j1⟩)
theorem kp_append {v : Int} (h : cOK n tx G fi ac dd kp ik N) (hN : N ≤ 538) (hc : cApp n v = 0) : cOK (n + 1) (zU tx n v) G fi ac dd kp ik (N + 1) := by
  obtain ⟨⟨h1, h2, h3, h4, h5, h6, h7⟩, h8, h9⟩ := h.keep hN
  have hv : (0 ≤ v ∧ v ≤ 255) ∧ n ≠ 120 := by revert hc; unfold cApp; (repeat' split) <;> omega
  refine ⟨⟨⟨by omega, by omega⟩, fun j a b => ?_, h3, h4, h5, h6, h7⟩, h8, h9⟩
  by_cases z : j = n
  · rw [z, zU_e rfl]; exact hv.1
  · rw [zU_n z]; exact h2 j a (by omega)
theorem kp_clearText (h : cOK n tx G fi ac dd kp ik N) (hN : N ≤ 538) : cOK 0 tx G fi ac dd kp ik (N + 1) := by
  obtain ⟨⟨h1, h2, h3, h4, h5, h6, h7⟩, h8, h9⟩ := h.keep hN
  exact ⟨⟨⟨by omega, by omega⟩, fun j a b => by omega, h3, h4, h5, h6, h7⟩, h8, h9⟩
theorem kp_load (h : cOK n tx G fi ac dd kp ik N) (hN : N ≤ 538) (h20 : 20 ≤ N) (hc : cLd n tx = 0) : cOK n tx (tAll n tx).2.2 fi 0 dd kp (fun _ => 0) (N + 1) := by
  obtain ⟨⟨h1, h2, h3, h4, h5, h6, h7⟩, h8, h9⟩ := h.keep hN
  exact ⟨⟨h1, h2, (tAll_J h1).up (by omega) (by omega), h4, h5, ⟨by omega, by omega⟩, fun j a b => ⟨Int.le_refl _, by show (0 : Int) ≤ 1; omega⟩⟩, fun k a b => by omega, fun s a b c => absurd c (show ¬ (0 : Int) = 1 by decide)⟩
theorem kp_begin {w : Int} (h : cOK n tx G fi ac dd kp ik N) (hN : N ≤ 538) (hc : cBe G w = 0) : cOK n tx (sBegin G w) (mFi fi ac) (mAc ac) (zDw dd (mIx fi ac) G) kp ik (N + 1) := by
  have hv : (0 ≤ w ∧ w ≤ 2) ∧ sCb G w = true := by revert hc; unfold cBe; (repeat' split) <;> first | omega | (intro _; exact ⟨by assumption, by assumption⟩)
  exact h.act hN ((h.1.2.2.1.begin hv.1 (sCb_t.mp hv.2).1).up (by omega) (by omega))
theorem kp_point {w : Int} (h : cOK n tx G fi ac dd kp ik N) (hN : N ≤ 538) (hc : cPo G w = 0) : cOK n tx (sPoint G w) (mFi fi ac) (mAc ac) (zDw dd (mIx fi ac) G) kp ik (N + 1) := by
  have hv : (0 ≤ w ∧ w ≤ 2) ∧ sCp G w = true := by revert hc; unfold cPo; (repeat' split) <;> first | omega | (intro _; exact ⟨by assumption, by assumption⟩)
  have q := sCp_t.mp hv.2
  exact h.act hN ((h.1.2.2.1.point hv.1 q.1 q.2.2).up (by omega) (by omega))
theorem kp_done {w : Int} (h : cOK n tx G fi ac dd kp ik N) (hN : N ≤ 538) (hc : cDo G w = 0) : cOK n tx (sDone G w) (mFi fi ac) (mAc ac) (zDw dd (mIx fi ac) G) kp ik (N + 1) := by
  have hv : (0 ≤ w ∧ w ≤ 2) ∧ sOp G w = true := by revert hc; unfold cDo; (repeat' split) <;> first | omega | (intro _; exact ⟨by assumption, by assumption⟩)
  exact h.act hN ((h.1.2.2.1.done hv.1 (sOp_t.mp hv.2).1).up (by omega) (by omega))
theorem kp_fail {w : Int} (h : cOK n tx G fi ac dd kp ik N) (hN : N ≤ 538) (hc : cFa G w = 0) : cOK n tx (sFail G w) (mFi fi ac) (mAc ac) (zDw dd (mIx fi ac) G) kp ik (N + 1) := by
  have hv : (0 ≤ w ∧ w ≤ 2) ∧ 0 < G (at_ w 0) := by revert hc; unfold cFa; (repeat' split) <;> first | omega | (intro _; exact ⟨by assumption, by assumption⟩)
  exact h.act hN ((h.1.2.2.1.fail hv.1 hv.2).up (by omega) (by omega))
theorem kp_write {w c v : Int} (h : cOK n tx G fi ac dd kp ik N) (hN : N ≤ 538) (hc : cWr G w c v = 0) : cOK n tx (sWrite G w c v) (mFi fi ac) (mAc ac) (zDw dd (mIx fi ac) G) kp ik (N + 1) := by
  have hv : ((0 ≤ w ∧ w ≤ 2) ∧ 0 ≤ c ∧ c ≤ 15) ∧ 0 ≤ v ∧ v ≤ 99 := by revert hc; unfold cWr; (repeat' split) <;> omega
  exact h.act hN (h.1.2.2.1.write hv.1.1 ⟨by omega, by omega⟩ hv.2 (by omega))
theorem kp_regret {w c v : Int} (h : cOK n tx G fi ac dd kp ik N) (hN : N ≤ 538) (hc : cRg G w c v = 0) : cOK n tx (sRegret G w c v) (mFi fi ac) (mAc ac) (zDw dd (mIx fi ac) G) kp ik (N + 1) := by
  have hv : ((0 ≤ w ∧ w ≤ 2) ∧ 0 ≤ c ∧ c ≤ 15) ∧ 1 ≤ v ∧ v ≤ 99 := by revert hc; unfold cRg; (repeat' split) <;> omega
  exact h.act hN (h.1.2.2.1.regret hv.1.1 ⟨by omega, by omega⟩ ⟨by omega, by omega⟩ (by omega))
theorem kp_back {w i : Int} (h : cOK n tx G fi ac dd kp ik N) (hN : N ≤ 538) (hc : cBk G w i = 0) : cOK n tx (sBack G w i) (mFi fi ac) (mAc ac) (zDw dd (mIx fi ac) G) kp ik (N + 1) := by
  have hv : (0 ≤ w ∧ w ≤ 2) ∧ sHp G w i = true := by revert hc; unfold cBk; (repeat' split) <;> first | omega | (intro _; exact ⟨by assumption, by assumption⟩)
  have q := sHp_t.mp hv.2
  exact h.act hN ((h.1.2.2.1.back hv.1 q.1 ⟨q.2.1, by omega⟩).up (by omega) (by omega))
theorem kp_setMercy {v : Int} (h : cOK n tx G fi ac dd kp ik N) (hN : N ≤ 538) (hc : cMe v = 0) : cOK n tx (zU G 32 v) (mFi fi ac) (mAc ac) (zDw dd (mIx fi ac) G) kp ik (N + 1) := by
  have hv : 0 ≤ v ∧ v ≤ 3 := by revert hc; unfold cMe; (repeat' split) <;> omega
  exact h.act hN ((h.1.2.2.1.mercy hv).up (by omega) (by omega))
theorem kp_undo (h : cOK n tx G fi ac dd kp ik N) (hN : N ≤ 538) (hc : cUn ac = 0) : cOK n tx (zDr dd ((fi + (ac - 1)) % 16)) fi (ac - 1) dd kp ik (N + 1) := by
  obtain ⟨⟨h1, h2, h3, h4, h5, h6, h7⟩, h8, h9⟩ := h.keep hN
  have hv : ac ≠ 0 := by revert hc; unfold cUn; (repeat' split) <;> omega
  have q := h8 0 (by omega) (by omega)
  rw [show ac - 1 - 0 = ac - 1 by omega] at q
  exact ⟨⟨h1, h2, q, h4, h5, ⟨by omega, by omega⟩, h7⟩, fun k a b => by have z := h8 (k + 1) (by omega) (by omega); rw [show ac - 1 - (k + 1) = ac - 1 - 1 - k by omega] at z; exact z, h9⟩
theorem kp_save {k : Int} (h : cOK n tx G fi ac dd kp ik N) (hN : N ≤ 538) (hc : cSl k = 0) : cOK n tx G fi ac dd (zCpy G kp 0 (4086 * k) 4086) (zU ik k 1) (N + 1) := by
  obtain ⟨⟨h1, h2, h3, h4, h5, h6, h7⟩, h8, h9⟩ := h.keep hN
  have hv : 0 ≤ k ∧ k ≤ 1 := by revert hc; unfold cSl; (repeat' split) <;> omega
  refine ⟨⟨h1, h2, h3, h4, h5, h6, fun j a b => ?_⟩, h8, fun s a b c => ?_⟩
  · by_cases z : j = k
    · rw [z, zU_e rfl]; omega
    · rw [zU_n z]; exact h7 j a b
  · by_cases z : s = k
    · refine h3.cong (fun j j0 j1 => ?_)
      unfold zCpy
      rw [z, if_pos (by omega)]
      exact congrArg G (by omega)
    · rw [zU_n z] at c
      refine (h9 s a b c).cong (fun j j0 j1 => ?_)
      unfold zCpy
      rw [if_neg (by omega)]
theorem kp_restore {k : Int} (h : cOK n tx G fi ac dd kp ik N) (hN : N ≤ 538) (hc : cRe ik k = 0) : cOK n tx (fun j => kp (4086 * k + j)) fi 0 dd kp ik (N + 1) := by
  obtain ⟨⟨h1, h2, h3, h4, h5, h6, h7⟩, h8, h9⟩ := h.keep hN
  have hv : (0 ≤ k ∧ k ≤ 1) ∧ ik k ≠ 0 := by revert hc; unfold cRe; (repeat' split) <;> omega
  have h1k := h7 k (by omega) (by omega)
  exact ⟨⟨h1, h2, h9 k (by omega) (by omega) (by omega), h4, h5, ⟨by omega, by omega⟩, h7⟩, fun k a b => by omega, h9⟩
end KEEP
