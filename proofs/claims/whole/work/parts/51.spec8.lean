/-! the reference: reading the whole text -/
theorem tNx_t {n sp c : Int} {tx : Int → Int} : tNx n sp c tx = true ↔ (sp < n ∧ tx sp = c) := decide_eq_true_iff
theorem tNx_f {n sp c : Int} {tx : Int → Int} : tNx n sp c tx = false ↔ ¬ (sp < n ∧ tx sp = c) := decide_eq_false_iff_not
def tLet (k : Int) : Bool := decide (k = 98 ∨ k = 115 ∨ k = 112 ∨ k = 114 ∨ k = 103 ∨ k = 100 ∨ k = 102)
def tMe (n : Int) (tx : Int → Int) (s : zP) (lo : Int) (R : Int → Int) : zT := ((tDg n 0 3 tx s).2, lo, if (tDg n 0 3 tx s).2.1 = true then zU R 32 (tDg n 0 3 tx s).1 else R)
def tCk (k n : Int) (tx : Int → Int) (d : Int × zP) (lo : Int) (R : Int → Int) : zT :=
  if k = 115 then tWr n tx d.1 d.2 lo R else if k = 103 then tRg n tx d.1 d.2 lo R else if k = 114 then tBk n tx d.1 d.2 lo R else tBa k d.1 d.2 lo R
def tCm (n : Int) (tx : Int → Int) (s : zP) (lo : Int) (R : Int → Int) : zT :=
  if tNx n s.2 109 tx = true then tMe n tx (tAc true s) lo R else tCk (tx s.2) n tx (tDg n 0 2 tx (tAc (tLet (tx s.2)) s)) lo R
def tRn : Nat → Int → (Int → Int) → zT → zT
  | 0, _, _, S => S
  | f + 1, n, tx, S => if S.1.1 = true ∧ S.1.2 < n then tRn f n tx (tCm n tx S.1 S.2.1 S.2.2) else S
def tAll (n : Int) (tx : Int → Int) : zT := tRn 120 n tx (tAc (tNx n 0 87 tx) (true, 0), 0, sClean)
/-- a later place -/
def tLe (s s' : zP) : Prop := s'.1 = true → s.1 = true ∧ s.2 ≤ s'.2
theorem tLe.tr {a b c : zP} (h : tLe a b) (g : tLe b c) : tLe a c := fun e => by
  obtain ⟨g1, g2⟩ := g e
  obtain ⟨h1, h2⟩ := h g1
  exact ⟨h1, by omega⟩
theorem tAc_R {n : Int} {s : zP} {b : Bool} (hs : 0 ≤ s.2 ∧ s.2 ≤ n) (hb : b = true → s.2 < n) : 0 ≤ (tAc b s).2 ∧ (tAc b s).2 ≤ n := by
  show 0 ≤ tSp (s.1 && b) s.2 ∧ tSp (s.1 && b) s.2 ≤ n
  unfold tSp
  split
  · next e =>
    have := hb (by cases b with | true => rfl | false => rw [Bool.and_false] at e; exact absurd e (by decide))
    omega
  · exact hs
theorem tAc_1 {s : zP} {b : Bool} (h : (tAc b s).1 = true) : s.1 = true ∧ (tAc b s).2 = s.2 + 1 := by
  have h' : (s.1 && b) = true := h
  refine ⟨by cases hh : s.1 with | true => rfl | false => rw [hh] at h'; exact absurd h' (by simp), ?_⟩
  show tSp (s.1 && b) s.2 = _
  unfold tSp
  rw [if_pos h']
theorem tDg_1 {n a b : Int} {tx : Int → Int} {s : zP} (h : (tDg n a b tx s).2.1 = true) : s.1 = true ∧ (tDg n a b tx s).2.2 = s.2 + 1 := tAc_1 h
theorem tDg_le {n a b : Int} {tx : Int → Int} {s : zP} : tLe s (tDg n a b tx s).2 := fun h => ⟨(tDg_1 h).1, by have := (tDg_1 h).2; omega⟩
theorem tCl_le {n : Int} {tx : Int → Int} {s : zP} : tLe s (tCl n tx s).2 := tDg_le.tr tDg_le
theorem tTw_le {n m : Int} {tx : Int → Int} {s : zP} : tLe s (tTw n m tx s).2 := tDg_le.tr tDg_le
/-- what a command leaves: a place, a row -/
def tIn (n : Int) (s : zP) (N : Int) (S : zT) : Prop := (0 ≤ S.1.2 ∧ S.1.2 ≤ n) ∧ tLe s S.1 ∧ sW S.2.2 (N + 1)
section TI
variable {n N w lo : Int} {tx : Int → Int} {s : zP} {R R1 : Int → Int}
theorem tEx_I {d : Bool} {s1 : zP} (hs : 0 ≤ s1.2 ∧ s1.2 ≤ n) (hle : tLe s s1) (h : sW R N) (hN : N ≤ 639) (h1 : d = true → sW R1 (N + 1)) : tIn n s N (tEx s1 d lo R R1) := by
  refine ⟨hs, hle, ?_⟩
  show sW (if (s1.1 && d) = true then R1 else R) (N + 1)
  split
  · next e => exact h1 (by cases d with | true => rfl | false => rw [Bool.and_false] at e; exact absurd e (by decide))
  · exact h.up (by omega) (by omega)
theorem tWr_I (hs : 0 ≤ s.2 ∧ s.2 ≤ n) (h : sW R N) (hN : N ≤ 639) (hw : 0 ≤ w ∧ w ≤ 2) : tIn n s N (tWr n tx w s lo R) := by
  have c := tCl_R (tx := tx) hs
  have v := tTw_R (m := 0) (tx := tx) c.2 (by omega)
  exact tEx_I v.2 (tCl_le.tr tTw_le) h hN (fun _ => h.write hw c.1 v.1 hN)
theorem tRg_I (hs : 0 ≤ s.2 ∧ s.2 ≤ n) (h : sW R N) (hN : N ≤ 639) (hw : 0 ≤ w ∧ w ≤ 2) : tIn n s N (tRg n tx w s lo R) := by
  have c := tCl_R (tx := tx) hs
  have v := tTw_R (m := 1) (tx := tx) c.2 (by omega)
  exact tEx_I v.2 (tCl_le.tr tTw_le) h hN (fun _ => h.regret hw c.1 ⟨by omega, v.1.2⟩ hN)
theorem tBk_I (hs : 0 ≤ s.2 ∧ s.2 ≤ n) (h : sW R N) (hN : N ≤ 639) (hw : 0 ≤ w ∧ w ≤ 2) : tIn n s N (tBk n tx w s lo R) := by
  have v := tDg_R (a := 0) (b := 3) (tx := tx) hs (by omega)
  refine tEx_I v.2 tDg_le h hN (fun e => ?_)
  have e1 : sHp R w (tDg n 0 3 tx s).1 = true := by cases hh : sHp R w (tDg n 0 3 tx s).1 with | true => rfl | false => rw [hh] at e; exact absurd e (by simp)
  have e2 := sHp_t.mp e1
  exact (h.back hw e2.1 ⟨e2.2.1, by omega⟩).up (by omega) (by omega)
theorem tBa_I {k : Int} (hs : 0 ≤ s.2 ∧ s.2 ≤ n) (h : sW R N) (hN : N ≤ 639) (hw : 0 ≤ w ∧ w ≤ 2) : tIn n s N (tBa k w s lo R) := by
  refine tEx_I hs (fun e => ⟨e, Int.le_refl _⟩) h hN (fun e => sW.up (N := N) ?_ (by omega) (by omega))
  unfold tBaD at e
  unfold tBaR
  split at e
  · next q => rw [if_pos q]; exact h.begin hw (sCb_t.mp e).1
  · next q => rw [if_neg q]; split at e
              · next q => rw [if_pos q]; have a := sCp_t.mp e; exact h.point hw a.1 a.2.2
              · next q => rw [if_neg q]; split at e
                          · next q => rw [if_pos q]; exact h.done hw (sOp_t.mp e).1
                          · next q => rw [if_neg q]; exact h.fail hw (of_decide_eq_true e)
theorem tCm_I (hs : 0 ≤ s.2 ∧ s.2 < n) (h : sW R N) (hN : N ≤ 639) : (0 ≤ (tCm n tx s lo R).1.2 ∧ (tCm n tx s lo R).1.2 ≤ n) ∧ ((tCm n tx s lo R).1.1 = true → s.1 = true ∧ s.2 + 1 ≤ (tCm n tx s lo R).1.2) ∧ sW (tCm n tx s lo R).2.2 (N + 1) := by
  unfold tCm
  split
  · have a := tAc_R (b := true) (n := n) ⟨hs.1, by omega⟩ (fun _ => hs.2)
    have d := tDg_R (a := 0) (b := 3) (tx := tx) a (by omega)
    refine ⟨d.2, fun e => ?_, ?_⟩
    · have d1 := tDg_1 e
      have a1 := tAc_1 d1.1
      refine ⟨a1.1, ?_⟩
      show s.2 + 1 ≤ (tDg n 0 3 tx (tAc true s)).2.2
      omega
    · show sW (if _ then _ else _) _
      split
      · exact (h.mercy d.1).up (by omega) (by omega)
      · exact h.up (by omega) (by omega)
  · have a := tAc_R (b := tLet (tx s.2)) (n := n) ⟨hs.1, by omega⟩ (fun _ => hs.2)
    have d := tDg_R (a := 0) (b := 2) (tx := tx) a (by omega)
    have key : tIn n (tDg n 0 2 tx (tAc (tLet (tx s.2)) s)).2 N (tCk (tx s.2) n tx (tDg n 0 2 tx (tAc (tLet (tx s.2)) s)) lo R) := by
      unfold tCk
      split
      · exact tWr_I d.2 h hN d.1
      · split
        · exact tRg_I d.2 h hN d.1
        · split
          · exact tBk_I d.2 h hN d.1
          · exact tBa_I d.2 h hN d.1
    refine ⟨key.1, fun e => ?_, key.2.2⟩
    have k1 := key.2.1 e
    have d1 := tDg_1 k1.1
    have a1 := tAc_1 d1.1
    exact ⟨a1.1, by omega⟩
theorem sW_clean : sW sClean 0 := by
  have z : ∀ j : Int, j ≠ 32 → sClean j = 0 := fun j h => if_neg h
  refine ⟨fun w hw => ?_, fun c a b => by rw [z c (by omega)]; omega, fun c a b => by rw [z _ (by omega)]; omega, by show 0 ≤ (if (32 : Int) = 32 then (1 : Int) else 0) ∧ (if (32 : Int) = 32 then (1 : Int) else 0) ≤ 3; omega, by omega⟩
  have e0 : sClean (at_ w 0) = 0 := z _ (by have := at_e w 0; omega)
  have e1 : sClean (at_ w 1) = 0 := z _ (by have := at_e w 1; omega)
  have e2 : sClean (at_ w 2) = 0 := z _ (by have := at_e w 2; omega)
  exact ⟨by omega, by omega, fun k a b => by omega, fun k a b => by omega, fun i a b => by omega⟩
end TI
