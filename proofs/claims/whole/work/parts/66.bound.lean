/-! what a text leaves: at most 20 writes and regrets -/
theorem tDg_3 {n a b : Int} {tx : Int → Int} {s : zP} (h : (tDg n a b tx s).2.1 = true) : s.1 = true ∧ (tDg n a b tx s).2.2 = s.2 + 1 := tDg_1 h
theorem tCl_3 {n : Int} {tx : Int → Int} {s : zP} (h : (tCl n tx s).2.1 = true) : s.1 = true ∧ (tCl n tx s).2.2 = s.2 + 2 := by
  have a := tDg_1 (s := (tDg n 0 1 tx s).2) h
  have b := tDg_1 a.1
  refine ⟨b.1, ?_⟩
  have e : (tCl n tx s).2.2 = (tDg n 0 1 tx s).2.2 + 1 := a.2
  omega
theorem tTw_3 {n m : Int} {tx : Int → Int} {s : zP} (h : (tTw n m tx s).2.1 = true) : s.1 = true ∧ (tTw n m tx s).2.2 = s.2 + 2 := by
  have a := tDg_1 (s := (tDg n 0 9 tx s).2) h
  have b := tDg_1 a.1
  refine ⟨b.1, ?_⟩
  have e : (tTw n m tx s).2.2 = (tDg n 0 9 tx s).2.2 + 1 := a.2
  omega
/-- of a command: nothing new, or one new in a good text, 6 places on -/
def tJn (s : zP) (N : Int) (S : zT) : Prop := sW S.2.2 N ∨ (sW S.2.2 (N + 1) ∧ S.1.1 = true ∧ s.2 + 4 ≤ S.1.2)
section TJ
variable {n N w lo : Int} {tx : Int → Int} {s : zP} {R R1 : Int → Int}
theorem tEx_J {d : Bool} {s1 : zP} (h : sW R N) (h1 : d = true → s1.1 = true → sW R1 N ∨ (sW R1 (N + 1) ∧ s.2 + 4 ≤ s1.2)) : tJn s N (tEx s1 d lo R R1) := by
  unfold tJn
  by_cases e : (s1.1 && d) = true
  · have e1 : s1.1 = true := by cases hh : s1.1 with | true => rfl | false => rw [hh] at e; exact absurd e (by simp)
    have e2 : (tEx s1 d lo R R1).2.2 = R1 := if_pos e
    rw [e2]
    rcases h1 (and_2 e) e1 with h | h
    · exact Or.inl h
    · exact Or.inr ⟨h.1, e1, h.2⟩
  · have e2 : (tEx s1 d lo R R1).2.2 = R := if_neg e
    rw [e2]; exact Or.inl h
theorem tWr_J (hs : 0 ≤ s.2 ∧ s.2 ≤ n) (h : sW R N) (hN : N ≤ 639) (hw : 0 ≤ w ∧ w ≤ 2) : tJn s N (tWr n tx w s lo R) := by
  have c := tCl_R (tx := tx) hs
  have v := tTw_R (m := 0) (tx := tx) c.2 (by omega)
  refine tEx_J h (fun _ g => Or.inr ⟨h.write hw c.1 v.1 hN, ?_⟩)
  have a := tTw_3 g
  have b := tCl_3 a.1
  omega
theorem tRg_J (hs : 0 ≤ s.2 ∧ s.2 ≤ n) (h : sW R N) (hN : N ≤ 639) (hw : 0 ≤ w ∧ w ≤ 2) : tJn s N (tRg n tx w s lo R) := by
  have c := tCl_R (tx := tx) hs
  have v := tTw_R (m := 1) (tx := tx) c.2 (by omega)
  refine tEx_J h (fun _ g => Or.inr ⟨h.regret hw c.1 ⟨by omega, v.1.2⟩ hN, ?_⟩)
  have a := tTw_3 g
  have b := tCl_3 a.1
  omega
theorem tBk_J (h : sW R N) (hw : 0 ≤ w ∧ w ≤ 2) : tJn s N (tBk n tx w s lo R) := by
  refine tEx_J h (fun e _ => Or.inl ?_)
  have e1 : sHp R w (tDg n 0 3 tx s).1 = true := by cases hh : sHp R w (tDg n 0 3 tx s).1 with | true => rfl | false => rw [hh] at e; exact absurd e (by simp)
  have e2 := sHp_t.mp e1
  exact h.back hw e2.1 ⟨e2.2.1, by omega⟩
theorem tBa_J {k : Int} (h : sW R N) (hw : 0 ≤ w ∧ w ≤ 2) : tJn s N (tBa k w s lo R) := by
  refine tEx_J h (fun e _ => Or.inl ?_)
  unfold tBaD at e
  unfold tBaR
  split at e
  · next q => rw [if_pos q]; exact h.begin hw (sCb_t.mp e).1
  · next q => rw [if_neg q]; split at e
              · next q => rw [if_pos q]; have a := sCp_t.mp e; exact h.point hw a.1 a.2.2
              · next q => rw [if_neg q]; split at e
                          · next q => rw [if_pos q]; exact h.done hw (sOp_t.mp e).1
                          · next q => rw [if_neg q]; exact h.fail hw (of_decide_eq_true e)
end TJ
