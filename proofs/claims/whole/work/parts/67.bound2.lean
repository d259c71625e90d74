/-! what a text leaves: the bound -/
theorem tCm_J {n N lo : Int} {tx : Int → Int} {s : zP} {R : Int → Int} (hs : 0 ≤ s.2 ∧ s.2 < n) (h : sW R N) (hN : N ≤ 639) : sW (tCm n tx s lo R).2.2 N ∨ (sW (tCm n tx s lo R).2.2 (N + 1) ∧ (tCm n tx s lo R).1.1 = true ∧ s.2 + 6 ≤ (tCm n tx s lo R).1.2) := by
  unfold tCm
  split
  · have a := tAc_R (b := true) (n := n) ⟨hs.1, by omega⟩ (fun _ => hs.2)
    have d := tDg_R (a := 0) (b := 3) (tx := tx) a (by omega)
    refine Or.inl ?_
    show sW (if _ then _ else _) _
    split
    · exact h.mercy d.1
    · exact h
  · have a := tAc_R (b := tLet (tx s.2)) (n := n) ⟨hs.1, by omega⟩ (fun _ => hs.2)
    have d := tDg_R (a := 0) (b := 2) (tx := tx) a (by omega)
    have key : tIn n (tDg n 0 2 tx (tAc (tLet (tx s.2)) s)).2 N (tCk (tx s.2) n tx (tDg n 0 2 tx (tAc (tLet (tx s.2)) s)) lo R) ∧ tJn (tDg n 0 2 tx (tAc (tLet (tx s.2)) s)).2 N (tCk (tx s.2) n tx (tDg n 0 2 tx (tAc (tLet (tx s.2)) s)) lo R) := by
      unfold tCk
      split
      · exact ⟨tWr_I d.2 h hN d.1, tWr_J d.2 h hN d.1⟩
      · split
        · exact ⟨tRg_I d.2 h hN d.1, tRg_J d.2 h hN d.1⟩
        · split
          · exact ⟨tBk_I d.2 h hN d.1, tBk_J h d.1⟩
          · exact ⟨tBa_I d.2 h hN d.1, tBa_J h d.1⟩
    rcases key.2 with k | k
    · exact Or.inl k
    · refine Or.inr ⟨k.1, k.2.1, ?_⟩
      have k1 := key.1.2.1 k.2.1
      have d1 := tDg_1 k1.1
      have a1 := tAc_1 d1.1
      have k2 := k.2.2
      omega
theorem tRn_J {n : Int} {tx : Int → Int} (hn : n ≤ 120) : ∀ (d : Nat) {S : zT} {N : Int}, (0 ≤ S.1.2 ∧ S.1.2 ≤ n) → sW S.2.2 N → N ≤ 20 → (S.1.1 = true → 6 * N ≤ S.1.2) → ∃ N' : Int, sW (tRn d n tx S).2.2 N' ∧ N' ≤ 20
  | 0, S, N, _, g, e, _ => ⟨N, g, e⟩
  | d + 1, S, N, h, g, e, f => by
    unfold tRn
    split
    · next q =>
      have I := tCm_I (tx := tx) (lo := S.2.1) ⟨h.1, q.2⟩ g (by omega)
      have f1 := f q.1
      rcases tCm_J (tx := tx) (lo := S.2.1) ⟨h.1, q.2⟩ g (by omega) with J | J
      · exact tRn_J hn d I.1 J e (fun z => by have := I.2.1 z; omega)
      · exact tRn_J hn d I.1 J.1 (by have := I.1; omega) (fun _ => by have := J.2.2; omega)
    · exact ⟨N, g, e⟩
theorem tAll_J {n : Int} {tx : Int → Int} (hn : 0 ≤ n ∧ n ≤ 120) : sW (tAll n tx).2.2 20 := by
  have a := tAc_R (b := tNx n 0 87 tx) (s := (true, 0)) (n := n) ⟨Int.le_refl 0, hn.1⟩ (fun e => (tNx_t.mp e).1)
  obtain ⟨N, h, e⟩ := tRn_J (n := n) (tx := tx) hn.2 120 (S := (tAc (tNx n 0 87 tx) (true, 0), 0, sClean)) a sW_clean (by omega) (fun _ => by show 6 * 0 ≤ _; exact a.1)
  exact sW.up (G := (tAll n tx).2.2) h e (by omega)
