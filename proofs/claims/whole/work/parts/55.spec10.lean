/-! the reference's object: what its operations answer -/
def cNo : Int := 0
def wOk (w : Int) : Prop := 0 ≤ w ∧ w ≤ 2
def cLd (n : Int) (tx : Int → Int) : Int := if tPos n tx = -1 then 0 else 1
def cAb (k : Int) : Int := if 0 ≤ k ∧ k ≤ 9 then 0 else 1
def vAb (G : Int → Int) (k : Int) : Int := if k = 0 then zSum 16 G else if k = 1 then zSum 16 (sLc G (-1)) else if k = 2 then zSum 3 (fun w => G (at_ w 0)) else if k = 3 then zSum 3 (fun w => G (at_ w 3)) else if k = 4 then zSum 3 (fun w => G (at_ w 4)) else if k = 5 then G 33 else if k = 6 then zSum 3 (fun w => zb (sSp G w)) else if k = 7 then G 32 else if k = 8 then G 34 else G 35
def cCe (c j : Int) : Int := if 0 ≤ c ∧ c ≤ 15 then (if 0 ≤ j ∧ j ≤ 2 then 0 else 2) else 1
/-- the oldest value: the log from its end -/
def sOd : Nat → (Int → Int) → Int → Int → Int → Int
  | 0, _, _, _, v => v
  | n + 1, G, w, c, v => sOd n G w c (if G (at_ w (70 + n)) / 100 = c then G (at_ w (70 + n)) % 100 else v)
def sOl (G : Int → Int) (c : Int) : Int := if 0 ≤ G (16 + c) - 1 then sOd (G (at_ (G (16 + c) - 1) 1)).toNat G (G (16 + c) - 1) c (G c) else G c
def vCe (G : Int → Int) (c j : Int) : Int := if j = 0 then G c else if j = 1 then G (16 + c) - 1 else sOl G c
def cWo (w j : Int) : Int := if 0 ≤ w ∧ w ≤ 2 then (if 0 ≤ j ∧ j ≤ 5 then 0 else 2) else 1
def vWo (G : Int → Int) (w j : Int) : Int := if j = 0 then G (at_ w 0) else if j = 1 then G (at_ w 1) else if j = 2 then zSum 16 (sLc G w) else if j = 3 then G (at_ w 3) else if j = 4 then G (at_ w 4) else zb (sSp G w)
def cWk (G : Int → Int) (w i j : Int) : Int := if (0 ≤ w ∧ w ≤ 2) ∧ 0 ≤ i ∧ i ≤ G (at_ w 0) - 1 then (if 0 ≤ j ∧ j ≤ 4 then 0 else 2) else 1
def vWk (G : Int → Int) (w i j : Int) : Int := if j = 0 then G (wA w i 0) else if j = 1 then G (wA w i 2) else if j = 2 then sRg G w i else if j = 3 then G (wA w i 3) else G (wA w i 4)
def cEn (w i : Int) : Int := if 0 ≤ w ∧ w ≤ 2 then (if 0 ≤ i then 0 else 2) else 1
def vEn (G : Int → Int) (w i : Int) : Int := if i < G (at_ w 1) then G (at_ w (70 + G (at_ w 1) - 1 - i)) else -1
def cBe (G : Int → Int) (w : Int) : Int := if 0 ≤ w ∧ w ≤ 2 then (if sCb G w = true then 0 else 2) else 1
def cPo (G : Int → Int) (w : Int) : Int := if 0 ≤ w ∧ w ≤ 2 then (if sCp G w = true then 0 else 2) else 1
def cDo (G : Int → Int) (w : Int) : Int := if 0 ≤ w ∧ w ≤ 2 then (if sOp G w = true then 0 else 2) else 1
def cFa (G : Int → Int) (w : Int) : Int := if 0 ≤ w ∧ w ≤ 2 then (if 0 < G (at_ w 0) then 0 else 2) else 1
def cWr (G : Int → Int) (w c v : Int) : Int := if (0 ≤ w ∧ w ≤ 2) ∧ 0 ≤ c ∧ c ≤ 15 then (if 0 ≤ v ∧ v ≤ 99 then (if sRe G w c = 0 then 0 else 3) else 2) else 1
def cRg (G : Int → Int) (w c v : Int) : Int := if (0 ≤ w ∧ w ≤ 2) ∧ 0 ≤ c ∧ c ≤ 15 then (if 1 ≤ v ∧ v ≤ 99 then (if sCr G w c = true then 0 else 3) else 2) else 1
def cBk (G : Int → Int) (w i : Int) : Int := if (0 ≤ w ∧ w ≤ 2) then (if sHp G w i = true then (if sSp G w = true then 2 else 0) else 1) else 1
def cMe (v : Int) : Int := if 0 ≤ v ∧ v ≤ 3 then 0 else 1
def cUn (ac : Int) : Int := if ac = 0 then 1 else 0
def cWy (w c : Int) : Int := if (0 ≤ w ∧ w ≤ 2) ∧ 0 ≤ c ∧ c ≤ 15 then 0 else 1
def cFd (w c k : Int) : Int := if (0 ≤ w ∧ w ≤ 2) ∧ 0 ≤ c ∧ c ≤ 15 then (if 0 ≤ k ∧ k ≤ 5 then 0 else 2) else 1
def sFs : Nat → (Int → Int) → Int → (Int → Int)
  | 0, G, _ => G
  | n + 1, G, w => if 0 < G (at_ w 0) then sFs n (sFail G w) w else G
def cWw (w : Int) : Int := if 0 ≤ w ∧ w ≤ 2 then 0 else 1
def vCh (G : Int → Int) (w : Int) : Int := if G (at_ w 0) = 0 then -1 else zSum 16 (sDf (sFail G w) G)
def cLo (G : Int → Int) (w i : Int) : Int := if 0 ≤ w ∧ w ≤ 2 then (if sHp G w i = true then 0 else 1) else 1
def vMl (G : Int → Int) (w : Int) : Int := if sOp G w = true then (if sCb G w = true then (if 0 ≤ G 32 - G (sIn G w 3) then G 32 - G (sIn G w 3) + 1 else 1) else -1) else -1
def cSl (k : Int) : Int := if 0 ≤ k ∧ k ≤ 1 then 0 else 1
def cRe (ik : Int → Int) (k : Int) : Int := if 0 ≤ k ∧ k ≤ 1 then (if ik k = 0 then 2 else 0) else 1
theorem tRn_I {n : Int} {tx : Int → Int} : ∀ (d : Nat) {S : zT} {N : Int}, (0 ≤ S.1.2 ∧ S.1.2 ≤ n) → sW S.2.2 N → N + d ≤ 639 → (0 ≤ (tRn d n tx S).1.2 ∧ (tRn d n tx S).1.2 ≤ n) ∧ sW (tRn d n tx S).2.2 (N + d)
  | 0, S, N, h, g, e => ⟨h, g.up (by omega) (by omega)⟩
  | d + 1, S, N, h, g, e => by
    unfold tRn
    split
    · next q =>
      have I := tCm_I (tx := tx) (lo := S.2.1) ⟨h.1, q.2⟩ g (by omega)
      have J := tRn_I (n := n) (tx := tx) d I.1 I.2.2 (by omega)
      exact ⟨J.1, J.2.up (by omega) (by omega)⟩
    · exact ⟨h, g.up (by omega) (by omega)⟩
theorem tAll_I {n : Int} {tx : Int → Int} (hn : 0 ≤ n) : (0 ≤ (tAll n tx).1.2 ∧ (tAll n tx).1.2 ≤ n) ∧ sW (tAll n tx).2.2 120 := by
  have a := tAc_R (b := tNx n 0 87 tx) (s := (true, 0)) (n := n) ⟨Int.le_refl 0, hn⟩ (fun e => (tNx_t.mp e).1)
  exact tRn_I (n := n) (tx := tx) 120 (S := (tAc (tNx n 0 87 tx) (true, 0), 0, sClean)) a sW_clean (by omega)
theorem tPos_R {n : Int} {tx : Int → Int} (hn : 0 ≤ n) : -1 ≤ tPos n tx ∧ tPos n tx ≤ n := by
  have := (tAll_I (tx := tx) hn).1
  unfold tPos
  split <;> omega
theorem vb_R {b : Bool} : 0 ≤ zb b ∧ zb b ≤ 1 := by cases b <;> decide
