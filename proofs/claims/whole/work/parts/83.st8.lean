/-! the class: states are cleared, copied, made (written by program: wip/whole/gen/class11.py) -/
/-- the workers, each over a row of its own -/
def zAw (E : zE) (H : Heap) (r : zH) (a : Nat → Nat) (t : Nat) (A : Nat → Int → Int) : Prop := ∀ v : Nat, v < 3 → zWkr E H r a (t + 6 + 16 * v) v (A v)
theorem zAw.fr {E : zE} {H H1 : Heap} {r r1 : zH} {a : Nat → Nat} {t : Nat} {A : Nat → Int → Int} {T : Nat → Prop} (h : zAw E H r a t A) (f : zFr H r H1 r1 T) (n : ∀ s, t + 6 ≤ s → s < t + 54 → ¬ T s) : zAw E H1 r1 a t A :=
  fun v hv => (h v hv).fr f (fun s p q => n s (by omega) (by omega))
theorem zAw.at {E : zE} {H : Heap} {r : zH} {a : Nat → Nat} {t : Nat} {A : Nat → Int → Int} (h : zAw E H r a t A) {e : Int} (h0 : 0 ≤ e) (h1 : e < 3) : zWkr E H r a (t + 6 + 16 * e.toNat) e (A e.toNat) := by
  have k := h e.toNat (by omega)
  rw [zto h0] at k
  exact k
theorem zAw.set {E : zE} {H H1 : Heap} {r r1 : zH} {a : Nat → Nat} {t : Nat} {A A1 : Nat → Int → Int} {T : Nat → Prop} {e : Int} (h : zAw E H r a t A) (f : zFr H r H1 r1 T) (h0 : 0 ≤ e) (h1 : e < 3) (n : ∀ s, t + 6 ≤ s → s < t + 54 → (s < t + 6 + 16 * e.toNat ∨ t + 22 + 16 * e.toNat ≤ s) → ¬ T s)
    (k : zWkr E H1 r1 a (t + 6 + 16 * e.toNat) e (A1 e.toNat)) (q : ∀ v : Nat, v < 3 → (v : Int) ≠ e → A1 v = A v) : zAw E H1 r1 a t A1 := fun v hv => by
  by_cases z : (v : Int) = e
  · have z' : e.toNat = v := by omega
    rw [z'] at k
    rw [z]
    exact k
  · rw [q v hv z]
    exact (h v hv).fr f (fun s p1 p2 => n s (by omega) (by omega) (by omega))
theorem sClean_v {c : Int} (h : 0 ≤ c ∧ c < 32) : sClean c = 0 := if_neg (by omega)
theorem c_X2_workerAtQ {E : zE} (hst : E.1.stackTraces = false) {H : Heap} {r : zH} {a : Nat → Nat} {t : Nat} {i : Int} {m1 m2 m3 m4 : Value} (sO : zO E H r t (a t) 2 [.ref (a (t + 2)), .ref (a (t + 4)), .ref (a (t + 1)), m1, m2, m3, m4]) (sQ : zQr E H r (t + 1) (a (t + 1)) 3 3 (fun i => some (a (t + 6 + 16 * i.toNat)))) (hi : 0 ≤ i ∧ i < 3) : zC E yX2_workerAt cX2_workerAt 2 (some (.object "ForgivenWork$Worker")) 0 0 [.ref (a t), .int (iI i)] H 0 0 (zRr (some (a (t + 6 + 16 * i.toNat))) (zSm H)) zN := by
  refine zC.of (by decide) (Nat.le_of_ble_eq_true rfl) hst ?_
  intro x O hE hpo hpx
  subst hE
  change zG x H 0 0 0 [(0, .ref (a t)), (1, .int (iI i))] []
  refine z_iload_n 1 O dX2_workerAt_0 rfl ?_
  refine z_if_lt 22 O dX2_workerAt_1 (by decide) ⟨by omega, by omega⟩ (fun c_1 => ?_) (fun c_1 => ?_)
  · exfalso; omega
  · skip
    refine z_iload_n 1 O dX2_workerAt_4 rfl ?_
    refine z_aload_n 0 O dX2_workerAt_5 rfl ?_
    refine z_getf kF_X2_25 O dX2_workerAt_6 sO.1 rfl ?_
    refine z_alenR (by decide) O dX2_workerAt_9 sQ.1 ?_
    refine z_icmp_ge 22 O dX2_workerAt_10 (by decide) ⟨by omega, by omega⟩ ⟨by omega, by omega⟩ (fun c_10 => ?_) (fun c_10 => ?_)
    · exfalso; omega
    · skip
      refine z_aload_n 0 O dX2_workerAt_13 rfl ?_
      refine z_getf kF_X2_25 O dX2_workerAt_14 sO.1 rfl ?_
      refine z_iload_n 1 O dX2_workerAt_17 rfl ?_
      refine z_aald (T := 0) (by decide) O dX2_workerAt_18 sQ.1 ⟨by omega, by omega⟩ (by omega) (by omega) ?_
      change zG x _ _ _ _ _ (.ref (a (t + 6 + 16 * i.toNat)) :: _)
      refine z_goto 23 O dX2_workerAt_19 (by decide) ?_
      exact z_iretr O dX2_workerAt_23 rfl (by first | exact Or.inl ⟨_, rfl⟩ | exact Or.inr ⟨_, rfl⟩) (by omega) (by omega) hpo (by rfl) (rfl)

theorem c_X2_clear {E : zE} (hst : E.1.stackTraces = false) {H : Heap} {r : zH} {a : Nat → Nat} {t : Nat} {G : Int → Int} {N : Int} (h : zSt E H r a t G) (hG : sW G N) : zC E yX2_clear cX2_clear 3 none 3 62 [.ref (a t)] H 0 0 (zRv (fun H1 => zFr H r H1 r (fun s => t ≤ s ∧ s < t + 64) ∧ zSt E H1 r a t sClean)) zN := by
  refine zC.of (by decide) (Nat.le_of_ble_eq_true rfl) hst ?_
  intro x O hE hpo hpx
  subst hE
  change zG x H 0 0 0 [(0, .ref (a t))] []
  obtain ⟨sO, sQ, sV, sL, sWs⟩ := id h
  have sWs : zAw (zEn x) H r a t (fun _ => G) := sWs
  refine z_iconst 0 O dX2_clear_0 (by decide +kernel) ?_
  refine z_istore_n [(1, .int (iI 0)), (0, .ref (a t))] O dX2_clear_1 (by decide) rfl ?_
  have loop2 : ∀ (d : Nat) (i : Int) (H' : Heap), (0 ≤ i) → (i + (d : Int) = 16) → (zFr H r H' r (fun s => t ≤ s ∧ s < t + 64)) → (zO (zEn x) H' r t (a t) 2 [.ref (a (t + 2)), .ref (a (t + 4)), .ref (a (t + 1)), .int (iI (G 32)), .int (iI (G 33)), .int (iI (G 34)), .int (iI (G 35))]) → (zQr (zEn x) H' r (t + 1) (a (t + 1)) 3 3 (fun i => some (a (t + 6 + 16 * i.toNat)))) → (zRow (zEn x) H' r (t + 2) (a (t + 2)) 16 16 (fun c => if c < i then 0 else G c)) → (zRow (zEn x) H' r (t + 4) (a (t + 4)) 16 16 (fun c => if c < i then -1 else G (16 + c) - 1)) → (zAw (zEn x) H' r a t (fun _ => G)) → zG x H' 0 0 2 [(1, .int (iI i)), (0, .ref (a t))] [] := by
    intro d
    induction d with
    | zero =>
      intro i H' hi0 hid hf' y0' y1' y2' y3' y4'
      refine z_iload_n 0 O dX2_clear_2 rfl ?_
      refine z_bipush 16 O dX2_clear_3 (by decide +kernel) ?_
      refine z_icmp_ge 32 O dX2_clear_5 (by decide) ⟨by omega, by omega⟩ ⟨by omega, by omega⟩ (fun c_5 => ?_) (fun c_5 => ?_)
      · skip
        refine z_iconst 0 O dX2_clear_32 (by decide +kernel) ?_
        refine z_istore_n [(1, .int (iI 0)), (0, .ref (a t))] O dX2_clear_33 (by decide) rfl ?_
        have loop34 : ∀ (d : Nat) (j : Int) (H'' : Heap), (0 ≤ j) → (j + (d : Int) = 3) → (zFr H r H'' r (fun s => t ≤ s ∧ s < t + 64)) → (zO (zEn x) H'' r t (a t) 2 [.ref (a (t + 2)), .ref (a (t + 4)), .ref (a (t + 1)), .int (iI (G 32)), .int (iI (G 33)), .int (iI (G 34)), .int (iI (G 35))]) → (zQr (zEn x) H'' r (t + 1) (a (t + 1)) 3 3 (fun i => some (a (t + 6 + 16 * i.toNat)))) → (zRow (zEn x) H'' r (t + 2) (a (t + 2)) 16 16 (fun c => if c < i then 0 else G c)) → (zRow (zEn x) H'' r (t + 4) (a (t + 4)) 16 16 (fun c => if c < i then -1 else G (16 + c) - 1)) → (zAw (zEn x) H'' r a t (fun v => if (v : Int) < j then sClean else G)) → zG x H'' 0 0 34 [(1, .int (iI j)), (0, .ref (a t))] [] := by
          intro d
          induction d with
          | zero =>
            intro j H'' hj0 hjd hf'' z0' z1' z2' z3' z4'
            refine z_iload_n 0 O dX2_clear_34 rfl ?_
            refine z_iconst 3 O dX2_clear_35 (by decide +kernel) ?_
            refine z_icmp_ge 59 O dX2_clear_36 (by decide) ⟨by omega, by omega⟩ ⟨by omega, by omega⟩ (fun c_36 => ?_) (fun c_36 => ?_)
            · skip
              refine z_aload_n 1 O dX2_clear_59 rfl ?_
              refine z_iconst 1 O dX2_clear_60 (by decide +kernel) ?_
              refine z_putf kP_X2_29 O (fun h => nomatch h) dX2_clear_61 z0'.1 rfl rfl (Nat.le_of_ble_eq_true rfl) (fun H1 hO2 hC3 => ?_)
              have hf4 := z0'.ch hC3
              have ho5 : zO (zEn x) H1 r t (a t) 2 [.ref (a (t + 2)), .ref (a (t + 4)), .ref (a (t + 1)), .int (iI 1), .int (iI (G 33)), .int (iI (G 34)), .int (iI (G 35))] := ⟨hO2, z0'.2⟩
              have z1'6 := z1'.fr hf4 (by first | exact (fun h => h) | exact zT1 (by omega) | (show ¬ (_ ∨ _); omega) | (show ¬ (_ ∧ _); omega))
              have z2'7 := z2'.fr hf4 (by first | exact (fun h => h) | exact zT1 (by omega) | (show ¬ (_ ∨ _); omega) | (show ¬ (_ ∧ _); omega)) (by first | exact (fun h => h) | exact zT1 (by omega) | (show ¬ (_ ∨ _); omega) | (show ¬ (_ ∧ _); omega))
              have z3'8 := z3'.fr hf4 (by first | exact (fun h => h) | exact zT1 (by omega) | (show ¬ (_ ∨ _); omega) | (show ¬ (_ ∧ _); omega)) (by first | exact (fun h => h) | exact zT1 (by omega) | (show ¬ (_ ∨ _); omega) | (show ¬ (_ ∧ _); omega))
              have z4'9 := z4'.fr hf4 (fun s h1 h2 => by first | exact (fun h => h) | exact zT1 (by omega) | (show ¬ (_ ∨ _); omega) | (show ¬ (_ ∧ _); omega))
              refine z_aload_n 1 O dX2_clear_64 rfl ?_
              refine z_iconst 0 O dX2_clear_65 (by decide +kernel) ?_
              refine z_putf kP_X2_49 O (fun h => nomatch h) dX2_clear_66 ho5.1 rfl rfl (Nat.le_of_ble_eq_true rfl) (fun H10 hO11 hC12 => ?_)
              have hf13 := ho5.ch hC12
              have ho14 : zO (zEn x) H10 r t (a t) 2 [.ref (a (t + 2)), .ref (a (t + 4)), .ref (a (t + 1)), .int (iI 1), .int (iI 0), .int (iI (G 34)), .int (iI (G 35))] := ⟨hO11, ho5.2⟩
              have z1'15 := z1'6.fr hf13 (by first | exact (fun h => h) | exact zT1 (by omega) | (show ¬ (_ ∨ _); omega) | (show ¬ (_ ∧ _); omega))
              have z2'16 := z2'7.fr hf13 (by first | exact (fun h => h) | exact zT1 (by omega) | (show ¬ (_ ∨ _); omega) | (show ¬ (_ ∧ _); omega)) (by first | exact (fun h => h) | exact zT1 (by omega) | (show ¬ (_ ∨ _); omega) | (show ¬ (_ ∧ _); omega))
              have z3'17 := z3'8.fr hf13 (by first | exact (fun h => h) | exact zT1 (by omega) | (show ¬ (_ ∨ _); omega) | (show ¬ (_ ∧ _); omega)) (by first | exact (fun h => h) | exact zT1 (by omega) | (show ¬ (_ ∨ _); omega) | (show ¬ (_ ∧ _); omega))
              have z4'18 := z4'9.fr hf13 (fun s h1 h2 => by first | exact (fun h => h) | exact zT1 (by omega) | (show ¬ (_ ∨ _); omega) | (show ¬ (_ ∧ _); omega))
              refine z_aload_n 1 O dX2_clear_69 rfl ?_
              refine z_iconst 0 O dX2_clear_70 (by decide +kernel) ?_
              refine z_putf kP_X2_52 O (fun h => nomatch h) dX2_clear_71 ho14.1 rfl rfl (Nat.le_of_ble_eq_true rfl) (fun H19 hO20 hC21 => ?_)
              have hf22 := ho14.ch hC21
              have ho23 : zO (zEn x) H19 r t (a t) 2 [.ref (a (t + 2)), .ref (a (t + 4)), .ref (a (t + 1)), .int (iI 1), .int (iI 0), .int (iI 0), .int (iI (G 35))] := ⟨hO20, ho14.2⟩
              have z1'24 := z1'15.fr hf22 (by first | exact (fun h => h) | exact zT1 (by omega) | (show ¬ (_ ∨ _); omega) | (show ¬ (_ ∧ _); omega))
              have z2'25 := z2'16.fr hf22 (by first | exact (fun h => h) | exact zT1 (by omega) | (show ¬ (_ ∨ _); omega) | (show ¬ (_ ∧ _); omega)) (by first | exact (fun h => h) | exact zT1 (by omega) | (show ¬ (_ ∨ _); omega) | (show ¬ (_ ∧ _); omega))
              have z3'26 := z3'17.fr hf22 (by first | exact (fun h => h) | exact zT1 (by omega) | (show ¬ (_ ∨ _); omega) | (show ¬ (_ ∧ _); omega)) (by first | exact (fun h => h) | exact zT1 (by omega) | (show ¬ (_ ∨ _); omega) | (show ¬ (_ ∧ _); omega))
              have z4'27 := z4'18.fr hf22 (fun s h1 h2 => by first | exact (fun h => h) | exact zT1 (by omega) | (show ¬ (_ ∨ _); omega) | (show ¬ (_ ∧ _); omega))
              refine z_aload_n 1 O dX2_clear_74 rfl ?_
              refine z_iconst 0 O dX2_clear_75 (by decide +kernel) ?_
              refine z_putf kP_X2_55 O (fun h => nomatch h) dX2_clear_76 ho23.1 rfl rfl (Nat.le_of_ble_eq_true rfl) (fun H28 hO29 hC30 => ?_)
              have hf31 := ho23.ch hC30
              have ho32 : zO (zEn x) H28 r t (a t) 2 [.ref (a (t + 2)), .ref (a (t + 4)), .ref (a (t + 1)), .int (iI 1), .int (iI 0), .int (iI 0), .int (iI 0)] := ⟨hO29, ho23.2⟩
              have z1'33 := z1'24.fr hf31 (by first | exact (fun h => h) | exact zT1 (by omega) | (show ¬ (_ ∨ _); omega) | (show ¬ (_ ∧ _); omega))
              have z2'34 := z2'25.fr hf31 (by first | exact (fun h => h) | exact zT1 (by omega) | (show ¬ (_ ∨ _); omega) | (show ¬ (_ ∧ _); omega)) (by first | exact (fun h => h) | exact zT1 (by omega) | (show ¬ (_ ∨ _); omega) | (show ¬ (_ ∧ _); omega))
              have z3'35 := z3'26.fr hf31 (by first | exact (fun h => h) | exact zT1 (by omega) | (show ¬ (_ ∨ _); omega) | (show ¬ (_ ∧ _); omega)) (by first | exact (fun h => h) | exact zT1 (by omega) | (show ¬ (_ ∨ _); omega) | (show ¬ (_ ∧ _); omega))
              have z4'36 := z4'27.fr hf31 (fun s h1 h2 => by first | exact (fun h => h) | exact zT1 (by omega) | (show ¬ (_ ∨ _); omega) | (show ¬ (_ ∧ _); omega))
              exact z_iretv O dX2_clear_79 rfl (by omega) (by omega) hpo (⟨(((((((((hf''.up (fun s h => by first | exact h.elim | omega | (simp at h ⊢; omega)))).tr (hf4.up (fun s h => by first | exact h.elim | omega | (simp at h ⊢; omega))))).tr (hf13.up (fun s h => by first | exact h.elim | omega | (simp at h ⊢; omega))))).tr (hf22.up (fun s h => by first | exact h.elim | omega | (simp at h ⊢; omega))))).tr (hf31.up (fun s h => by first | exact h.elim | omega | (simp at h ⊢; omega)))), ho32, z1'33, z2'34.to (fun c c0 c1 => by rw [sClean_v (by omega)]; exact if_pos (by omega)), z3'35.to (fun c c0 c1 => by rw [sClean_v (by omega)]; exact if_pos (by omega)), fun v hv => by have k := z4'36 v hv; dsimp only at k; rw [if_pos (by omega)] at k; exact k⟩)
            · exfalso; omega
          | succ d ih =>
            intro j H'' hj0 hjd hf'' z0' z1' z2' z3' z4'
            refine z_iload_n 0 O dX2_clear_34 rfl ?_
            refine z_iconst 3 O dX2_clear_35 (by decide +kernel) ?_
            refine z_icmp_ge 59 O dX2_clear_36 (by decide) ⟨by omega, by omega⟩ ⟨by omega, by omega⟩ (fun c_36 => ?_) (fun c_36 => ?_)
            · exfalso; omega
            · skip
              refine z_aload_n 1 O dX2_clear_39 rfl ?_
              refine z_iload_n 0 O dX2_clear_40 rfl ?_
              refine z_Vr [.int (iI j)] [] kM_X2_42 O dX2_clear_41 (c_X2_workerAtQ hst z0' z1' (i := j) ⟨by omega, by omega⟩) rfl rfl z0'.1 (by decide) (Nat.le_of_ble_eq_true rfl) (by omega) (by omega) (Nat.le_of_ble_eq_true rfl) zNx ?_
              refine z_astore_n [(2, .ref (a (t + 6 + 16 * j.toNat))), (1, .int (iI j)), (0, .ref (a t))] O dX2_clear_44 (by decide) rfl ?_
              refine z_aload_n 0 O dX2_clear_45 rfl ?_
              refine z_ifnull O dX2_clear_46 ?_
              refine z_aload_n 0 O dX2_clear_49 rfl ?_
              have hk38 := z4'.at (e := j) (by omega) (by omega)
              simp only [show ¬ ((j.toNat : Int) < j) by omega, if_false] at hk38
              obtain ⟨_, _, _, _, hkO, _⟩ := id hk38
              refine z_Vvm [] [] kM_X2_46 O dX2_clear_50 (c_X4_clear hst hk38 hG ⟨by omega, by omega⟩) rfl rfl hkO.1 (by decide) (Nat.le_of_ble_eq_true rfl) (by omega) (by omega) (Nat.le_of_ble_eq_true rfl) zNx (fun H39 hp40 hz41 => ?_)
              obtain ⟨hf42, hz43⟩ := hp40
              have hA44 : zAw (zEn x) H39 r a t (fun v => if (v : Int) < j + 1 then sClean else G) := z4'.set (A1 := fun v => if (v : Int) < j + 1 then sClean else G) hf42 (by omega) (by omega) (fun s h1 h2 h3 => by (show ¬ (_ ∧ _); omega)) (by rw [if_pos (show (j.toNat : Int) < j + 1 by omega)]; exact hz43) (fun v hv hn => by by_cases y : (v : Int) < j; (· rw [if_pos y, if_pos (by omega)]); (· rw [if_neg y, if_neg (by omega)]))
              have z0'45 := z0'.fr hf42 (by first | exact (fun h => h) | exact zT1 (by omega) | (show ¬ (_ ∨ _); omega) | (show ¬ (_ ∧ _); omega))
              have z1'46 := z1'.fr hf42 (by first | exact (fun h => h) | exact zT1 (by omega) | (show ¬ (_ ∨ _); omega) | (show ¬ (_ ∧ _); omega))
              have z2'47 := z2'.fr hf42 (by first | exact (fun h => h) | exact zT1 (by omega) | (show ¬ (_ ∨ _); omega) | (show ¬ (_ ∧ _); omega)) (by first | exact (fun h => h) | exact zT1 (by omega) | (show ¬ (_ ∨ _); omega) | (show ¬ (_ ∧ _); omega))
              have z3'48 := z3'.fr hf42 (by first | exact (fun h => h) | exact zT1 (by omega) | (show ¬ (_ ∨ _); omega) | (show ¬ (_ ∧ _); omega)) (by first | exact (fun h => h) | exact zT1 (by omega) | (show ¬ (_ ∨ _); omega) | (show ¬ (_ ∧ _); omega))
              refine z_iinc 1 [(1, .int (iI (j + 1))), (2, .ref (a (t + 6 + 16 * j.toNat))), (0, .ref (a t))] O dX2_clear_53 (by decide) rfl rfl ?_
              refine z_goto 34 O dX2_clear_56 (by decide) ?_
              refine z_locs [0, 2] rfl ?_
              exact ih (j + 1) H39 (by omega) (by omega) (((hf''.up (fun s h => by first | exact h.elim | omega | (simp at h ⊢; omega)))).tr (hf42.up (fun s h => by first | exact h.elim | omega | (simp at h ⊢; omega)))) z0'45 z1'46 z2'47 z3'48 hA44
        exact loop34 3 0 H' (by omega) (by omega) (hf'.up (fun s h => by first | exact h.elim | omega | (simp at h ⊢; omega))) y0' y1' y2' y3' (fun v hv => by dsimp only; rw [if_neg (by omega)]; exact y4' v hv)
      · exfalso; omega
    | succ d ih =>
      intro i H' hi0 hid hf' y0' y1' y2' y3' y4'
      refine z_iload_n 0 O dX2_clear_2 rfl ?_
      refine z_bipush 16 O dX2_clear_3 (by decide +kernel) ?_
      refine z_icmp_ge 32 O dX2_clear_5 (by decide) ⟨by omega, by omega⟩ ⟨by omega, by omega⟩ (fun c_5 => ?_) (fun c_5 => ?_)
      · exfalso; omega
      · skip
        refine z_aload_n 1 O dX2_clear_8 rfl ?_
        refine z_getf kF_X2_14 O dX2_clear_9 y0'.1 rfl ?_
        refine z_iload_n 0 O dX2_clear_12 rfl ?_
        refine z_iconst 0 O dX2_clear_13 (by decide +kernel) ?_
        obtain ⟨it49, hRo50⟩ := y2'.o
        refine z_Vvm [.int (iI i), .int (iI 0)] [] kM_X2_39 O dX2_clear_14 (c_X1_set hst y2' ⟨by omega, by omega⟩) rfl rfl hRo50.1 (by decide) (Nat.le_of_ble_eq_true rfl) (by omega) (by omega) (Nat.le_of_ble_eq_true rfl) zNx (fun H51 hp52 hz53 => ?_)
        obtain ⟨hf54, hr55⟩ := hp52
        have hR56 : zRow (zEn x) H51 r (t + 2) (a (t + 2)) 16 16 (zU (fun c => if c < i then 0 else G c) i 0) := by rw [show zRs 16 (fun c => if c < i then 0 else G c) i 0 = zU (fun c => if c < i then 0 else G c) i 0 from (by unfold zRs; exact if_pos ⟨by omega, by omega⟩)] at hr55; exact hr55
        have y0'57 := y0'.fr hf54 (by first | exact (fun h => h) | exact zT1 (by omega) | (show ¬ (_ ∨ _); omega) | (show ¬ (_ ∧ _); omega))
        have y1'58 := y1'.fr hf54 (by first | exact (fun h => h) | exact zT1 (by omega) | (show ¬ (_ ∨ _); omega) | (show ¬ (_ ∧ _); omega))
        have y3'59 := y3'.fr hf54 (by first | exact (fun h => h) | exact zT1 (by omega) | (show ¬ (_ ∨ _); omega) | (show ¬ (_ ∧ _); omega)) (by first | exact (fun h => h) | exact zT1 (by omega) | (show ¬ (_ ∨ _); omega) | (show ¬ (_ ∧ _); omega))
        have y4'60 := y4'.fr hf54 (fun s h1 h2 => by first | exact (fun h => h) | exact zT1 (by omega) | (show ¬ (_ ∨ _); omega) | (show ¬ (_ ∧ _); omega))
        refine z_aload_n 1 O dX2_clear_17 rfl ?_
        refine z_getf kF_X2_20 O dX2_clear_18 y0'57.1 rfl ?_
        refine z_iload_n 0 O dX2_clear_21 rfl ?_
        refine z_iconst (-1) O dX2_clear_22 (by decide +kernel) ?_
        obtain ⟨it61, hRo62⟩ := y3'59.o
        refine z_Vvm [.int (iI i), .int (iI (-1))] [] kM_X2_39 O dX2_clear_23 (c_X1_set hst y3'59 ⟨by omega, by omega⟩) rfl rfl hRo62.1 (by decide) (Nat.le_of_ble_eq_true rfl) (by omega) (by omega) (Nat.le_of_ble_eq_true rfl) zNx (fun H63 hp64 hz65 => ?_)
        obtain ⟨hf66, hr67⟩ := hp64
        have hR68 : zRow (zEn x) H63 r (t + 4) (a (t + 4)) 16 16 (zU (fun c => if c < i then -1 else G (16 + c) - 1) i (-1)) := by rw [show zRs 16 (fun c => if c < i then -1 else G (16 + c) - 1) i (-1) = zU (fun c => if c < i then -1 else G (16 + c) - 1) i (-1) from (by unfold zRs; exact if_pos ⟨by omega, by omega⟩)] at hr67; exact hr67
        have y0'69 := y0'57.fr hf66 (by first | exact (fun h => h) | exact zT1 (by omega) | (show ¬ (_ ∨ _); omega) | (show ¬ (_ ∧ _); omega))
        have y1'70 := y1'58.fr hf66 (by first | exact (fun h => h) | exact zT1 (by omega) | (show ¬ (_ ∨ _); omega) | (show ¬ (_ ∧ _); omega))
        have hR71 := hR56.fr hf66 (by first | exact (fun h => h) | exact zT1 (by omega) | (show ¬ (_ ∨ _); omega) | (show ¬ (_ ∧ _); omega)) (by first | exact (fun h => h) | exact zT1 (by omega) | (show ¬ (_ ∨ _); omega) | (show ¬ (_ ∧ _); omega))
        have y4'72 := y4'60.fr hf66 (fun s h1 h2 => by first | exact (fun h => h) | exact zT1 (by omega) | (show ¬ (_ ∨ _); omega) | (show ¬ (_ ∧ _); omega))
        refine z_iinc 0 [(1, .int (iI (i + 1))), (0, .ref (a t))] O dX2_clear_26 (by decide) rfl rfl ?_
        refine z_goto 2 O dX2_clear_29 (by decide) ?_
        have hV9 : zRow (zEn x) H63 r (t + 2) (a (t + 2)) 16 16 (fun c => if c < i + 1 then 0 else G c) := hR71.to (fun c c0 c1 => by unfold zU; by_cases z : c = i; (· rw [if_pos z, if_pos (by omega)]); (· rw [if_neg z]; by_cases y : c < i; (· rw [if_pos (by omega)]; exact if_pos y); (· rw [if_neg (by omega)]; exact if_neg y)))
        have hL9 : zRow (zEn x) H63 r (t + 4) (a (t + 4)) 16 16 (fun c => if c < i + 1 then -1 else G (16 + c) - 1) := hR68.to (fun c c0 c1 => by unfold zU; by_cases z : c = i; (· rw [if_pos z, if_pos (by omega)]); (· rw [if_neg z]; by_cases y : c < i; (· rw [if_pos (by omega)]; exact if_pos y); (· rw [if_neg (by omega)]; exact if_neg y)))
        exact ih (i + 1) H63 (by omega) (by omega) (((((hf'.up (fun s h => by first | exact h.elim | omega | (simp at h ⊢; omega)))).tr (hf54.up (fun s h => by first | exact h.elim | omega | (simp at h ⊢; omega))))).tr (hf66.up (fun s h => by first | exact h.elim | omega | (simp at h ⊢; omega)))) y0'69 y1'70 hV9 hL9 y4'72
  exact loop2 16 0 H (by omega) (by omega) zFr.rf sO sQ (sV.to (fun c c0 c1 => (if_neg (by omega)).symm)) (sL.to (fun c c0 c1 => (if_neg (by omega)).symm)) sWs

