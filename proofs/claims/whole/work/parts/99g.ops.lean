/-! the law: call by call (written by program: wip/whole/gen/class31.py) -/
theorem zC.szi {E : zE} {y : MethodName} {cc : ByteArray} {nL : Nat} {ret : Option FieldType} {F L : Nat} {av : List Value} {H : Heap} {mc ms : Nat} {r : Int} {P : Heap → Prop} {px : String → Heap → Prop} (h : zC E y cc nL ret F L av H mc ms (zRi r P) px) : zC E y cc nL ret F L av H mc ms (zRi r (fun H1 => P H1 ∧ H1.size ≤ H.size + mc ∧ zSz H1 ≤ zSz H + ms)) px := h.sz.to (fun v H1 hh => ⟨hh.1.1, hh.1.2, hh.2⟩) (fun _ _ hh => hh)
/-- the law's state -/
def zLs (E : zE) (H : Heap) (r : zH) (a : Nat → Nat) (oa q : Nat) (Q : Nat → Nat) (qo : Nat) (n : Int) (tx G : Int → Int) (fi ac : Int) (dd : Nat → Int → Int) (kp ik : Int → Int) (N : Int) : Prop :=
  a 1200 = oa ∧ zCm E H r a n tx G fi ac dd kp ik ∧ (∃ rf, zMs E H r q Q n tx G fi ac dd kp ik rf) ∧ (∃ v, zLA E H r 1300 qo v) ∧ cOK n tx G fi ac dd kp ik N
abbrev zLv (bs oa q qo : Nat) (jx : Int) : List (Nat × Value) := [(4, .int (iI jx)), (0, .ref bs), (1, .ref oa), (2, .ref q), (3, .ref qo)]
theorem kM_L_100 : zMSW RL 100 yL_append cL_append 4 (some .int) [(0, 9, 12, 13), (0, 9, 15, 15)] 3 := ⟨(List.mem_of_getElem? (i := 37) (by decide +kernel)), (List.mem_of_getElem? (i := 370) (by decide +kernel)), by decide +kernel, by decide +kernel, by decide +kernel, (List.mem_of_getElem? (i := 368) (by decide +kernel)), (List.mem_of_getElem? (i := 369) (by decide +kernel))⟩
theorem kM_L_105 : zMV RL 105 yX6_append cX6_append 2 (some .int) 1 6 := ⟨⟨(List.mem_of_getElem? (i := 47) (by decide +kernel)), (List.mem_of_getElem? (i := 980) (by decide +kernel)), by decide +kernel, by decide +kernel, by decide +kernel⟩, (List.mem_of_getElem? (i := 977) (by decide +kernel)), (List.mem_of_getElem? (i := 978) (by decide +kernel)), (List.mem_of_getElem? (i := 979) (by decide +kernel)), ⟨_, rfl, rfl⟩⟩
theorem kM_L_106 : zMV RL 106 yX6_thrown cX6_thrown 1 (some .int) 0 6 := ⟨⟨(List.mem_of_getElem? (i := 47) (by decide +kernel)), (List.mem_of_getElem? (i := 976) (by decide +kernel)), by decide +kernel, by decide +kernel, by decide +kernel⟩, (List.mem_of_getElem? (i := 973) (by decide +kernel)), (List.mem_of_getElem? (i := 974) (by decide +kernel)), (List.mem_of_getElem? (i := 975) (by decide +kernel)), ⟨_, rfl, rfl⟩⟩
theorem op_append {x : zX} {bs Ls : Nat} {xs : Nat → Int32} {H : Heap} {r : zH} {a : Nat → Nat} {oa q : Nat} {Q : Nat → Nat} {qo : Nat} {n : Int} {tx G : Int → Int} {fi ac : Int} {dd : Nat → Int → Int} {kp ik : Int → Int} {N jx : Int} {aa bb : Nat} (hst : (zEn x).1.stackTraces = false) (O : zOk x RL cL_law 7 (some .boolean) "law" 12 478 601024 7293034) (hS : zScr x bs Ls xs) (Z : zLs (zEn x) H r a oa q Q qo n tx G fi ac dd kp ik N) (hN : 20 ≤ N ∧ N ≤ 538) (hj : 0 ≤ jx ∧ jx + 4 ≤ Ls ∧ Ls ≤ 2048) (h1 : aa + 13566 ≤ 601024) (h2 : bb + 277336 ≤ 7293034)
    (K : ∀ (H1 : Heap) (r1 : zH) (a1 : Nat → Nat) (n : Int) (tx G : Int → Int) (fi ac : Int) (dd : Nat → Int → Int) (kp ik : Int → Int), zLs (zEn x) H1 r1 a1 oa q Q qo n tx G fi ac dd kp ik (N + 1) → H1.size + zPs r ≤ H.size + zPs r1 + 70 → zSz H1 + 20 * zPs r ≤ zSz H + 20 * zPs r1 + 6700 → ∀ a9 b9 : Nat, zG x H1 a9 b9 1818 (zLv bs oa q qo jx) []) : zG x H aa bb 160 (zLv bs oa q qo jx) [] := by
  obtain ⟨hoa, hcm, ⟨rf, hM⟩, ⟨u0, hLA⟩, hOK⟩ := Z
  subst hoa
  refine z_aload_n 2 O dL_law_160 rfl ?_
  refine z_aload_n 1 O dL_law_161 rfl ?_
  refine z_iload 0 O dL_law_162 rfl ?_
  refine z_iconst 1 O dL_law_164 (by decide +kernel) ?_
  refine z_iadd O dL_law_165 ?_
  refine z_sld hS ⟨by omega, by omega⟩ (by omega) (by omega) O dL_law_166 ?_
  refine z_aload_n 4 O dL_law_167 rfl ?_
  have hzc : zR (cApp n (sv xs (jx + 1))) := by unfold cApp; (repeat' split) <;> exact ⟨by omega, by omega⟩
  refine z_callH [.ref (a 1200), .int (iI (sv xs (jx + 1))), .ref qo] [] kM_L_100 O dL_law_168 (c_L_append hst hcm hOK (sv_R _ _) hLA) rfl rfl (by decide) (Nat.le_of_ble_eq_true rfl) (by omega) (by omega) (Nat.le_of_ble_eq_true rfl) (fun v9 H1 hp hz => ?_)
  obtain ⟨rfl, hw⟩ := hp
  refine z_istore [(5, .int (iI (cApp n (sv xs (jx + 1))))), (4, .int (iI (jx))), (0, .ref bs), (1, .ref (a 1200)), (2, .ref q), (3, .ref qo)] O dL_law_171 (by decide) rfl ?_
  by_cases hc : cApp n (sv xs (jx + 1)) = 0
  · obtain ⟨_, r1, a1, ha1, hfr, hgv, hcm1, hLA1⟩ := hw.resolve_right (fun z => z.1 hc)
    have hM1 := hM.fr hfr (fun s h => by show ¬ (_ ≤ _); omega)
    obtain ⟨_, _, _, _, _, hMo, _⟩ := id hM1
    refine z_aload_n 4 O dL_law_173 rfl ?_
    refine z_aload_n 2 O dL_law_174 rfl ?_
    refine z_iload 1 O dL_law_175 rfl ?_
    refine z_iconst 1 O dL_law_177 (by decide +kernel) ?_
    refine z_iadd O dL_law_178 ?_
    refine z_sld hS ⟨by omega, by omega⟩ (by omega) (by omega) O dL_law_179 ?_
    refine z_Vim [.int (iI (sv xs (jx + 1)))] [] kM_L_105 O dL_law_180 (c_X6_append hst hM1 hOK.1 (sv_R _ _)).szi rfl rfl hMo.1 (by decide) (Nat.le_of_ble_eq_true rfl) (by omega) (by omega) (Nat.le_of_ble_eq_true rfl) zNx (fun H2 hp2 hz2 => ?_)
    obtain ⟨⟨hf2, hc2⟩, hs1, hs2⟩ := hp2
    rw [if_pos hc]
    obtain ⟨_, hM2⟩ := hc2.resolve_left (fun z => z.1 hc)
    obtain ⟨_, _, _, _, _, hMo2, _⟩ := id hM2
    have hLA2 := hLA1.fr hf2 (by show ¬ (_ ≤ _); omega)
    refine z_istore [(6, .int (iI ((n + 1)))), (5, .int (iI (cApp n (sv xs (jx + 1))))), (4, .int (iI (jx))), (0, .ref bs), (1, .ref (a 1200)), (2, .ref q), (3, .ref qo)] O dL_law_183 (by decide) rfl ?_
    refine z_aload_n 5 O dL_law_185 rfl ?_
    refine z_Vi [] [] kM_L_106 O dL_law_186 (c_X6_thrown hst hMo2) rfl rfl hMo2.1 (by decide) (Nat.le_of_ble_eq_true rfl) (by omega) (by omega) (Nat.le_of_ble_eq_true rfl) zNx ?_
    refine z_iload 1 O dL_law_189 rfl ?_
    refine z_icmp_eq 196 O dL_law_191 (by decide) ⟨by omega, by omega⟩ hzc (fun _ => ?_) (fun h => absurd hc.symm h)
    refine z_iload 1 O dL_law_196 rfl ?_
    refine z_if_ne 213 O dL_law_198 (by decide) hzc (fun h => absurd hc h) (fun _ => ?_)
    refine z_aload_n 6 O dL_law_201 rfl ?_
    refine z_iconst 0 O dL_law_202 (by decide +kernel) ?_
    refine z_lald O dL_law_203 hLA2.1 ?_
    refine z_iload 0 O dL_law_204 rfl ?_
    refine z_i2lRh O.h dL_law_206 ?_
    refine z_lcmpS O dL_law_207 ?_
    refine z_if_eq 213 O dL_law_208 (by decide) ⟨by omega, by omega⟩ (fun _ => ?_) (fun h => absurd rfl h)
    refine z_goto 1818 O dL_law_213 (by decide) ?_
    refine z_locs [2, 3, 4, 5, 6] rfl ?_
    exact K H2 r1 a1 (n + 1) (zU tx n (sv xs (jx + 1))) G fi ac dd kp ik ⟨ha1, hcm1.fr hf2 (fun s h => by show ¬ (_ ≤ _); omega), ⟨_, hM2⟩, ⟨_, hLA2⟩, kp_append hOK hN.2 hc⟩ (by unfold zGv at hgv; omega) (by unfold zGv at hgv; omega) _ _
  · obtain ⟨_, hx⟩ := hw.resolve_left (fun z => hc z.1)
    have hfr : zFr H r H1 r (fun _ => False) := hx.1.frr
    have hcm1 := hcm.fr hfr (fun _ _ h => h)
    have hM1 := hM.fr hfr (fun _ _ h => h)
    have hLA1 := hLA.fr hfr (fun h => h)
    obtain ⟨_, _, _, _, _, hMo, _⟩ := id hM1
    refine z_aload_n 4 O dL_law_173 rfl ?_
    refine z_aload_n 2 O dL_law_174 rfl ?_
    refine z_iload 1 O dL_law_175 rfl ?_
    refine z_iconst 1 O dL_law_177 (by decide +kernel) ?_
    refine z_iadd O dL_law_178 ?_
    refine z_sld hS ⟨by omega, by omega⟩ (by omega) (by omega) O dL_law_179 ?_
    refine z_Vim [.int (iI (sv xs (jx + 1)))] [] kM_L_105 O dL_law_180 (c_X6_append hst hM1 hOK.1 (sv_R _ _)).szi rfl rfl hMo.1 (by decide) (Nat.le_of_ble_eq_true rfl) (by omega) (by omega) (Nat.le_of_ble_eq_true rfl) zNx (fun H2 hp2 hz2 => ?_)
    obtain ⟨⟨hf2, hc2⟩, hs1, hs2⟩ := hp2
    rw [if_neg hc]
    obtain ⟨_, hM2⟩ := hc2.resolve_right (fun z => hc z.1)
    obtain ⟨_, _, _, _, _, hMo2, _⟩ := id hM2
    have hLA2 := hLA1.fr hf2 (by show ¬ (_ ≤ _); omega)
    refine z_istore [(6, .int (iI (0))), (5, .int (iI (cApp n (sv xs (jx + 1))))), (4, .int (iI (jx))), (0, .ref bs), (1, .ref (a 1200)), (2, .ref q), (3, .ref qo)] O dL_law_183 (by decide) rfl ?_
    refine z_aload_n 5 O dL_law_185 rfl ?_
    refine z_Vi [] [] kM_L_106 O dL_law_186 (c_X6_thrown hst hMo2) rfl rfl hMo2.1 (by decide) (Nat.le_of_ble_eq_true rfl) (by omega) (by omega) (Nat.le_of_ble_eq_true rfl) zNx ?_
    refine z_iload 1 O dL_law_189 rfl ?_
    refine z_icmp_eq 196 O dL_law_191 (by decide) hzc hzc (fun _ => ?_) (fun h => absurd rfl h)
    refine z_iload 1 O dL_law_196 rfl ?_
    refine z_if_ne 213 O dL_law_198 (by decide) hzc (fun _ => ?_) (fun h => absurd h hc)
    refine z_goto 1818 O dL_law_213 (by decide) ?_
    refine z_locs [2, 3, 4, 5, 6] rfl ?_
    exact K H2 r a n tx G fi ac dd kp ik ⟨rfl, hcm1.fr hf2 (fun s h => by show ¬ (_ ≤ _); omega), ⟨_, hM2⟩, ⟨_, hLA2⟩, hOK.keep hN.2⟩ (by have := hx.2.1; omega) (by have := hx.2.2; omega) _ _
theorem kM_L_109 : zMV RL 109 yX5_clearText cX5_clearText 2 (some .int) 0 5 := ⟨⟨(List.mem_of_getElem? (i := 38) (by decide +kernel)), (List.mem_of_getElem? (i := 271) (by decide +kernel)), by decide +kernel, by decide +kernel, by decide +kernel⟩, (List.mem_of_getElem? (i := 268) (by decide +kernel)), (List.mem_of_getElem? (i := 269) (by decide +kernel)), (List.mem_of_getElem? (i := 270) (by decide +kernel)), ⟨_, rfl, rfl⟩⟩
theorem kM_L_112 : zMV RL 112 yX6_clearText cX6_clearText 2 (some .int) 0 6 := ⟨⟨(List.mem_of_getElem? (i := 47) (by decide +kernel)), (List.mem_of_getElem? (i := 992) (by decide +kernel)), by decide +kernel, by decide +kernel, by decide +kernel⟩, (List.mem_of_getElem? (i := 989) (by decide +kernel)), (List.mem_of_getElem? (i := 990) (by decide +kernel)), (List.mem_of_getElem? (i := 991) (by decide +kernel)), ⟨_, rfl, rfl⟩⟩
theorem op_clearText {x : zX} {bs Ls : Nat} {xs : Nat → Int32} {H : Heap} {r : zH} {a : Nat → Nat} {oa q : Nat} {Q : Nat → Nat} {qo : Nat} {n : Int} {tx G : Int → Int} {fi ac : Int} {dd : Nat → Int → Int} {kp ik : Int → Int} {N jx : Int} {aa bb : Nat} (hst : (zEn x).1.stackTraces = false) (O : zOk x RL cL_law 7 (some .boolean) "law" 12 478 601024 7293034) (hS : zScr x bs Ls xs) (Z : zLs (zEn x) H r a oa q Q qo n tx G fi ac dd kp ik N) (hN : 20 ≤ N ∧ N ≤ 538) (hj : 0 ≤ jx ∧ jx + 4 ≤ Ls ∧ Ls ≤ 2048) (h1 : aa + 13566 ≤ 601024) (h2 : bb + 277336 ≤ 7293034)
    (K : ∀ (H1 : Heap) (r1 : zH) (a1 : Nat → Nat) (n : Int) (tx G : Int → Int) (fi ac : Int) (dd : Nat → Int → Int) (kp ik : Int → Int), zLs (zEn x) H1 r1 a1 oa q Q qo n tx G fi ac dd kp ik (N + 1) → H1.size + zPs r ≤ H.size + zPs r1 + 70 → zSz H1 + 20 * zPs r ≤ zSz H + 20 * zPs r1 + 6700 → ∀ a9 b9 : Nat, zG x H1 a9 b9 1818 (zLv bs oa q qo jx) []) : zG x H aa bb 216 (zLv bs oa q qo jx) [] := by
  obtain ⟨hoa, hcm, ⟨rf, hM⟩, hL0, hOK⟩ := Z
  subst hoa
  obtain ⟨_, _, _, _, _, ⟨fO, fT, _⟩, _⟩ := id hcm
  obtain ⟨⟨hn, hx, _⟩, _, _⟩ := id hOK
  refine z_aload_n 2 O dL_law_216 rfl ?_
  refine z_Vim [] [] kM_L_109 O dL_law_217 (c_X5_clearText hst hcm hOK).szi rfl rfl fO.1 (by decide) (Nat.le_of_ble_eq_true rfl) (by omega) (by omega) (Nat.le_of_ble_eq_true rfl) zNx (fun H1 hp hz => ?_)
  obtain ⟨⟨_, r1, a1, ha1, hfr, hgv, hcm1⟩, hs1, hs2⟩ := hp
  have hM1 := hM.fr hfr (fun s h => by show ¬ (_ < _); omega)
  obtain ⟨u0, hLA⟩ := hL0
  have hLA1 := hLA.fr hfr (by show ¬ (_ < _); omega)
  obtain ⟨_, _, _, _, _, hMo, _⟩ := id hM1
  refine z_aload_n 3 O dL_law_220 rfl ?_
  refine z_Vim [] [.int (iI n)] kM_L_112 O dL_law_221 (c_X6_clearText hst hM1 hOK.1).szi rfl rfl hMo.1 (by decide) (Nat.le_of_ble_eq_true rfl) (by omega) (by omega) (Nat.le_of_ble_eq_true rfl) zNx (fun H2 hp2 hz2 => ?_)
  obtain ⟨⟨hf2, hc2⟩, hs3, hs4⟩ := hp2
  rw [if_pos (show cNo = 0 from rfl)]
  obtain ⟨_, hM2⟩ := hc2.resolve_left (fun z => z.1 rfl)
  have hLA2 := hLA1.fr hf2 (by show ¬ (_ ≤ _); omega)
  refine z_icmp_eq 1818 O dL_law_224 (by decide) ⟨by omega, by omega⟩ ⟨by omega, by omega⟩ (fun _ => ?_) (fun h => absurd rfl h)
  exact K H2 r1 a1 0 tx G fi ac dd kp ik ⟨ha1, hcm1.fr hf2 (fun s h => by show ¬ (_ ≤ _); omega), ⟨_, hM2⟩, ⟨_, hLA2⟩, kp_clearText hOK hN.2⟩ (by unfold zGv at hgv; omega) (by unfold zGv at hgv; omega) _ _
theorem kM_L_113 : zMV RL 113 yX5_errorPosition cX5_errorPosition 4 (some .int) 0 5 := ⟨⟨(List.mem_of_getElem? (i := 38) (by decide +kernel)), (List.mem_of_getElem? (i := 279) (by decide +kernel)), by decide +kernel, by decide +kernel, by decide +kernel⟩, (List.mem_of_getElem? (i := 276) (by decide +kernel)), (List.mem_of_getElem? (i := 277) (by decide +kernel)), (List.mem_of_getElem? (i := 278) (by decide +kernel)), ⟨_, rfl, rfl⟩⟩
theorem kM_L_116 : zMV RL 116 yX6_errorPosition cX6_errorPosition 1 (some .int) 0 6 := ⟨⟨(List.mem_of_getElem? (i := 47) (by decide +kernel)), (List.mem_of_getElem? (i := 996) (by decide +kernel)), by decide +kernel, by decide +kernel, by decide +kernel⟩, (List.mem_of_getElem? (i := 993) (by decide +kernel)), (List.mem_of_getElem? (i := 994) (by decide +kernel)), (List.mem_of_getElem? (i := 995) (by decide +kernel)), ⟨_, rfl, rfl⟩⟩
theorem op_errorPosition {x : zX} {bs Ls : Nat} {xs : Nat → Int32} {H : Heap} {r : zH} {a : Nat → Nat} {oa q : Nat} {Q : Nat → Nat} {qo : Nat} {n : Int} {tx G : Int → Int} {fi ac : Int} {dd : Nat → Int → Int} {kp ik : Int → Int} {N jx : Int} {aa bb : Nat} (hst : (zEn x).1.stackTraces = false) (O : zOk x RL cL_law 7 (some .boolean) "law" 12 478 601024 7293034) (hS : zScr x bs Ls xs) (Z : zLs (zEn x) H r a oa q Q qo n tx G fi ac dd kp ik N) (hN : 20 ≤ N ∧ N ≤ 538) (hj : 0 ≤ jx ∧ jx + 4 ≤ Ls ∧ Ls ≤ 2048) (h1 : aa + 13566 ≤ 601024) (h2 : bb + 277336 ≤ 7293034)
    (K : ∀ (H1 : Heap) (r1 : zH) (a1 : Nat → Nat) (n : Int) (tx G : Int → Int) (fi ac : Int) (dd : Nat → Int → Int) (kp ik : Int → Int), zLs (zEn x) H1 r1 a1 oa q Q qo n tx G fi ac dd kp ik (N + 1) → H1.size + zPs r ≤ H.size + zPs r1 + 70 → zSz H1 + 20 * zPs r ≤ zSz H + 20 * zPs r1 + 6700 → ∀ a9 b9 : Nat, zG x H1 a9 b9 1818 (zLv bs oa q qo jx) []) : zG x H aa bb 229 (zLv bs oa q qo jx) [] := by
  obtain ⟨hoa, hcm, ⟨rf, hM⟩, hL0, hOK⟩ := Z
  subst hoa
  obtain ⟨_, _, _, _, _, ⟨fO, fT, _⟩, _⟩ := id hcm
  obtain ⟨⟨hn, hx, _⟩, _, _⟩ := id hOK
  refine z_aload_n 2 O dL_law_229 rfl ?_
  have htp := tPos_R (n := n) (tx := tx) hn.1
  refine z_Vi [] [] kM_L_113 O dL_law_230 (c_X5_errorPosition hst fO fT hx hn) rfl rfl fO.1 (by decide) (Nat.le_of_ble_eq_true rfl) (by omega) (by omega) (Nat.le_of_ble_eq_true rfl) zNx ?_
  have hM1 := hM
  have hcm1 := hcm
  obtain ⟨u0, hLA1⟩ := hL0
  obtain ⟨_, _, _, _, _, hMo, _⟩ := id hM1
  refine z_aload_n 3 O dL_law_233 rfl ?_
  refine z_Vim [] [.int (iI (tPos n tx))] kM_L_116 O dL_law_234 (c_X6_errorPosition hst hM1 hOK.1).szi rfl rfl hMo.1 (by decide) (Nat.le_of_ble_eq_true rfl) (by omega) (by omega) (Nat.le_of_ble_eq_true rfl) zNx (fun H2 hp2 hz2 => ?_)
  obtain ⟨⟨hf2, hc2⟩, hs3, hs4⟩ := hp2
  rw [if_pos (show cNo = 0 from rfl)]
  obtain ⟨_, hM2⟩ := hc2.resolve_left (fun z => z.1 rfl)
  have hLA2 := hLA1.fr hf2 (by show ¬ (_ ≤ _); omega)
  refine z_icmp_eq 1818 O dL_law_237 (by decide) ⟨by omega, by omega⟩ ⟨by omega, by omega⟩ (fun _ => ?_) (fun h => absurd rfl h)
  exact K H2 r a n tx G fi ac dd kp ik ⟨rfl, hcm1.fr hf2 (fun s h => by show ¬ (_ ≤ _); omega), ⟨_, hM2⟩, ⟨_, hLA2⟩, hOK.keep hN.2⟩ (by omega) (by omega) _ _
theorem kM_L_117 : zMSW RL 117 yL_load cL_load 3 (some .int) [(0, 8, 11, 15)] 2 := ⟨(List.mem_of_getElem? (i := 37) (by decide +kernel)), (List.mem_of_getElem? (i := 463) (by decide +kernel)), by decide +kernel, by decide +kernel, by decide +kernel, (List.mem_of_getElem? (i := 461) (by decide +kernel)), (List.mem_of_getElem? (i := 462) (by decide +kernel))⟩
theorem kM_L_120 : zMV RL 120 yX6_load cX6_load 1 (some .int) 0 6 := ⟨⟨(List.mem_of_getElem? (i := 47) (by decide +kernel)), (List.mem_of_getElem? (i := 1118) (by decide +kernel)), by decide +kernel, by decide +kernel, by decide +kernel⟩, (List.mem_of_getElem? (i := 1115) (by decide +kernel)), (List.mem_of_getElem? (i := 1116) (by decide +kernel)), (List.mem_of_getElem? (i := 1117) (by decide +kernel)), ⟨_, rfl, rfl⟩⟩
theorem op_load {x : zX} {bs Ls : Nat} {xs : Nat → Int32} {H : Heap} {r : zH} {a : Nat → Nat} {oa q : Nat} {Q : Nat → Nat} {qo : Nat} {n : Int} {tx G : Int → Int} {fi ac : Int} {dd : Nat → Int → Int} {kp ik : Int → Int} {N jx : Int} {aa bb : Nat} (hst : (zEn x).1.stackTraces = false) (O : zOk x RL cL_law 7 (some .boolean) "law" 12 478 601024 7293034) (hS : zScr x bs Ls xs) (Z : zLs (zEn x) H r a oa q Q qo n tx G fi ac dd kp ik N) (hN : 20 ≤ N ∧ N ≤ 538) (hj : 0 ≤ jx ∧ jx + 4 ≤ Ls ∧ Ls ≤ 2048) (h1 : aa + 13566 ≤ 601024) (h2 : bb + 277336 ≤ 7293034)
    (K : ∀ (H1 : Heap) (r1 : zH) (a1 : Nat → Nat) (n : Int) (tx G : Int → Int) (fi ac : Int) (dd : Nat → Int → Int) (kp ik : Int → Int), zLs (zEn x) H1 r1 a1 oa q Q qo n tx G fi ac dd kp ik (N + 1) → H1.size + zPs r ≤ H.size + zPs r1 + 70 → zSz H1 + 20 * zPs r ≤ zSz H + 20 * zPs r1 + 6700 → ∀ a9 b9 : Nat, zG x H1 a9 b9 1818 (zLv bs oa q qo jx) []) : zG x H aa bb 242 (zLv bs oa q qo jx) [] := by
  obtain ⟨hoa, hcm, ⟨rf, hM⟩, ⟨u0, hLA⟩, hOK⟩ := Z
  subst hoa
  refine z_aload_n 2 O dL_law_242 rfl ?_
  refine z_aload_n 4 O dL_law_243 rfl ?_
  have hzc : zR (cLd n tx) := by unfold cLd; (repeat' split) <;> exact ⟨by omega, by omega⟩
  refine z_callH [.ref (a 1200), .ref qo] [] kM_L_117 O dL_law_244 (c_L_load hst hcm hOK  hLA) rfl rfl (by decide) (Nat.le_of_ble_eq_true rfl) (by omega) (by omega) (Nat.le_of_ble_eq_true rfl) (fun v9 H1 hp hz => ?_)
  obtain ⟨rfl, hw⟩ := hp
  refine z_istore [(5, .int (iI (cLd n tx))), (4, .int (iI (jx))), (0, .ref bs), (1, .ref (a 1200)), (2, .ref q), (3, .ref qo)] O dL_law_247 (by decide) rfl ?_
  by_cases hc : cLd n tx = 0
  · obtain ⟨_, r1, a1, ha1, hfr, hgv, hcm1, hLA1⟩ := hw.resolve_right (fun z => z.1 hc)
    have hM1 := hM.fr hfr (fun s h => by show ¬ (_ ≤ _); omega)
    obtain ⟨_, _, _, _, _, hMo, _⟩ := id hM1
    refine z_aload_n 4 O dL_law_249 rfl ?_
    refine z_Vim [] [] kM_L_120 O dL_law_250 (c_X6_load hst hM1 hOK.1 ).szi rfl rfl hMo.1 (by decide) (Nat.le_of_ble_eq_true rfl) (by omega) (by omega) (Nat.le_of_ble_eq_true rfl) zNx (fun H2 hp2 hz2 => ?_)
    obtain ⟨⟨hf2, hc2⟩, hs1, hs2⟩ := hp2
    rw [if_pos hc]
    obtain ⟨_, hM2⟩ := hc2.resolve_left (fun z => z.1 hc)
    obtain ⟨_, _, _, _, _, hMo2, _⟩ := id hM2
    have hLA2 := hLA1.fr hf2 (by show ¬ (_ ≤ _); omega)
    refine z_istore [(6, .int (iI ((tAll n tx).2.1))), (5, .int (iI (cLd n tx))), (4, .int (iI (jx))), (0, .ref bs), (1, .ref (a 1200)), (2, .ref q), (3, .ref qo)] O dL_law_253 (by decide) rfl ?_
    refine z_aload_n 5 O dL_law_255 rfl ?_
    refine z_Vi [] [] kM_L_106 O dL_law_256 (c_X6_thrown hst hMo2) rfl rfl hMo2.1 (by decide) (Nat.le_of_ble_eq_true rfl) (by omega) (by omega) (Nat.le_of_ble_eq_true rfl) zNx ?_
    refine z_iload 1 O dL_law_259 rfl ?_
    refine z_icmp_eq 266 O dL_law_261 (by decide) ⟨by omega, by omega⟩ hzc (fun _ => ?_) (fun h => absurd hc.symm h)
    refine z_iload 1 O dL_law_266 rfl ?_
    refine z_if_ne 283 O dL_law_268 (by decide) hzc (fun h => absurd hc h) (fun _ => ?_)
    refine z_aload_n 6 O dL_law_271 rfl ?_
    refine z_iconst 0 O dL_law_272 (by decide +kernel) ?_
    refine z_lald O dL_law_273 hLA2.1 ?_
    refine z_iload 0 O dL_law_274 rfl ?_
    refine z_i2lRh O.h dL_law_276 ?_
    refine z_lcmpS O dL_law_277 ?_
    refine z_if_eq 283 O dL_law_278 (by decide) ⟨by omega, by omega⟩ (fun _ => ?_) (fun h => absurd rfl h)
    refine z_goto 1818 O dL_law_283 (by decide) ?_
    refine z_locs [2, 3, 4, 5, 6] rfl ?_
    exact K H2 r1 a1 n tx (tAll n tx).2.2 fi 0 dd kp (fun _ => 0) ⟨ha1, hcm1.fr hf2 (fun s h => by show ¬ (_ ≤ _); omega), ⟨_, hM2⟩, ⟨_, hLA2⟩, kp_load hOK hN.2 hN.1 hc⟩ (by unfold zGv at hgv; omega) (by unfold zGv at hgv; omega) _ _
  · obtain ⟨_, hx⟩ := hw.resolve_left (fun z => hc z.1)
    have hfr : zFr H r H1 r (fun _ => False) := hx.1.frr
    have hcm1 := hcm.fr hfr (fun _ _ h => h)
    have hM1 := hM.fr hfr (fun _ _ h => h)
    have hLA1 := hLA.fr hfr (fun h => h)
    obtain ⟨_, _, _, _, _, hMo, _⟩ := id hM1
    refine z_aload_n 4 O dL_law_249 rfl ?_
    refine z_Vim [] [] kM_L_120 O dL_law_250 (c_X6_load hst hM1 hOK.1 ).szi rfl rfl hMo.1 (by decide) (Nat.le_of_ble_eq_true rfl) (by omega) (by omega) (Nat.le_of_ble_eq_true rfl) zNx (fun H2 hp2 hz2 => ?_)
    obtain ⟨⟨hf2, hc2⟩, hs1, hs2⟩ := hp2
    rw [if_neg hc]
    obtain ⟨_, hM2⟩ := hc2.resolve_right (fun z => hc z.1)
    obtain ⟨_, _, _, _, _, hMo2, _⟩ := id hM2
    have hLA2 := hLA1.fr hf2 (by show ¬ (_ ≤ _); omega)
    refine z_istore [(6, .int (iI (0))), (5, .int (iI (cLd n tx))), (4, .int (iI (jx))), (0, .ref bs), (1, .ref (a 1200)), (2, .ref q), (3, .ref qo)] O dL_law_253 (by decide) rfl ?_
    refine z_aload_n 5 O dL_law_255 rfl ?_
    refine z_Vi [] [] kM_L_106 O dL_law_256 (c_X6_thrown hst hMo2) rfl rfl hMo2.1 (by decide) (Nat.le_of_ble_eq_true rfl) (by omega) (by omega) (Nat.le_of_ble_eq_true rfl) zNx ?_
    refine z_iload 1 O dL_law_259 rfl ?_
    refine z_icmp_eq 266 O dL_law_261 (by decide) hzc hzc (fun _ => ?_) (fun h => absurd rfl h)
    refine z_iload 1 O dL_law_266 rfl ?_
    refine z_if_ne 283 O dL_law_268 (by decide) hzc (fun _ => ?_) (fun h => absurd h hc)
    refine z_goto 1818 O dL_law_283 (by decide) ?_
    refine z_locs [2, 3, 4, 5, 6] rfl ?_
    exact K H2 r a n tx G fi ac dd kp ik ⟨rfl, hcm1.fr hf2 (fun s h => by show ¬ (_ ≤ _); omega), ⟨_, hM2⟩, ⟨_, hLA2⟩, hOK.keep hN.2⟩ (by have := hx.2.1; omega) (by have := hx.2.2; omega) _ _
theorem kM_L_121 : zMSW RL 121 yL_about cL_about 4 (some .int) [(0, 9, 12, 13)] 3 := ⟨(List.mem_of_getElem? (i := 37) (by decide +kernel)), (List.mem_of_getElem? (i := 613) (by decide +kernel)), by decide +kernel, by decide +kernel, by decide +kernel, (List.mem_of_getElem? (i := 611) (by decide +kernel)), (List.mem_of_getElem? (i := 612) (by decide +kernel))⟩
theorem kM_L_123 : zMV RL 123 yX6_about cX6_about 2 (some .int) 1 6 := ⟨⟨(List.mem_of_getElem? (i := 47) (by decide +kernel)), (List.mem_of_getElem? (i := 1125) (by decide +kernel)), by decide +kernel, by decide +kernel, by decide +kernel⟩, (List.mem_of_getElem? (i := 1122) (by decide +kernel)), (List.mem_of_getElem? (i := 1123) (by decide +kernel)), (List.mem_of_getElem? (i := 1124) (by decide +kernel)), ⟨_, rfl, rfl⟩⟩
theorem op_about {x : zX} {bs Ls : Nat} {xs : Nat → Int32} {H : Heap} {r : zH} {a : Nat → Nat} {oa q : Nat} {Q : Nat → Nat} {qo : Nat} {n : Int} {tx G : Int → Int} {fi ac : Int} {dd : Nat → Int → Int} {kp ik : Int → Int} {N jx : Int} {aa bb : Nat} (hst : (zEn x).1.stackTraces = false) (O : zOk x RL cL_law 7 (some .boolean) "law" 12 478 601024 7293034) (hS : zScr x bs Ls xs) (Z : zLs (zEn x) H r a oa q Q qo n tx G fi ac dd kp ik N) (hN : 20 ≤ N ∧ N ≤ 538) (hj : 0 ≤ jx ∧ jx + 4 ≤ Ls ∧ Ls ≤ 2048) (h1 : aa + 13566 ≤ 601024) (h2 : bb + 277336 ≤ 7293034)
    (K : ∀ (H1 : Heap) (r1 : zH) (a1 : Nat → Nat) (n : Int) (tx G : Int → Int) (fi ac : Int) (dd : Nat → Int → Int) (kp ik : Int → Int), zLs (zEn x) H1 r1 a1 oa q Q qo n tx G fi ac dd kp ik (N + 1) → H1.size + zPs r ≤ H.size + zPs r1 + 70 → zSz H1 + 20 * zPs r ≤ zSz H + 20 * zPs r1 + 6700 → ∀ a9 b9 : Nat, zG x H1 a9 b9 1818 (zLv bs oa q qo jx) []) : zG x H aa bb 286 (zLv bs oa q qo jx) [] := by
  obtain ⟨hoa, hcm, ⟨rf, hM⟩, ⟨u0, hLA⟩, hOK⟩ := Z
  subst hoa
  refine z_aload_n 2 O dL_law_286 rfl ?_
  refine z_aload_n 1 O dL_law_287 rfl ?_
  refine z_iload 0 O dL_law_288 rfl ?_
  refine z_iconst 1 O dL_law_290 (by decide +kernel) ?_
  refine z_iadd O dL_law_291 ?_
  refine z_sld hS ⟨by omega, by omega⟩ (by omega) (by omega) O dL_law_292 ?_
  refine z_aload_n 4 O dL_law_293 rfl ?_
  have hzc : zR (cAb (sv xs (jx + 1))) := by unfold cAb; (repeat' split) <;> exact ⟨by omega, by omega⟩
  refine z_callH [.ref (a 1200), .int (iI (sv xs (jx + 1))), .ref qo] [] kM_L_121 O dL_law_294 (c_L_about hst hcm hOK (sv_R _ _) hLA) rfl rfl (by decide) (Nat.le_of_ble_eq_true rfl) (by omega) (by omega) (Nat.le_of_ble_eq_true rfl) (fun v9 H1 hp hz => ?_)
  obtain ⟨rfl, hw⟩ := hp
  refine z_istore [(5, .int (iI (cAb (sv xs (jx + 1))))), (4, .int (iI (jx))), (0, .ref bs), (1, .ref (a 1200)), (2, .ref q), (3, .ref qo)] O dL_law_297 (by decide) rfl ?_
  by_cases hc : cAb (sv xs (jx + 1)) = 0
  · obtain ⟨_, r1, a1, ha1, hfr, hgv, hcm1, hLA1⟩ := hw.resolve_right (fun z => z.1 hc)
    have hM1 := hM.fr hfr (fun s h => by show ¬ (_ ≤ _); omega)
    obtain ⟨_, _, _, _, _, hMo, _⟩ := id hM1
    refine z_aload_n 4 O dL_law_299 rfl ?_
    refine z_aload_n 2 O dL_law_300 rfl ?_
    refine z_iload 1 O dL_law_301 rfl ?_
    refine z_iconst 1 O dL_law_303 (by decide +kernel) ?_
    refine z_iadd O dL_law_304 ?_
    refine z_sld hS ⟨by omega, by omega⟩ (by omega) (by omega) O dL_law_305 ?_
    refine z_Vim [.int (iI (sv xs (jx + 1)))] [] kM_L_123 O dL_law_306 (c_X6_about hst hM1 hOK.1 (sv_R _ _)).szi rfl rfl hMo.1 (by decide) (Nat.le_of_ble_eq_true rfl) (by omega) (by omega) (Nat.le_of_ble_eq_true rfl) zNx (fun H2 hp2 hz2 => ?_)
    obtain ⟨⟨hf2, hc2⟩, hs1, hs2⟩ := hp2
    rw [if_pos hc]
    obtain ⟨_, hM2⟩ := hc2.resolve_left (fun z => z.1 hc)
    obtain ⟨_, _, _, _, _, hMo2, _⟩ := id hM2
    have hLA2 := hLA1.fr hf2 (by show ¬ (_ ≤ _); omega)
    refine z_istore [(6, .int (iI ((vAb G (sv xs (jx + 1)))))), (5, .int (iI (cAb (sv xs (jx + 1))))), (4, .int (iI (jx))), (0, .ref bs), (1, .ref (a 1200)), (2, .ref q), (3, .ref qo)] O dL_law_309 (by decide) rfl ?_
    refine z_aload_n 5 O dL_law_311 rfl ?_
    refine z_Vi [] [] kM_L_106 O dL_law_312 (c_X6_thrown hst hMo2) rfl rfl hMo2.1 (by decide) (Nat.le_of_ble_eq_true rfl) (by omega) (by omega) (Nat.le_of_ble_eq_true rfl) zNx ?_
    refine z_iload 1 O dL_law_315 rfl ?_
    refine z_icmp_eq 322 O dL_law_317 (by decide) ⟨by omega, by omega⟩ hzc (fun _ => ?_) (fun h => absurd hc.symm h)
    refine z_iload 1 O dL_law_322 rfl ?_
    refine z_if_ne 339 O dL_law_324 (by decide) hzc (fun h => absurd hc h) (fun _ => ?_)
    refine z_aload_n 6 O dL_law_327 rfl ?_
    refine z_iconst 0 O dL_law_328 (by decide +kernel) ?_
    refine z_lald O dL_law_329 hLA2.1 ?_
    refine z_iload 0 O dL_law_330 rfl ?_
    refine z_i2lRh O.h dL_law_332 ?_
    refine z_lcmpS O dL_law_333 ?_
    refine z_if_eq 339 O dL_law_334 (by decide) ⟨by omega, by omega⟩ (fun _ => ?_) (fun h => absurd rfl h)
    refine z_goto 1818 O dL_law_339 (by decide) ?_
    refine z_locs [2, 3, 4, 5, 6] rfl ?_
    exact K H2 r1 a1 n tx G fi ac dd kp ik ⟨ha1, hcm1.fr hf2 (fun s h => by show ¬ (_ ≤ _); omega), ⟨_, hM2⟩, ⟨_, hLA2⟩, hOK.keep hN.2⟩ (by unfold zGv at hgv; omega) (by unfold zGv at hgv; omega) _ _
  · obtain ⟨_, hx⟩ := hw.resolve_left (fun z => hc z.1)
    have hfr : zFr H r H1 r (fun _ => False) := hx.1.frr
    have hcm1 := hcm.fr hfr (fun _ _ h => h)
    have hM1 := hM.fr hfr (fun _ _ h => h)
    have hLA1 := hLA.fr hfr (fun h => h)
    obtain ⟨_, _, _, _, _, hMo, _⟩ := id hM1
    refine z_aload_n 4 O dL_law_299 rfl ?_
    refine z_aload_n 2 O dL_law_300 rfl ?_
    refine z_iload 1 O dL_law_301 rfl ?_
    refine z_iconst 1 O dL_law_303 (by decide +kernel) ?_
    refine z_iadd O dL_law_304 ?_
    refine z_sld hS ⟨by omega, by omega⟩ (by omega) (by omega) O dL_law_305 ?_
    refine z_Vim [.int (iI (sv xs (jx + 1)))] [] kM_L_123 O dL_law_306 (c_X6_about hst hM1 hOK.1 (sv_R _ _)).szi rfl rfl hMo.1 (by decide) (Nat.le_of_ble_eq_true rfl) (by omega) (by omega) (Nat.le_of_ble_eq_true rfl) zNx (fun H2 hp2 hz2 => ?_)
    obtain ⟨⟨hf2, hc2⟩, hs1, hs2⟩ := hp2
    rw [if_neg hc]
    obtain ⟨_, hM2⟩ := hc2.resolve_right (fun z => hc z.1)
    obtain ⟨_, _, _, _, _, hMo2, _⟩ := id hM2
    have hLA2 := hLA1.fr hf2 (by show ¬ (_ ≤ _); omega)
    refine z_istore [(6, .int (iI (0))), (5, .int (iI (cAb (sv xs (jx + 1))))), (4, .int (iI (jx))), (0, .ref bs), (1, .ref (a 1200)), (2, .ref q), (3, .ref qo)] O dL_law_309 (by decide) rfl ?_
    refine z_aload_n 5 O dL_law_311 rfl ?_
    refine z_Vi [] [] kM_L_106 O dL_law_312 (c_X6_thrown hst hMo2) rfl rfl hMo2.1 (by decide) (Nat.le_of_ble_eq_true rfl) (by omega) (by omega) (Nat.le_of_ble_eq_true rfl) zNx ?_
    refine z_iload 1 O dL_law_315 rfl ?_
    refine z_icmp_eq 322 O dL_law_317 (by decide) hzc hzc (fun _ => ?_) (fun h => absurd rfl h)
    refine z_iload 1 O dL_law_322 rfl ?_
    refine z_if_ne 339 O dL_law_324 (by decide) hzc (fun _ => ?_) (fun h => absurd h hc)
    refine z_goto 1818 O dL_law_339 (by decide) ?_
    refine z_locs [2, 3, 4, 5, 6] rfl ?_
    exact K H2 r a n tx G fi ac dd kp ik ⟨rfl, hcm1.fr hf2 (fun s h => by show ¬ (_ ≤ _); omega), ⟨_, hM2⟩, ⟨_, hLA2⟩, hOK.keep hN.2⟩ (by have := hx.2.1; omega) (by have := hx.2.2; omega) _ _
theorem kM_L_124 : zMSW RL 124 yL_cell cL_cell 5 (some .int) [(0, 10, 13, 28), (0, 10, 17, 13)] 4 := ⟨(List.mem_of_getElem? (i := 37) (by decide +kernel)), (List.mem_of_getElem? (i := 637) (by decide +kernel)), by decide +kernel, by decide +kernel, by decide +kernel, (List.mem_of_getElem? (i := 635) (by decide +kernel)), (List.mem_of_getElem? (i := 636) (by decide +kernel))⟩
theorem kM_L_127 : zMV RL 127 yX6_cell cX6_cell 3 (some .int) 2 6 := ⟨⟨(List.mem_of_getElem? (i := 47) (by decide +kernel)), (List.mem_of_getElem? (i := 1141) (by decide +kernel)), by decide +kernel, by decide +kernel, by decide +kernel⟩, (List.mem_of_getElem? (i := 1138) (by decide +kernel)), (List.mem_of_getElem? (i := 1139) (by decide +kernel)), (List.mem_of_getElem? (i := 1140) (by decide +kernel)), ⟨_, rfl, rfl⟩⟩
theorem op_cell {x : zX} {bs Ls : Nat} {xs : Nat → Int32} {H : Heap} {r : zH} {a : Nat → Nat} {oa q : Nat} {Q : Nat → Nat} {qo : Nat} {n : Int} {tx G : Int → Int} {fi ac : Int} {dd : Nat → Int → Int} {kp ik : Int → Int} {N jx : Int} {aa bb : Nat} (hst : (zEn x).1.stackTraces = false) (O : zOk x RL cL_law 7 (some .boolean) "law" 12 478 601024 7293034) (hS : zScr x bs Ls xs) (Z : zLs (zEn x) H r a oa q Q qo n tx G fi ac dd kp ik N) (hN : 20 ≤ N ∧ N ≤ 538) (hj : 0 ≤ jx ∧ jx + 4 ≤ Ls ∧ Ls ≤ 2048) (h1 : aa + 13566 ≤ 601024) (h2 : bb + 277336 ≤ 7293034)
    (K : ∀ (H1 : Heap) (r1 : zH) (a1 : Nat → Nat) (n : Int) (tx G : Int → Int) (fi ac : Int) (dd : Nat → Int → Int) (kp ik : Int → Int), zLs (zEn x) H1 r1 a1 oa q Q qo n tx G fi ac dd kp ik (N + 1) → H1.size + zPs r ≤ H.size + zPs r1 + 70 → zSz H1 + 20 * zPs r ≤ zSz H + 20 * zPs r1 + 6700 → ∀ a9 b9 : Nat, zG x H1 a9 b9 1818 (zLv bs oa q qo jx) []) : zG x H aa bb 342 (zLv bs oa q qo jx) [] := by
  obtain ⟨hoa, hcm, ⟨rf, hM⟩, ⟨u0, hLA⟩, hOK⟩ := Z
  subst hoa
  refine z_aload_n 2 O dL_law_342 rfl ?_
  refine z_aload_n 1 O dL_law_343 rfl ?_
  refine z_iload 0 O dL_law_344 rfl ?_
  refine z_iconst 1 O dL_law_346 (by decide +kernel) ?_
  refine z_iadd O dL_law_347 ?_
  refine z_sld hS ⟨by omega, by omega⟩ (by omega) (by omega) O dL_law_348 ?_
  refine z_aload_n 1 O dL_law_349 rfl ?_
  refine z_iload 0 O dL_law_350 rfl ?_
  refine z_iconst 2 O dL_law_352 (by decide +kernel) ?_
  refine z_iadd O dL_law_353 ?_
  refine z_sld hS ⟨by omega, by omega⟩ (by omega) (by omega) O dL_law_354 ?_
  refine z_aload_n 4 O dL_law_355 rfl ?_
  have hzc : zR (cCe (sv xs (jx + 1)) (sv xs (jx + 2))) := by unfold cCe; (repeat' split) <;> exact ⟨by omega, by omega⟩
  refine z_callH [.ref (a 1200), .int (iI (sv xs (jx + 1))), .int (iI (sv xs (jx + 2))), .ref qo] [] kM_L_124 O dL_law_356 (c_L_cell hst hcm hOK (sv_R _ _) (sv_R _ _) hLA) rfl rfl (by decide) (Nat.le_of_ble_eq_true rfl) (by omega) (by omega) (Nat.le_of_ble_eq_true rfl) (fun v9 H1 hp hz => ?_)
  obtain ⟨rfl, hw⟩ := hp
  refine z_istore [(5, .int (iI (cCe (sv xs (jx + 1)) (sv xs (jx + 2))))), (4, .int (iI (jx))), (0, .ref bs), (1, .ref (a 1200)), (2, .ref q), (3, .ref qo)] O dL_law_359 (by decide) rfl ?_
  by_cases hc : cCe (sv xs (jx + 1)) (sv xs (jx + 2)) = 0
  · obtain ⟨_, r1, a1, ha1, hfr, hgv, hcm1, hLA1⟩ := hw.resolve_right (fun z => z.1 hc)
    have hM1 := hM.fr hfr (fun s h => by show ¬ (_ ≤ _); omega)
    obtain ⟨_, _, _, _, _, hMo, _⟩ := id hM1
    refine z_aload_n 4 O dL_law_361 rfl ?_
    refine z_aload_n 2 O dL_law_362 rfl ?_
    refine z_iload 1 O dL_law_363 rfl ?_
    refine z_iconst 1 O dL_law_365 (by decide +kernel) ?_
    refine z_iadd O dL_law_366 ?_
    refine z_sld hS ⟨by omega, by omega⟩ (by omega) (by omega) O dL_law_367 ?_
    refine z_aload_n 2 O dL_law_368 rfl ?_
    refine z_iload 1 O dL_law_369 rfl ?_
    refine z_iconst 2 O dL_law_371 (by decide +kernel) ?_
    refine z_iadd O dL_law_372 ?_
    refine z_sld hS ⟨by omega, by omega⟩ (by omega) (by omega) O dL_law_373 ?_
    refine z_Vim [.int (iI (sv xs (jx + 1))), .int (iI (sv xs (jx + 2)))] [] kM_L_127 O dL_law_374 (c_X6_cell hst hM1 hOK.1 (sv_R _ _) (sv_R _ _)).szi rfl rfl hMo.1 (by decide) (Nat.le_of_ble_eq_true rfl) (by omega) (by omega) (Nat.le_of_ble_eq_true rfl) zNx (fun H2 hp2 hz2 => ?_)
    obtain ⟨⟨hf2, hc2⟩, hs1, hs2⟩ := hp2
    rw [if_pos hc]
    obtain ⟨_, hM2⟩ := hc2.resolve_left (fun z => z.1 hc)
    obtain ⟨_, _, _, _, _, hMo2, _⟩ := id hM2
    have hLA2 := hLA1.fr hf2 (by show ¬ (_ ≤ _); omega)
    refine z_istore [(6, .int (iI ((vCe G (sv xs (jx + 1)) (sv xs (jx + 2)))))), (5, .int (iI (cCe (sv xs (jx + 1)) (sv xs (jx + 2))))), (4, .int (iI (jx))), (0, .ref bs), (1, .ref (a 1200)), (2, .ref q), (3, .ref qo)] O dL_law_377 (by decide) rfl ?_
    refine z_aload_n 5 O dL_law_379 rfl ?_
    refine z_Vi [] [] kM_L_106 O dL_law_380 (c_X6_thrown hst hMo2) rfl rfl hMo2.1 (by decide) (Nat.le_of_ble_eq_true rfl) (by omega) (by omega) (Nat.le_of_ble_eq_true rfl) zNx ?_
    refine z_iload 1 O dL_law_383 rfl ?_
    refine z_icmp_eq 390 O dL_law_385 (by decide) ⟨by omega, by omega⟩ hzc (fun _ => ?_) (fun h => absurd hc.symm h)
    refine z_iload 1 O dL_law_390 rfl ?_
    refine z_if_ne 407 O dL_law_392 (by decide) hzc (fun h => absurd hc h) (fun _ => ?_)
    refine z_aload_n 6 O dL_law_395 rfl ?_
    refine z_iconst 0 O dL_law_396 (by decide +kernel) ?_
    refine z_lald O dL_law_397 hLA2.1 ?_
    refine z_iload 0 O dL_law_398 rfl ?_
    refine z_i2lRh O.h dL_law_400 ?_
    refine z_lcmpS O dL_law_401 ?_
    refine z_if_eq 407 O dL_law_402 (by decide) ⟨by omega, by omega⟩ (fun _ => ?_) (fun h => absurd rfl h)
    refine z_goto 1818 O dL_law_407 (by decide) ?_
    refine z_locs [2, 3, 4, 5, 6] rfl ?_
    exact K H2 r1 a1 n tx G fi ac dd kp ik ⟨ha1, hcm1.fr hf2 (fun s h => by show ¬ (_ ≤ _); omega), ⟨_, hM2⟩, ⟨_, hLA2⟩, hOK.keep hN.2⟩ (by unfold zGv at hgv; omega) (by unfold zGv at hgv; omega) _ _
  · obtain ⟨_, hx⟩ := hw.resolve_left (fun z => hc z.1)
    have hfr : zFr H r H1 r (fun _ => False) := hx.1.frr
    have hcm1 := hcm.fr hfr (fun _ _ h => h)
    have hM1 := hM.fr hfr (fun _ _ h => h)
    have hLA1 := hLA.fr hfr (fun h => h)
    obtain ⟨_, _, _, _, _, hMo, _⟩ := id hM1
    refine z_aload_n 4 O dL_law_361 rfl ?_
    refine z_aload_n 2 O dL_law_362 rfl ?_
    refine z_iload 1 O dL_law_363 rfl ?_
    refine z_iconst 1 O dL_law_365 (by decide +kernel) ?_
    refine z_iadd O dL_law_366 ?_
    refine z_sld hS ⟨by omega, by omega⟩ (by omega) (by omega) O dL_law_367 ?_
    refine z_aload_n 2 O dL_law_368 rfl ?_
    refine z_iload 1 O dL_law_369 rfl ?_
    refine z_iconst 2 O dL_law_371 (by decide +kernel) ?_
    refine z_iadd O dL_law_372 ?_
    refine z_sld hS ⟨by omega, by omega⟩ (by omega) (by omega) O dL_law_373 ?_
    refine z_Vim [.int (iI (sv xs (jx + 1))), .int (iI (sv xs (jx + 2)))] [] kM_L_127 O dL_law_374 (c_X6_cell hst hM1 hOK.1 (sv_R _ _) (sv_R _ _)).szi rfl rfl hMo.1 (by decide) (Nat.le_of_ble_eq_true rfl) (by omega) (by omega) (Nat.le_of_ble_eq_true rfl) zNx (fun H2 hp2 hz2 => ?_)
    obtain ⟨⟨hf2, hc2⟩, hs1, hs2⟩ := hp2
    rw [if_neg hc]
    obtain ⟨_, hM2⟩ := hc2.resolve_right (fun z => hc z.1)
    obtain ⟨_, _, _, _, _, hMo2, _⟩ := id hM2
    have hLA2 := hLA1.fr hf2 (by show ¬ (_ ≤ _); omega)
    refine z_istore [(6, .int (iI (0))), (5, .int (iI (cCe (sv xs (jx + 1)) (sv xs (jx + 2))))), (4, .int (iI (jx))), (0, .ref bs), (1, .ref (a 1200)), (2, .ref q), (3, .ref qo)] O dL_law_377 (by decide) rfl ?_
    refine z_aload_n 5 O dL_law_379 rfl ?_
    refine z_Vi [] [] kM_L_106 O dL_law_380 (c_X6_thrown hst hMo2) rfl rfl hMo2.1 (by decide) (Nat.le_of_ble_eq_true rfl) (by omega) (by omega) (Nat.le_of_ble_eq_true rfl) zNx ?_
    refine z_iload 1 O dL_law_383 rfl ?_
    refine z_icmp_eq 390 O dL_law_385 (by decide) hzc hzc (fun _ => ?_) (fun h => absurd rfl h)
    refine z_iload 1 O dL_law_390 rfl ?_
    refine z_if_ne 407 O dL_law_392 (by decide) hzc (fun _ => ?_) (fun h => absurd h hc)
    refine z_goto 1818 O dL_law_407 (by decide) ?_
    refine z_locs [2, 3, 4, 5, 6] rfl ?_
    exact K H2 r a n tx G fi ac dd kp ik ⟨rfl, hcm1.fr hf2 (fun s h => by show ¬ (_ ≤ _); omega), ⟨_, hM2⟩, ⟨_, hLA2⟩, hOK.keep hN.2⟩ (by have := hx.2.1; omega) (by have := hx.2.2; omega) _ _
theorem kM_L_128 : zMSW RL 128 yL_worker cL_worker 5 (some .int) [(0, 10, 13, 28), (0, 10, 17, 13)] 4 := ⟨(List.mem_of_getElem? (i := 37) (by decide +kernel)), (List.mem_of_getElem? (i := 669) (by decide +kernel)), by decide +kernel, by decide +kernel, by decide +kernel, (List.mem_of_getElem? (i := 667) (by decide +kernel)), (List.mem_of_getElem? (i := 668) (by decide +kernel))⟩
theorem kM_L_130 : zMV RL 130 yX6_worker cX6_worker 3 (some .int) 2 6 := ⟨⟨(List.mem_of_getElem? (i := 47) (by decide +kernel)), (List.mem_of_getElem? (i := 1154) (by decide +kernel)), by decide +kernel, by decide +kernel, by decide +kernel⟩, (List.mem_of_getElem? (i := 1151) (by decide +kernel)), (List.mem_of_getElem? (i := 1152) (by decide +kernel)), (List.mem_of_getElem? (i := 1153) (by decide +kernel)), ⟨_, rfl, rfl⟩⟩
theorem op_worker {x : zX} {bs Ls : Nat} {xs : Nat → Int32} {H : Heap} {r : zH} {a : Nat → Nat} {oa q : Nat} {Q : Nat → Nat} {qo : Nat} {n : Int} {tx G : Int → Int} {fi ac : Int} {dd : Nat → Int → Int} {kp ik : Int → Int} {N jx : Int} {aa bb : Nat} (hst : (zEn x).1.stackTraces = false) (O : zOk x RL cL_law 7 (some .boolean) "law" 12 478 601024 7293034) (hS : zScr x bs Ls xs) (Z : zLs (zEn x) H r a oa q Q qo n tx G fi ac dd kp ik N) (hN : 20 ≤ N ∧ N ≤ 538) (hj : 0 ≤ jx ∧ jx + 4 ≤ Ls ∧ Ls ≤ 2048) (h1 : aa + 13566 ≤ 601024) (h2 : bb + 277336 ≤ 7293034)
    (K : ∀ (H1 : Heap) (r1 : zH) (a1 : Nat → Nat) (n : Int) (tx G : Int → Int) (fi ac : Int) (dd : Nat → Int → Int) (kp ik : Int → Int), zLs (zEn x) H1 r1 a1 oa q Q qo n tx G fi ac dd kp ik (N + 1) → H1.size + zPs r ≤ H.size + zPs r1 + 70 → zSz H1 + 20 * zPs r ≤ zSz H + 20 * zPs r1 + 6700 → ∀ a9 b9 : Nat, zG x H1 a9 b9 1818 (zLv bs oa q qo jx) []) : zG x H aa bb 410 (zLv bs oa q qo jx) [] := by
  obtain ⟨hoa, hcm, ⟨rf, hM⟩, ⟨u0, hLA⟩, hOK⟩ := Z
  subst hoa
  refine z_aload_n 2 O dL_law_410 rfl ?_
  refine z_aload_n 1 O dL_law_411 rfl ?_
  refine z_iload 0 O dL_law_412 rfl ?_
  refine z_iconst 1 O dL_law_414 (by decide +kernel) ?_
  refine z_iadd O dL_law_415 ?_
  refine z_sld hS ⟨by omega, by omega⟩ (by omega) (by omega) O dL_law_416 ?_
  refine z_aload_n 1 O dL_law_417 rfl ?_
  refine z_iload 0 O dL_law_418 rfl ?_
  refine z_iconst 2 O dL_law_420 (by decide +kernel) ?_
  refine z_iadd O dL_law_421 ?_
  refine z_sld hS ⟨by omega, by omega⟩ (by omega) (by omega) O dL_law_422 ?_
  refine z_aload_n 4 O dL_law_423 rfl ?_
  have hzc : zR (cWo (sv xs (jx + 1)) (sv xs (jx + 2))) := by unfold cWo; (repeat' split) <;> exact ⟨by omega, by omega⟩
  refine z_callH [.ref (a 1200), .int (iI (sv xs (jx + 1))), .int (iI (sv xs (jx + 2))), .ref qo] [] kM_L_128 O dL_law_424 (c_L_worker hst hcm hOK (sv_R _ _) (sv_R _ _) hLA) rfl rfl (by decide) (Nat.le_of_ble_eq_true rfl) (by omega) (by omega) (Nat.le_of_ble_eq_true rfl) (fun v9 H1 hp hz => ?_)
  obtain ⟨rfl, hw⟩ := hp
  refine z_istore [(5, .int (iI (cWo (sv xs (jx + 1)) (sv xs (jx + 2))))), (4, .int (iI (jx))), (0, .ref bs), (1, .ref (a 1200)), (2, .ref q), (3, .ref qo)] O dL_law_427 (by decide) rfl ?_
  by_cases hc : cWo (sv xs (jx + 1)) (sv xs (jx + 2)) = 0
  · obtain ⟨_, r1, a1, ha1, hfr, hgv, hcm1, hLA1⟩ := hw.resolve_right (fun z => z.1 hc)
    have hM1 := hM.fr hfr (fun s h => by show ¬ (_ ≤ _); omega)
    obtain ⟨_, _, _, _, _, hMo, _⟩ := id hM1
    refine z_aload_n 4 O dL_law_429 rfl ?_
    refine z_aload_n 2 O dL_law_430 rfl ?_
    refine z_iload 1 O dL_law_431 rfl ?_
    refine z_iconst 1 O dL_law_433 (by decide +kernel) ?_
    refine z_iadd O dL_law_434 ?_
    refine z_sld hS ⟨by omega, by omega⟩ (by omega) (by omega) O dL_law_435 ?_
    refine z_aload_n 2 O dL_law_436 rfl ?_
    refine z_iload 1 O dL_law_437 rfl ?_
    refine z_iconst 2 O dL_law_439 (by decide +kernel) ?_
    refine z_iadd O dL_law_440 ?_
    refine z_sld hS ⟨by omega, by omega⟩ (by omega) (by omega) O dL_law_441 ?_
    refine z_Vim [.int (iI (sv xs (jx + 1))), .int (iI (sv xs (jx + 2)))] [] kM_L_130 O dL_law_442 (c_X6_worker hst hM1 hOK.1 (sv_R _ _) (sv_R _ _)).szi rfl rfl hMo.1 (by decide) (Nat.le_of_ble_eq_true rfl) (by omega) (by omega) (Nat.le_of_ble_eq_true rfl) zNx (fun H2 hp2 hz2 => ?_)
    obtain ⟨⟨hf2, hc2⟩, hs1, hs2⟩ := hp2
    rw [if_pos hc]
    obtain ⟨_, hM2⟩ := hc2.resolve_left (fun z => z.1 hc)
    obtain ⟨_, _, _, _, _, hMo2, _⟩ := id hM2
    have hLA2 := hLA1.fr hf2 (by show ¬ (_ ≤ _); omega)
    refine z_istore [(6, .int (iI ((vWo G (sv xs (jx + 1)) (sv xs (jx + 2)))))), (5, .int (iI (cWo (sv xs (jx + 1)) (sv xs (jx + 2))))), (4, .int (iI (jx))), (0, .ref bs), (1, .ref (a 1200)), (2, .ref q), (3, .ref qo)] O dL_law_445 (by decide) rfl ?_
    refine z_aload_n 5 O dL_law_447 rfl ?_
    refine z_Vi [] [] kM_L_106 O dL_law_448 (c_X6_thrown hst hMo2) rfl rfl hMo2.1 (by decide) (Nat.le_of_ble_eq_true rfl) (by omega) (by omega) (Nat.le_of_ble_eq_true rfl) zNx ?_
    refine z_iload 1 O dL_law_451 rfl ?_
    refine z_icmp_eq 458 O dL_law_453 (by decide) ⟨by omega, by omega⟩ hzc (fun _ => ?_) (fun h => absurd hc.symm h)
    refine z_iload 1 O dL_law_458 rfl ?_
    refine z_if_ne 475 O dL_law_460 (by decide) hzc (fun h => absurd hc h) (fun _ => ?_)
    refine z_aload_n 6 O dL_law_463 rfl ?_
    refine z_iconst 0 O dL_law_464 (by decide +kernel) ?_
    refine z_lald O dL_law_465 hLA2.1 ?_
    refine z_iload 0 O dL_law_466 rfl ?_
    refine z_i2lRh O.h dL_law_468 ?_
    refine z_lcmpS O dL_law_469 ?_
    refine z_if_eq 475 O dL_law_470 (by decide) ⟨by omega, by omega⟩ (fun _ => ?_) (fun h => absurd rfl h)
    refine z_goto 1818 O dL_law_475 (by decide) ?_
    refine z_locs [2, 3, 4, 5, 6] rfl ?_
    exact K H2 r1 a1 n tx G fi ac dd kp ik ⟨ha1, hcm1.fr hf2 (fun s h => by show ¬ (_ ≤ _); omega), ⟨_, hM2⟩, ⟨_, hLA2⟩, hOK.keep hN.2⟩ (by unfold zGv at hgv; omega) (by unfold zGv at hgv; omega) _ _
  · obtain ⟨_, hx⟩ := hw.resolve_left (fun z => hc z.1)
    have hfr : zFr H r H1 r (fun _ => False) := hx.1.frr
    have hcm1 := hcm.fr hfr (fun _ _ h => h)
    have hM1 := hM.fr hfr (fun _ _ h => h)
    have hLA1 := hLA.fr hfr (fun h => h)
    obtain ⟨_, _, _, _, _, hMo, _⟩ := id hM1
    refine z_aload_n 4 O dL_law_429 rfl ?_
    refine z_aload_n 2 O dL_law_430 rfl ?_
    refine z_iload 1 O dL_law_431 rfl ?_
    refine z_iconst 1 O dL_law_433 (by decide +kernel) ?_
    refine z_iadd O dL_law_434 ?_
    refine z_sld hS ⟨by omega, by omega⟩ (by omega) (by omega) O dL_law_435 ?_
    refine z_aload_n 2 O dL_law_436 rfl ?_
    refine z_iload 1 O dL_law_437 rfl ?_
    refine z_iconst 2 O dL_law_439 (by decide +kernel) ?_
    refine z_iadd O dL_law_440 ?_
    refine z_sld hS ⟨by omega, by omega⟩ (by omega) (by omega) O dL_law_441 ?_
    refine z_Vim [.int (iI (sv xs (jx + 1))), .int (iI (sv xs (jx + 2)))] [] kM_L_130 O dL_law_442 (c_X6_worker hst hM1 hOK.1 (sv_R _ _) (sv_R _ _)).szi rfl rfl hMo.1 (by decide) (Nat.le_of_ble_eq_true rfl) (by omega) (by omega) (Nat.le_of_ble_eq_true rfl) zNx (fun H2 hp2 hz2 => ?_)
    obtain ⟨⟨hf2, hc2⟩, hs1, hs2⟩ := hp2
    rw [if_neg hc]
    obtain ⟨_, hM2⟩ := hc2.resolve_right (fun z => hc z.1)
    obtain ⟨_, _, _, _, _, hMo2, _⟩ := id hM2
    have hLA2 := hLA1.fr hf2 (by show ¬ (_ ≤ _); omega)
    refine z_istore [(6, .int (iI (0))), (5, .int (iI (cWo (sv xs (jx + 1)) (sv xs (jx + 2))))), (4, .int (iI (jx))), (0, .ref bs), (1, .ref (a 1200)), (2, .ref q), (3, .ref qo)] O dL_law_445 (by decide) rfl ?_
    refine z_aload_n 5 O dL_law_447 rfl ?_
    refine z_Vi [] [] kM_L_106 O dL_law_448 (c_X6_thrown hst hMo2) rfl rfl hMo2.1 (by decide) (Nat.le_of_ble_eq_true rfl) (by omega) (by omega) (Nat.le_of_ble_eq_true rfl) zNx ?_
    refine z_iload 1 O dL_law_451 rfl ?_
    refine z_icmp_eq 458 O dL_law_453 (by decide) hzc hzc (fun _ => ?_) (fun h => absurd rfl h)
    refine z_iload 1 O dL_law_458 rfl ?_
    refine z_if_ne 475 O dL_law_460 (by decide) hzc (fun _ => ?_) (fun h => absurd h hc)
    refine z_goto 1818 O dL_law_475 (by decide) ?_
    refine z_locs [2, 3, 4, 5, 6] rfl ?_
    exact K H2 r a n tx G fi ac dd kp ik ⟨rfl, hcm1.fr hf2 (fun s h => by show ¬ (_ ≤ _); omega), ⟨_, hM2⟩, ⟨_, hLA2⟩, hOK.keep hN.2⟩ (by have := hx.2.1; omega) (by have := hx.2.2; omega) _ _
theorem kM_L_131 : zMSW RL 131 yL_work cL_work 6 (some .int) [(0, 12, 15, 28), (0, 12, 19, 13)] 5 := ⟨(List.mem_of_getElem? (i := 37) (by decide +kernel)), (List.mem_of_getElem? (i := 684) (by decide +kernel)), by decide +kernel, by decide +kernel, by decide +kernel, (List.mem_of_getElem? (i := 682) (by decide +kernel)), (List.mem_of_getElem? (i := 683) (by decide +kernel))⟩
theorem kM_L_134 : zMV RL 134 yX6_work cX6_work 5 (some .int) 3 6 := ⟨⟨(List.mem_of_getElem? (i := 47) (by decide +kernel)), (List.mem_of_getElem? (i := 1162) (by decide +kernel)), by decide +kernel, by decide +kernel, by decide +kernel⟩, (List.mem_of_getElem? (i := 1159) (by decide +kernel)), (List.mem_of_getElem? (i := 1160) (by decide +kernel)), (List.mem_of_getElem? (i := 1161) (by decide +kernel)), ⟨_, rfl, rfl⟩⟩
theorem op_work {x : zX} {bs Ls : Nat} {xs : Nat → Int32} {H : Heap} {r : zH} {a : Nat → Nat} {oa q : Nat} {Q : Nat → Nat} {qo : Nat} {n : Int} {tx G : Int → Int} {fi ac : Int} {dd : Nat → Int → Int} {kp ik : Int → Int} {N jx : Int} {aa bb : Nat} (hst : (zEn x).1.stackTraces = false) (O : zOk x RL cL_law 7 (some .boolean) "law" 12 478 601024 7293034) (hS : zScr x bs Ls xs) (Z : zLs (zEn x) H r a oa q Q qo n tx G fi ac dd kp ik N) (hN : 20 ≤ N ∧ N ≤ 538) (hj : 0 ≤ jx ∧ jx + 4 ≤ Ls ∧ Ls ≤ 2048) (h1 : aa + 13566 ≤ 601024) (h2 : bb + 277336 ≤ 7293034)
    (K : ∀ (H1 : Heap) (r1 : zH) (a1 : Nat → Nat) (n : Int) (tx G : Int → Int) (fi ac : Int) (dd : Nat → Int → Int) (kp ik : Int → Int), zLs (zEn x) H1 r1 a1 oa q Q qo n tx G fi ac dd kp ik (N + 1) → H1.size + zPs r ≤ H.size + zPs r1 + 70 → zSz H1 + 20 * zPs r ≤ zSz H + 20 * zPs r1 + 6700 → ∀ a9 b9 : Nat, zG x H1 a9 b9 1818 (zLv bs oa q qo jx) []) : zG x H aa bb 478 (zLv bs oa q qo jx) [] := by
  obtain ⟨hoa, hcm, ⟨rf, hM⟩, ⟨u0, hLA⟩, hOK⟩ := Z
  subst hoa
  refine z_aload_n 2 O dL_law_478 rfl ?_
  refine z_aload_n 1 O dL_law_479 rfl ?_
  refine z_iload 0 O dL_law_480 rfl ?_
  refine z_iconst 1 O dL_law_482 (by decide +kernel) ?_
  refine z_iadd O dL_law_483 ?_
  refine z_sld hS ⟨by omega, by omega⟩ (by omega) (by omega) O dL_law_484 ?_
  refine z_aload_n 1 O dL_law_485 rfl ?_
  refine z_iload 0 O dL_law_486 rfl ?_
  refine z_iconst 2 O dL_law_488 (by decide +kernel) ?_
  refine z_iadd O dL_law_489 ?_
  refine z_sld hS ⟨by omega, by omega⟩ (by omega) (by omega) O dL_law_490 ?_
  refine z_aload_n 1 O dL_law_491 rfl ?_
  refine z_iload 0 O dL_law_492 rfl ?_
  refine z_iconst 3 O dL_law_494 (by decide +kernel) ?_
  refine z_iadd O dL_law_495 ?_
  refine z_sld hS ⟨by omega, by omega⟩ (by omega) (by omega) O dL_law_496 ?_
  refine z_aload_n 4 O dL_law_497 rfl ?_
  have hzc : zR (cWk G (sv xs (jx + 1)) (sv xs (jx + 2)) (sv xs (jx + 3))) := by unfold cWk; (repeat' split) <;> exact ⟨by omega, by omega⟩
  refine z_callH [.ref (a 1200), .int (iI (sv xs (jx + 1))), .int (iI (sv xs (jx + 2))), .int (iI (sv xs (jx + 3))), .ref qo] [] kM_L_131 O dL_law_498 (c_L_work hst hcm hOK (sv_R _ _) (sv_R _ _) (sv_R _ _) hLA) rfl rfl (by decide) (Nat.le_of_ble_eq_true rfl) (by omega) (by omega) (Nat.le_of_ble_eq_true rfl) (fun v9 H1 hp hz => ?_)
  obtain ⟨rfl, hw⟩ := hp
  refine z_istore [(5, .int (iI (cWk G (sv xs (jx + 1)) (sv xs (jx + 2)) (sv xs (jx + 3))))), (4, .int (iI (jx))), (0, .ref bs), (1, .ref (a 1200)), (2, .ref q), (3, .ref qo)] O dL_law_501 (by decide) rfl ?_
  by_cases hc : cWk G (sv xs (jx + 1)) (sv xs (jx + 2)) (sv xs (jx + 3)) = 0
  · obtain ⟨_, r1, a1, ha1, hfr, hgv, hcm1, hLA1⟩ := hw.resolve_right (fun z => z.1 hc)
    have hM1 := hM.fr hfr (fun s h => by show ¬ (_ ≤ _); omega)
    obtain ⟨_, _, _, _, _, hMo, _⟩ := id hM1
    refine z_aload_n 4 O dL_law_503 rfl ?_
    refine z_aload_n 2 O dL_law_504 rfl ?_
    refine z_iload 1 O dL_law_505 rfl ?_
    refine z_iconst 1 O dL_law_507 (by decide +kernel) ?_
    refine z_iadd O dL_law_508 ?_
    refine z_sld hS ⟨by omega, by omega⟩ (by omega) (by omega) O dL_law_509 ?_
    refine z_aload_n 2 O dL_law_510 rfl ?_
    refine z_iload 1 O dL_law_511 rfl ?_
    refine z_iconst 2 O dL_law_513 (by decide +kernel) ?_
    refine z_iadd O dL_law_514 ?_
    refine z_sld hS ⟨by omega, by omega⟩ (by omega) (by omega) O dL_law_515 ?_
    refine z_aload_n 2 O dL_law_516 rfl ?_
    refine z_iload 1 O dL_law_517 rfl ?_
    refine z_iconst 3 O dL_law_519 (by decide +kernel) ?_
    refine z_iadd O dL_law_520 ?_
    refine z_sld hS ⟨by omega, by omega⟩ (by omega) (by omega) O dL_law_521 ?_
    refine z_Vim [.int (iI (sv xs (jx + 1))), .int (iI (sv xs (jx + 2))), .int (iI (sv xs (jx + 3)))] [] kM_L_134 O dL_law_522 (c_X6_work hst hM1 hOK.1 (sv_R _ _) (sv_R _ _) (sv_R _ _)).szi rfl rfl hMo.1 (by decide) (Nat.le_of_ble_eq_true rfl) (by omega) (by omega) (Nat.le_of_ble_eq_true rfl) zNx (fun H2 hp2 hz2 => ?_)
    obtain ⟨⟨hf2, hc2⟩, hs1, hs2⟩ := hp2
    rw [if_pos hc]
    obtain ⟨_, hM2⟩ := hc2.resolve_left (fun z => z.1 hc)
    obtain ⟨_, _, _, _, _, hMo2, _⟩ := id hM2
    have hLA2 := hLA1.fr hf2 (by show ¬ (_ ≤ _); omega)
    refine z_istore [(6, .int (iI ((vWk G (sv xs (jx + 1)) (sv xs (jx + 2)) (sv xs (jx + 3)))))), (5, .int (iI (cWk G (sv xs (jx + 1)) (sv xs (jx + 2)) (sv xs (jx + 3))))), (4, .int (iI (jx))), (0, .ref bs), (1, .ref (a 1200)), (2, .ref q), (3, .ref qo)] O dL_law_525 (by decide) rfl ?_
    refine z_aload_n 5 O dL_law_527 rfl ?_
    refine z_Vi [] [] kM_L_106 O dL_law_528 (c_X6_thrown hst hMo2) rfl rfl hMo2.1 (by decide) (Nat.le_of_ble_eq_true rfl) (by omega) (by omega) (Nat.le_of_ble_eq_true rfl) zNx ?_
    refine z_iload 1 O dL_law_531 rfl ?_
    refine z_icmp_eq 538 O dL_law_533 (by decide) ⟨by omega, by omega⟩ hzc (fun _ => ?_) (fun h => absurd hc.symm h)
    refine z_iload 1 O dL_law_538 rfl ?_
    refine z_if_ne 555 O dL_law_540 (by decide) hzc (fun h => absurd hc h) (fun _ => ?_)
    refine z_aload_n 6 O dL_law_543 rfl ?_
    refine z_iconst 0 O dL_law_544 (by decide +kernel) ?_
    refine z_lald O dL_law_545 hLA2.1 ?_
    refine z_iload 0 O dL_law_546 rfl ?_
    refine z_i2lRh O.h dL_law_548 ?_
    refine z_lcmpS O dL_law_549 ?_
    refine z_if_eq 555 O dL_law_550 (by decide) ⟨by omega, by omega⟩ (fun _ => ?_) (fun h => absurd rfl h)
    refine z_goto 1818 O dL_law_555 (by decide) ?_
    refine z_locs [2, 3, 4, 5, 6] rfl ?_
    exact K H2 r1 a1 n tx G fi ac dd kp ik ⟨ha1, hcm1.fr hf2 (fun s h => by show ¬ (_ ≤ _); omega), ⟨_, hM2⟩, ⟨_, hLA2⟩, hOK.keep hN.2⟩ (by unfold zGv at hgv; omega) (by unfold zGv at hgv; omega) _ _
  · obtain ⟨_, hx⟩ := hw.resolve_left (fun z => hc z.1)
    have hfr : zFr H r H1 r (fun _ => False) := hx.1.frr
    have hcm1 := hcm.fr hfr (fun _ _ h => h)
    have hM1 := hM.fr hfr (fun _ _ h => h)
    have hLA1 := hLA.fr hfr (fun h => h)
    obtain ⟨_, _, _, _, _, hMo, _⟩ := id hM1
    refine z_aload_n 4 O dL_law_503 rfl ?_
    refine z_aload_n 2 O dL_law_504 rfl ?_
    refine z_iload 1 O dL_law_505 rfl ?_
    refine z_iconst 1 O dL_law_507 (by decide +kernel) ?_
    refine z_iadd O dL_law_508 ?_
    refine z_sld hS ⟨by omega, by omega⟩ (by omega) (by omega) O dL_law_509 ?_
    refine z_aload_n 2 O dL_law_510 rfl ?_
    refine z_iload 1 O dL_law_511 rfl ?_
    refine z_iconst 2 O dL_law_513 (by decide +kernel) ?_
    refine z_iadd O dL_law_514 ?_
    refine z_sld hS ⟨by omega, by omega⟩ (by omega) (by omega) O dL_law_515 ?_
    refine z_aload_n 2 O dL_law_516 rfl ?_
    refine z_iload 1 O dL_law_517 rfl ?_
    refine z_iconst 3 O dL_law_519 (by decide +kernel) ?_
    refine z_iadd O dL_law_520 ?_
    refine z_sld hS ⟨by omega, by omega⟩ (by omega) (by omega) O dL_law_521 ?_
    refine z_Vim [.int (iI (sv xs (jx + 1))), .int (iI (sv xs (jx + 2))), .int (iI (sv xs (jx + 3)))] [] kM_L_134 O dL_law_522 (c_X6_work hst hM1 hOK.1 (sv_R _ _) (sv_R _ _) (sv_R _ _)).szi rfl rfl hMo.1 (by decide) (Nat.le_of_ble_eq_true rfl) (by omega) (by omega) (Nat.le_of_ble_eq_true rfl) zNx (fun H2 hp2 hz2 => ?_)
    obtain ⟨⟨hf2, hc2⟩, hs1, hs2⟩ := hp2
    rw [if_neg hc]
    obtain ⟨_, hM2⟩ := hc2.resolve_right (fun z => hc z.1)
    obtain ⟨_, _, _, _, _, hMo2, _⟩ := id hM2
    have hLA2 := hLA1.fr hf2 (by show ¬ (_ ≤ _); omega)
    refine z_istore [(6, .int (iI (0))), (5, .int (iI (cWk G (sv xs (jx + 1)) (sv xs (jx + 2)) (sv xs (jx + 3))))), (4, .int (iI (jx))), (0, .ref bs), (1, .ref (a 1200)), (2, .ref q), (3, .ref qo)] O dL_law_525 (by decide) rfl ?_
    refine z_aload_n 5 O dL_law_527 rfl ?_
    refine z_Vi [] [] kM_L_106 O dL_law_528 (c_X6_thrown hst hMo2) rfl rfl hMo2.1 (by decide) (Nat.le_of_ble_eq_true rfl) (by omega) (by omega) (Nat.le_of_ble_eq_true rfl) zNx ?_
    refine z_iload 1 O dL_law_531 rfl ?_
    refine z_icmp_eq 538 O dL_law_533 (by decide) hzc hzc (fun _ => ?_) (fun h => absurd rfl h)
    refine z_iload 1 O dL_law_538 rfl ?_
    refine z_if_ne 555 O dL_law_540 (by decide) hzc (fun _ => ?_) (fun h => absurd h hc)
    refine z_goto 1818 O dL_law_555 (by decide) ?_
    refine z_locs [2, 3, 4, 5, 6] rfl ?_
    exact K H2 r a n tx G fi ac dd kp ik ⟨rfl, hcm1.fr hf2 (fun s h => by show ¬ (_ ≤ _); omega), ⟨_, hM2⟩, ⟨_, hLA2⟩, hOK.keep hN.2⟩ (by have := hx.2.1; omega) (by have := hx.2.2; omega) _ _
theorem kM_L_135 : zMSW RL 135 yL_entry cL_entry 5 (some .int) [(0, 10, 13, 28), (0, 10, 17, 13)] 4 := ⟨(List.mem_of_getElem? (i := 37) (by decide +kernel)), (List.mem_of_getElem? (i := 696) (by decide +kernel)), by decide +kernel, by decide +kernel, by decide +kernel, (List.mem_of_getElem? (i := 694) (by decide +kernel)), (List.mem_of_getElem? (i := 695) (by decide +kernel))⟩
theorem kM_L_137 : zMV RL 137 yX6_entry cX6_entry 4 (some .int) 2 6 := ⟨⟨(List.mem_of_getElem? (i := 47) (by decide +kernel)), (List.mem_of_getElem? (i := 1167) (by decide +kernel)), by decide +kernel, by decide +kernel, by decide +kernel⟩, (List.mem_of_getElem? (i := 1164) (by decide +kernel)), (List.mem_of_getElem? (i := 1165) (by decide +kernel)), (List.mem_of_getElem? (i := 1166) (by decide +kernel)), ⟨_, rfl, rfl⟩⟩
theorem op_entry {x : zX} {bs Ls : Nat} {xs : Nat → Int32} {H : Heap} {r : zH} {a : Nat → Nat} {oa q : Nat} {Q : Nat → Nat} {qo : Nat} {n : Int} {tx G : Int → Int} {fi ac : Int} {dd : Nat → Int → Int} {kp ik : Int → Int} {N jx : Int} {aa bb : Nat} (hst : (zEn x).1.stackTraces = false) (O : zOk x RL cL_law 7 (some .boolean) "law" 12 478 601024 7293034) (hS : zScr x bs Ls xs) (Z : zLs (zEn x) H r a oa q Q qo n tx G fi ac dd kp ik N) (hN : 20 ≤ N ∧ N ≤ 538) (hj : 0 ≤ jx ∧ jx + 4 ≤ Ls ∧ Ls ≤ 2048) (h1 : aa + 13566 ≤ 601024) (h2 : bb + 277336 ≤ 7293034)
    (K : ∀ (H1 : Heap) (r1 : zH) (a1 : Nat → Nat) (n : Int) (tx G : Int → Int) (fi ac : Int) (dd : Nat → Int → Int) (kp ik : Int → Int), zLs (zEn x) H1 r1 a1 oa q Q qo n tx G fi ac dd kp ik (N + 1) → H1.size + zPs r ≤ H.size + zPs r1 + 70 → zSz H1 + 20 * zPs r ≤ zSz H + 20 * zPs r1 + 6700 → ∀ a9 b9 : Nat, zG x H1 a9 b9 1818 (zLv bs oa q qo jx) []) : zG x H aa bb 558 (zLv bs oa q qo jx) [] := by
  obtain ⟨hoa, hcm, ⟨rf, hM⟩, ⟨u0, hLA⟩, hOK⟩ := Z
  subst hoa
  refine z_aload_n 2 O dL_law_558 rfl ?_
  refine z_aload_n 1 O dL_law_559 rfl ?_
  refine z_iload 0 O dL_law_560 rfl ?_
  refine z_iconst 1 O dL_law_562 (by decide +kernel) ?_
  refine z_iadd O dL_law_563 ?_
  refine z_sld hS ⟨by omega, by omega⟩ (by omega) (by omega) O dL_law_564 ?_
  refine z_aload_n 1 O dL_law_565 rfl ?_
  refine z_iload 0 O dL_law_566 rfl ?_
  refine z_iconst 2 O dL_law_568 (by decide +kernel) ?_
  refine z_iadd O dL_law_569 ?_
  refine z_sld hS ⟨by omega, by omega⟩ (by omega) (by omega) O dL_law_570 ?_
  refine z_aload_n 4 O dL_law_571 rfl ?_
  have hzc : zR (cEn (sv xs (jx + 1)) (sv xs (jx + 2))) := by unfold cEn; (repeat' split) <;> exact ⟨by omega, by omega⟩
  refine z_callH [.ref (a 1200), .int (iI (sv xs (jx + 1))), .int (iI (sv xs (jx + 2))), .ref qo] [] kM_L_135 O dL_law_572 (c_L_entry hst hcm hOK (sv_R _ _) (sv_R _ _) hLA) rfl rfl (by decide) (Nat.le_of_ble_eq_true rfl) (by omega) (by omega) (Nat.le_of_ble_eq_true rfl) (fun v9 H1 hp hz => ?_)
  obtain ⟨rfl, hw⟩ := hp
  refine z_istore [(5, .int (iI (cEn (sv xs (jx + 1)) (sv xs (jx + 2))))), (4, .int (iI (jx))), (0, .ref bs), (1, .ref (a 1200)), (2, .ref q), (3, .ref qo)] O dL_law_575 (by decide) rfl ?_
  by_cases hc : cEn (sv xs (jx + 1)) (sv xs (jx + 2)) = 0
  · obtain ⟨_, r1, a1, ha1, hfr, hgv, hcm1, hLA1⟩ := hw.resolve_right (fun z => z.1 hc)
    have hM1 := hM.fr hfr (fun s h => by show ¬ (_ ≤ _); omega)
    obtain ⟨_, _, _, _, _, hMo, _⟩ := id hM1
    refine z_aload_n 4 O dL_law_577 rfl ?_
    refine z_aload_n 2 O dL_law_578 rfl ?_
    refine z_iload 1 O dL_law_579 rfl ?_
    refine z_iconst 1 O dL_law_581 (by decide +kernel) ?_
    refine z_iadd O dL_law_582 ?_
    refine z_sld hS ⟨by omega, by omega⟩ (by omega) (by omega) O dL_law_583 ?_
    refine z_aload_n 2 O dL_law_584 rfl ?_
    refine z_iload 1 O dL_law_585 rfl ?_
    refine z_iconst 2 O dL_law_587 (by decide +kernel) ?_
    refine z_iadd O dL_law_588 ?_
    refine z_sld hS ⟨by omega, by omega⟩ (by omega) (by omega) O dL_law_589 ?_
    refine z_Vim [.int (iI (sv xs (jx + 1))), .int (iI (sv xs (jx + 2)))] [] kM_L_137 O dL_law_590 (c_X6_entry hst hM1 hOK.1 (sv_R _ _) (sv_R _ _)).szi rfl rfl hMo.1 (by decide) (Nat.le_of_ble_eq_true rfl) (by omega) (by omega) (Nat.le_of_ble_eq_true rfl) zNx (fun H2 hp2 hz2 => ?_)
    obtain ⟨⟨hf2, hc2⟩, hs1, hs2⟩ := hp2
    rw [if_pos hc]
    obtain ⟨_, hM2⟩ := hc2.resolve_left (fun z => z.1 hc)
    obtain ⟨_, _, _, _, _, hMo2, _⟩ := id hM2
    have hLA2 := hLA1.fr hf2 (by show ¬ (_ ≤ _); omega)
    refine z_istore [(6, .int (iI ((vEn G (sv xs (jx + 1)) (sv xs (jx + 2)))))), (5, .int (iI (cEn (sv xs (jx + 1)) (sv xs (jx + 2))))), (4, .int (iI (jx))), (0, .ref bs), (1, .ref (a 1200)), (2, .ref q), (3, .ref qo)] O dL_law_593 (by decide) rfl ?_
    refine z_aload_n 5 O dL_law_595 rfl ?_
    refine z_Vi [] [] kM_L_106 O dL_law_596 (c_X6_thrown hst hMo2) rfl rfl hMo2.1 (by decide) (Nat.le_of_ble_eq_true rfl) (by omega) (by omega) (Nat.le_of_ble_eq_true rfl) zNx ?_
    refine z_iload 1 O dL_law_599 rfl ?_
    refine z_icmp_eq 606 O dL_law_601 (by decide) ⟨by omega, by omega⟩ hzc (fun _ => ?_) (fun h => absurd hc.symm h)
    refine z_iload 1 O dL_law_606 rfl ?_
    refine z_if_ne 623 O dL_law_608 (by decide) hzc (fun h => absurd hc h) (fun _ => ?_)
    refine z_aload_n 6 O dL_law_611 rfl ?_
    refine z_iconst 0 O dL_law_612 (by decide +kernel) ?_
    refine z_lald O dL_law_613 hLA2.1 ?_
    refine z_iload 0 O dL_law_614 rfl ?_
    refine z_i2lRh O.h dL_law_616 ?_
    refine z_lcmpS O dL_law_617 ?_
    refine z_if_eq 623 O dL_law_618 (by decide) ⟨by omega, by omega⟩ (fun _ => ?_) (fun h => absurd rfl h)
    refine z_goto 1818 O dL_law_623 (by decide) ?_
    refine z_locs [2, 3, 4, 5, 6] rfl ?_
    exact K H2 r1 a1 n tx G fi ac dd kp ik ⟨ha1, hcm1.fr hf2 (fun s h => by show ¬ (_ ≤ _); omega), ⟨_, hM2⟩, ⟨_, hLA2⟩, hOK.keep hN.2⟩ (by unfold zGv at hgv; omega) (by unfold zGv at hgv; omega) _ _
  · obtain ⟨_, hx⟩ := hw.resolve_left (fun z => hc z.1)
    have hfr : zFr H r H1 r (fun _ => False) := hx.1.frr
    have hcm1 := hcm.fr hfr (fun _ _ h => h)
    have hM1 := hM.fr hfr (fun _ _ h => h)
    have hLA1 := hLA.fr hfr (fun h => h)
    obtain ⟨_, _, _, _, _, hMo, _⟩ := id hM1
    refine z_aload_n 4 O dL_law_577 rfl ?_
    refine z_aload_n 2 O dL_law_578 rfl ?_
    refine z_iload 1 O dL_law_579 rfl ?_
    refine z_iconst 1 O dL_law_581 (by decide +kernel) ?_
    refine z_iadd O dL_law_582 ?_
    refine z_sld hS ⟨by omega, by omega⟩ (by omega) (by omega) O dL_law_583 ?_
    refine z_aload_n 2 O dL_law_584 rfl ?_
    refine z_iload 1 O dL_law_585 rfl ?_
    refine z_iconst 2 O dL_law_587 (by decide +kernel) ?_
    refine z_iadd O dL_law_588 ?_
    refine z_sld hS ⟨by omega, by omega⟩ (by omega) (by omega) O dL_law_589 ?_
    refine z_Vim [.int (iI (sv xs (jx + 1))), .int (iI (sv xs (jx + 2)))] [] kM_L_137 O dL_law_590 (c_X6_entry hst hM1 hOK.1 (sv_R _ _) (sv_R _ _)).szi rfl rfl hMo.1 (by decide) (Nat.le_of_ble_eq_true rfl) (by omega) (by omega) (Nat.le_of_ble_eq_true rfl) zNx (fun H2 hp2 hz2 => ?_)
    obtain ⟨⟨hf2, hc2⟩, hs1, hs2⟩ := hp2
    rw [if_neg hc]
    obtain ⟨_, hM2⟩ := hc2.resolve_right (fun z => hc z.1)
    obtain ⟨_, _, _, _, _, hMo2, _⟩ := id hM2
    have hLA2 := hLA1.fr hf2 (by show ¬ (_ ≤ _); omega)
    refine z_istore [(6, .int (iI (0))), (5, .int (iI (cEn (sv xs (jx + 1)) (sv xs (jx + 2))))), (4, .int (iI (jx))), (0, .ref bs), (1, .ref (a 1200)), (2, .ref q), (3, .ref qo)] O dL_law_593 (by decide) rfl ?_
    refine z_aload_n 5 O dL_law_595 rfl ?_
    refine z_Vi [] [] kM_L_106 O dL_law_596 (c_X6_thrown hst hMo2) rfl rfl hMo2.1 (by decide) (Nat.le_of_ble_eq_true rfl) (by omega) (by omega) (Nat.le_of_ble_eq_true rfl) zNx ?_
    refine z_iload 1 O dL_law_599 rfl ?_
    refine z_icmp_eq 606 O dL_law_601 (by decide) hzc hzc (fun _ => ?_) (fun h => absurd rfl h)
    refine z_iload 1 O dL_law_606 rfl ?_
    refine z_if_ne 623 O dL_law_608 (by decide) hzc (fun _ => ?_) (fun h => absurd h hc)
    refine z_goto 1818 O dL_law_623 (by decide) ?_
    refine z_locs [2, 3, 4, 5, 6] rfl ?_
    exact K H2 r a n tx G fi ac dd kp ik ⟨rfl, hcm1.fr hf2 (fun s h => by show ¬ (_ ≤ _); omega), ⟨_, hM2⟩, ⟨_, hLA2⟩, hOK.keep hN.2⟩ (by have := hx.2.1; omega) (by have := hx.2.2; omega) _ _
theorem kM_L_138 : zMSW RL 138 yL_begin cL_begin 4 (some .int) [(0, 9, 12, 28), (0, 9, 15, 15)] 3 := ⟨(List.mem_of_getElem? (i := 37) (by decide +kernel)), (List.mem_of_getElem? (i := 704) (by decide +kernel)), by decide +kernel, by decide +kernel, by decide +kernel, (List.mem_of_getElem? (i := 702) (by decide +kernel)), (List.mem_of_getElem? (i := 703) (by decide +kernel))⟩
theorem kM_L_140 : zMV RL 140 yX6_begin cX6_begin 3 (some .int) 1 6 := ⟨⟨(List.mem_of_getElem? (i := 47) (by decide +kernel)), (List.mem_of_getElem? (i := 1171) (by decide +kernel)), by decide +kernel, by decide +kernel, by decide +kernel⟩, (List.mem_of_getElem? (i := 1168) (by decide +kernel)), (List.mem_of_getElem? (i := 1169) (by decide +kernel)), (List.mem_of_getElem? (i := 1170) (by decide +kernel)), ⟨_, rfl, rfl⟩⟩
theorem op_begin {x : zX} {bs Ls : Nat} {xs : Nat → Int32} {H : Heap} {r : zH} {a : Nat → Nat} {oa q : Nat} {Q : Nat → Nat} {qo : Nat} {n : Int} {tx G : Int → Int} {fi ac : Int} {dd : Nat → Int → Int} {kp ik : Int → Int} {N jx : Int} {aa bb : Nat} (hst : (zEn x).1.stackTraces = false) (O : zOk x RL cL_law 7 (some .boolean) "law" 12 478 601024 7293034) (hS : zScr x bs Ls xs) (Z : zLs (zEn x) H r a oa q Q qo n tx G fi ac dd kp ik N) (hN : 20 ≤ N ∧ N ≤ 538) (hj : 0 ≤ jx ∧ jx + 4 ≤ Ls ∧ Ls ≤ 2048) (h1 : aa + 13566 ≤ 601024) (h2 : bb + 277336 ≤ 7293034)
    (K : ∀ (H1 : Heap) (r1 : zH) (a1 : Nat → Nat) (n : Int) (tx G : Int → Int) (fi ac : Int) (dd : Nat → Int → Int) (kp ik : Int → Int), zLs (zEn x) H1 r1 a1 oa q Q qo n tx G fi ac dd kp ik (N + 1) → H1.size + zPs r ≤ H.size + zPs r1 + 70 → zSz H1 + 20 * zPs r ≤ zSz H + 20 * zPs r1 + 6700 → ∀ a9 b9 : Nat, zG x H1 a9 b9 1818 (zLv bs oa q qo jx) []) : zG x H aa bb 626 (zLv bs oa q qo jx) [] := by
  obtain ⟨hoa, hcm, ⟨rf, hM⟩, ⟨u0, hLA⟩, hOK⟩ := Z
  subst hoa
  refine z_aload_n 2 O dL_law_626 rfl ?_
  refine z_aload_n 1 O dL_law_627 rfl ?_
  refine z_iload 0 O dL_law_628 rfl ?_
  refine z_iconst 1 O dL_law_630 (by decide +kernel) ?_
  refine z_iadd O dL_law_631 ?_
  refine z_sld hS ⟨by omega, by omega⟩ (by omega) (by omega) O dL_law_632 ?_
  refine z_aload_n 4 O dL_law_633 rfl ?_
  have hzc : zR (cBe G (sv xs (jx + 1))) := by unfold cBe; (repeat' split) <;> exact ⟨by omega, by omega⟩
  refine z_callH [.ref (a 1200), .int (iI (sv xs (jx + 1))), .ref qo] [] kM_L_138 O dL_law_634 (c_L_begin hst hcm hOK (sv_R _ _) hLA) rfl rfl (by decide) (Nat.le_of_ble_eq_true rfl) (by omega) (by omega) (Nat.le_of_ble_eq_true rfl) (fun v9 H1 hp hz => ?_)
  obtain ⟨rfl, hw⟩ := hp
  refine z_istore [(5, .int (iI (cBe G (sv xs (jx + 1))))), (4, .int (iI (jx))), (0, .ref bs), (1, .ref (a 1200)), (2, .ref q), (3, .ref qo)] O dL_law_637 (by decide) rfl ?_
  by_cases hc : cBe G (sv xs (jx + 1)) = 0
  · obtain ⟨_, r1, a1, ha1, hfr, hgv, hcm1, hLA1⟩ := hw.resolve_right (fun z => z.1 hc)
    have hM1 := hM.fr hfr (fun s h => by show ¬ (_ ≤ _); omega)
    obtain ⟨_, _, _, _, _, hMo, _⟩ := id hM1
    refine z_aload_n 4 O dL_law_639 rfl ?_
    refine z_aload_n 2 O dL_law_640 rfl ?_
    refine z_iload 1 O dL_law_641 rfl ?_
    refine z_iconst 1 O dL_law_643 (by decide +kernel) ?_
    refine z_iadd O dL_law_644 ?_
    refine z_sld hS ⟨by omega, by omega⟩ (by omega) (by omega) O dL_law_645 ?_
    refine z_Vim [.int (iI (sv xs (jx + 1)))] [] kM_L_140 O dL_law_646 (c_X6_begin hst hM1 hOK.1 (sv_R _ _)).szi rfl rfl hMo.1 (by decide) (Nat.le_of_ble_eq_true rfl) (by omega) (by omega) (Nat.le_of_ble_eq_true rfl) zNx (fun H2 hp2 hz2 => ?_)
    obtain ⟨⟨hf2, hc2⟩, hs1, hs2⟩ := hp2
    rw [if_pos hc]
    obtain ⟨_, hM2⟩ := hc2.resolve_left (fun z => z.1 hc)
    obtain ⟨_, _, _, _, _, hMo2, _⟩ := id hM2
    have hLA2 := hLA1.fr hf2 (by show ¬ (_ ≤ _); omega)
    refine z_istore [(6, .int (iI ((sBegin G (sv xs (jx + 1)) (at_ (sv xs (jx + 1)) 0))))), (5, .int (iI (cBe G (sv xs (jx + 1))))), (4, .int (iI (jx))), (0, .ref bs), (1, .ref (a 1200)), (2, .ref q), (3, .ref qo)] O dL_law_649 (by decide) rfl ?_
    refine z_aload_n 5 O dL_law_651 rfl ?_
    refine z_Vi [] [] kM_L_106 O dL_law_652 (c_X6_thrown hst hMo2) rfl rfl hMo2.1 (by decide) (Nat.le_of_ble_eq_true rfl) (by omega) (by omega) (Nat.le_of_ble_eq_true rfl) zNx ?_
    refine z_iload 1 O dL_law_655 rfl ?_
    refine z_icmp_eq 662 O dL_law_657 (by decide) ⟨by omega, by omega⟩ hzc (fun _ => ?_) (fun h => absurd hc.symm h)
    refine z_iload 1 O dL_law_662 rfl ?_
    refine z_if_ne 679 O dL_law_664 (by decide) hzc (fun h => absurd hc h) (fun _ => ?_)
    refine z_aload_n 6 O dL_law_667 rfl ?_
    refine z_iconst 0 O dL_law_668 (by decide +kernel) ?_
    refine z_lald O dL_law_669 hLA2.1 ?_
    refine z_iload 0 O dL_law_670 rfl ?_
    refine z_i2lRh O.h dL_law_672 ?_
    refine z_lcmpS O dL_law_673 ?_
    refine z_if_eq 679 O dL_law_674 (by decide) ⟨by omega, by omega⟩ (fun _ => ?_) (fun h => absurd rfl h)
    refine z_goto 1818 O dL_law_679 (by decide) ?_
    refine z_locs [2, 3, 4, 5, 6] rfl ?_
    exact K H2 r1 a1 n tx (sBegin G (sv xs (jx + 1))) (mFi fi ac) (mAc ac) (zDw dd (mIx fi ac) G) kp ik ⟨ha1, hcm1.fr hf2 (fun s h => by show ¬ (_ ≤ _); omega), ⟨_, hM2⟩, ⟨_, hLA2⟩, kp_begin hOK hN.2 hc⟩ (by unfold zGv at hgv; omega) (by unfold zGv at hgv; omega) _ _
  · obtain ⟨_, hx⟩ := hw.resolve_left (fun z => hc z.1)
    have hfr : zFr H r H1 r (fun _ => False) := hx.1.frr
    have hcm1 := hcm.fr hfr (fun _ _ h => h)
    have hM1 := hM.fr hfr (fun _ _ h => h)
    have hLA1 := hLA.fr hfr (fun h => h)
    obtain ⟨_, _, _, _, _, hMo, _⟩ := id hM1
    refine z_aload_n 4 O dL_law_639 rfl ?_
    refine z_aload_n 2 O dL_law_640 rfl ?_
    refine z_iload 1 O dL_law_641 rfl ?_
    refine z_iconst 1 O dL_law_643 (by decide +kernel) ?_
    refine z_iadd O dL_law_644 ?_
    refine z_sld hS ⟨by omega, by omega⟩ (by omega) (by omega) O dL_law_645 ?_
    refine z_Vim [.int (iI (sv xs (jx + 1)))] [] kM_L_140 O dL_law_646 (c_X6_begin hst hM1 hOK.1 (sv_R _ _)).szi rfl rfl hMo.1 (by decide) (Nat.le_of_ble_eq_true rfl) (by omega) (by omega) (Nat.le_of_ble_eq_true rfl) zNx (fun H2 hp2 hz2 => ?_)
    obtain ⟨⟨hf2, hc2⟩, hs1, hs2⟩ := hp2
    rw [if_neg hc]
    obtain ⟨_, hM2⟩ := hc2.resolve_right (fun z => hc z.1)
    obtain ⟨_, _, _, _, _, hMo2, _⟩ := id hM2
    have hLA2 := hLA1.fr hf2 (by show ¬ (_ ≤ _); omega)
    refine z_istore [(6, .int (iI (0))), (5, .int (iI (cBe G (sv xs (jx + 1))))), (4, .int (iI (jx))), (0, .ref bs), (1, .ref (a 1200)), (2, .ref q), (3, .ref qo)] O dL_law_649 (by decide) rfl ?_
    refine z_aload_n 5 O dL_law_651 rfl ?_
    refine z_Vi [] [] kM_L_106 O dL_law_652 (c_X6_thrown hst hMo2) rfl rfl hMo2.1 (by decide) (Nat.le_of_ble_eq_true rfl) (by omega) (by omega) (Nat.le_of_ble_eq_true rfl) zNx ?_
    refine z_iload 1 O dL_law_655 rfl ?_
    refine z_icmp_eq 662 O dL_law_657 (by decide) hzc hzc (fun _ => ?_) (fun h => absurd rfl h)
    refine z_iload 1 O dL_law_662 rfl ?_
    refine z_if_ne 679 O dL_law_664 (by decide) hzc (fun _ => ?_) (fun h => absurd h hc)
    refine z_goto 1818 O dL_law_679 (by decide) ?_
    refine z_locs [2, 3, 4, 5, 6] rfl ?_
    exact K H2 r a n tx G fi ac dd kp ik ⟨rfl, hcm1.fr hf2 (fun s h => by show ¬ (_ ≤ _); omega), ⟨_, hM2⟩, ⟨_, hLA2⟩, hOK.keep hN.2⟩ (by have := hx.2.1; omega) (by have := hx.2.2; omega) _ _
theorem kM_L_141 : zMSW RL 141 yL_write cL_write 6 (some .int) [(0, 12, 15, 28), (0, 12, 19, 13), (0, 12, 23, 15)] 5 := ⟨(List.mem_of_getElem? (i := 37) (by decide +kernel)), (List.mem_of_getElem? (i := 744) (by decide +kernel)), by decide +kernel, by decide +kernel, by decide +kernel, (List.mem_of_getElem? (i := 742) (by decide +kernel)), (List.mem_of_getElem? (i := 743) (by decide +kernel))⟩
theorem kM_L_143 : zMV RL 143 yX6_write cX6_write 5 (some .int) 3 6 := ⟨⟨(List.mem_of_getElem? (i := 47) (by decide +kernel)), (List.mem_of_getElem? (i := 1183) (by decide +kernel)), by decide +kernel, by decide +kernel, by decide +kernel⟩, (List.mem_of_getElem? (i := 1180) (by decide +kernel)), (List.mem_of_getElem? (i := 1181) (by decide +kernel)), (List.mem_of_getElem? (i := 1182) (by decide +kernel)), ⟨_, rfl, rfl⟩⟩
theorem op_write {x : zX} {bs Ls : Nat} {xs : Nat → Int32} {H : Heap} {r : zH} {a : Nat → Nat} {oa q : Nat} {Q : Nat → Nat} {qo : Nat} {n : Int} {tx G : Int → Int} {fi ac : Int} {dd : Nat → Int → Int} {kp ik : Int → Int} {N jx : Int} {aa bb : Nat} (hst : (zEn x).1.stackTraces = false) (O : zOk x RL cL_law 7 (some .boolean) "law" 12 478 601024 7293034) (hS : zScr x bs Ls xs) (Z : zLs (zEn x) H r a oa q Q qo n tx G fi ac dd kp ik N) (hN : 20 ≤ N ∧ N ≤ 538) (hj : 0 ≤ jx ∧ jx + 4 ≤ Ls ∧ Ls ≤ 2048) (h1 : aa + 13566 ≤ 601024) (h2 : bb + 277336 ≤ 7293034)
    (K : ∀ (H1 : Heap) (r1 : zH) (a1 : Nat → Nat) (n : Int) (tx G : Int → Int) (fi ac : Int) (dd : Nat → Int → Int) (kp ik : Int → Int), zLs (zEn x) H1 r1 a1 oa q Q qo n tx G fi ac dd kp ik (N + 1) → H1.size + zPs r ≤ H.size + zPs r1 + 70 → zSz H1 + 20 * zPs r ≤ zSz H + 20 * zPs r1 + 6700 → ∀ a9 b9 : Nat, zG x H1 a9 b9 1818 (zLv bs oa q qo jx) []) : zG x H aa bb 682 (zLv bs oa q qo jx) [] := by
  obtain ⟨hoa, hcm, ⟨rf, hM⟩, ⟨u0, hLA⟩, hOK⟩ := Z
  subst hoa
  refine z_aload_n 2 O dL_law_682 rfl ?_
  refine z_aload_n 1 O dL_law_683 rfl ?_
  refine z_iload 0 O dL_law_684 rfl ?_
  refine z_iconst 1 O dL_law_686 (by decide +kernel) ?_
  refine z_iadd O dL_law_687 ?_
  refine z_sld hS ⟨by omega, by omega⟩ (by omega) (by omega) O dL_law_688 ?_
  refine z_aload_n 1 O dL_law_689 rfl ?_
  refine z_iload 0 O dL_law_690 rfl ?_
  refine z_iconst 2 O dL_law_692 (by decide +kernel) ?_
  refine z_iadd O dL_law_693 ?_
  refine z_sld hS ⟨by omega, by omega⟩ (by omega) (by omega) O dL_law_694 ?_
  refine z_aload_n 1 O dL_law_695 rfl ?_
  refine z_iload 0 O dL_law_696 rfl ?_
  refine z_iconst 3 O dL_law_698 (by decide +kernel) ?_
  refine z_iadd O dL_law_699 ?_
  refine z_sld hS ⟨by omega, by omega⟩ (by omega) (by omega) O dL_law_700 ?_
  refine z_aload_n 4 O dL_law_701 rfl ?_
  have hzc : zR (cWr G (sv xs (jx + 1)) (sv xs (jx + 2)) (sv xs (jx + 3))) := by unfold cWr; (repeat' split) <;> exact ⟨by omega, by omega⟩
  refine z_callH [.ref (a 1200), .int (iI (sv xs (jx + 1))), .int (iI (sv xs (jx + 2))), .int (iI (sv xs (jx + 3))), .ref qo] [] kM_L_141 O dL_law_702 (c_L_write hst hcm hOK (sv_R _ _) (sv_R _ _) (sv_R _ _) hLA) rfl rfl (by decide) (Nat.le_of_ble_eq_true rfl) (by omega) (by omega) (Nat.le_of_ble_eq_true rfl) (fun v9 H1 hp hz => ?_)
  obtain ⟨rfl, hw⟩ := hp
  refine z_istore [(5, .int (iI (cWr G (sv xs (jx + 1)) (sv xs (jx + 2)) (sv xs (jx + 3))))), (4, .int (iI (jx))), (0, .ref bs), (1, .ref (a 1200)), (2, .ref q), (3, .ref qo)] O dL_law_705 (by decide) rfl ?_
  by_cases hc : cWr G (sv xs (jx + 1)) (sv xs (jx + 2)) (sv xs (jx + 3)) = 0
  · obtain ⟨_, r1, a1, ha1, hfr, hgv, hcm1, hLA1⟩ := hw.resolve_right (fun z => z.1 hc)
    have hM1 := hM.fr hfr (fun s h => by show ¬ (_ ≤ _); omega)
    obtain ⟨_, _, _, _, _, hMo, _⟩ := id hM1
    refine z_aload_n 4 O dL_law_707 rfl ?_
    refine z_aload_n 2 O dL_law_708 rfl ?_
    refine z_iload 1 O dL_law_709 rfl ?_
    refine z_iconst 1 O dL_law_711 (by decide +kernel) ?_
    refine z_iadd O dL_law_712 ?_
    refine z_sld hS ⟨by omega, by omega⟩ (by omega) (by omega) O dL_law_713 ?_
    refine z_aload_n 2 O dL_law_714 rfl ?_
    refine z_iload 1 O dL_law_715 rfl ?_
    refine z_iconst 2 O dL_law_717 (by decide +kernel) ?_
    refine z_iadd O dL_law_718 ?_
    refine z_sld hS ⟨by omega, by omega⟩ (by omega) (by omega) O dL_law_719 ?_
    refine z_aload_n 2 O dL_law_720 rfl ?_
    refine z_iload 1 O dL_law_721 rfl ?_
    refine z_iconst 3 O dL_law_723 (by decide +kernel) ?_
    refine z_iadd O dL_law_724 ?_
    refine z_sld hS ⟨by omega, by omega⟩ (by omega) (by omega) O dL_law_725 ?_
    refine z_Vim [.int (iI (sv xs (jx + 1))), .int (iI (sv xs (jx + 2))), .int (iI (sv xs (jx + 3)))] [] kM_L_143 O dL_law_726 (c_X6_write hst hM1 hOK.1 (sv_R _ _) (sv_R _ _) (sv_R _ _)).szi rfl rfl hMo.1 (by decide) (Nat.le_of_ble_eq_true rfl) (by omega) (by omega) (Nat.le_of_ble_eq_true rfl) zNx (fun H2 hp2 hz2 => ?_)
    obtain ⟨⟨hf2, hc2⟩, hs1, hs2⟩ := hp2
    rw [if_pos hc]
    obtain ⟨_, hM2⟩ := hc2.resolve_left (fun z => z.1 hc)
    obtain ⟨_, _, _, _, _, hMo2, _⟩ := id hM2
    have hLA2 := hLA1.fr hf2 (by show ¬ (_ ≤ _); omega)
    refine z_istore [(6, .int (iI ((G (sv xs (jx + 2)))))), (5, .int (iI (cWr G (sv xs (jx + 1)) (sv xs (jx + 2)) (sv xs (jx + 3))))), (4, .int (iI (jx))), (0, .ref bs), (1, .ref (a 1200)), (2, .ref q), (3, .ref qo)] O dL_law_729 (by decide) rfl ?_
    refine z_aload_n 5 O dL_law_731 rfl ?_
    refine z_Vi [] [] kM_L_106 O dL_law_732 (c_X6_thrown hst hMo2) rfl rfl hMo2.1 (by decide) (Nat.le_of_ble_eq_true rfl) (by omega) (by omega) (Nat.le_of_ble_eq_true rfl) zNx ?_
    refine z_iload 1 O dL_law_735 rfl ?_
    refine z_icmp_eq 742 O dL_law_737 (by decide) ⟨by omega, by omega⟩ hzc (fun _ => ?_) (fun h => absurd hc.symm h)
    refine z_iload 1 O dL_law_742 rfl ?_
    refine z_if_ne 759 O dL_law_744 (by decide) hzc (fun h => absurd hc h) (fun _ => ?_)
    refine z_aload_n 6 O dL_law_747 rfl ?_
    refine z_iconst 0 O dL_law_748 (by decide +kernel) ?_
    refine z_lald O dL_law_749 hLA2.1 ?_
    refine z_iload 0 O dL_law_750 rfl ?_
    refine z_i2lRh O.h dL_law_752 ?_
    refine z_lcmpS O dL_law_753 ?_
    refine z_if_eq 759 O dL_law_754 (by decide) ⟨by omega, by omega⟩ (fun _ => ?_) (fun h => absurd rfl h)
    refine z_goto 1818 O dL_law_759 (by decide) ?_
    refine z_locs [2, 3, 4, 5, 6] rfl ?_
    exact K H2 r1 a1 n tx (sWrite G (sv xs (jx + 1)) (sv xs (jx + 2)) (sv xs (jx + 3))) (mFi fi ac) (mAc ac) (zDw dd (mIx fi ac) G) kp ik ⟨ha1, hcm1.fr hf2 (fun s h => by show ¬ (_ ≤ _); omega), ⟨_, hM2⟩, ⟨_, hLA2⟩, kp_write hOK hN.2 hc⟩ (by unfold zGv at hgv; omega) (by unfold zGv at hgv; omega) _ _
  · obtain ⟨_, hx⟩ := hw.resolve_left (fun z => hc z.1)
    have hfr : zFr H r H1 r (fun _ => False) := hx.1.frr
    have hcm1 := hcm.fr hfr (fun _ _ h => h)
    have hM1 := hM.fr hfr (fun _ _ h => h)
    have hLA1 := hLA.fr hfr (fun h => h)
    obtain ⟨_, _, _, _, _, hMo, _⟩ := id hM1
    refine z_aload_n 4 O dL_law_707 rfl ?_
    refine z_aload_n 2 O dL_law_708 rfl ?_
    refine z_iload 1 O dL_law_709 rfl ?_
    refine z_iconst 1 O dL_law_711 (by decide +kernel) ?_
    refine z_iadd O dL_law_712 ?_
    refine z_sld hS ⟨by omega, by omega⟩ (by omega) (by omega) O dL_law_713 ?_
    refine z_aload_n 2 O dL_law_714 rfl ?_
    refine z_iload 1 O dL_law_715 rfl ?_
    refine z_iconst 2 O dL_law_717 (by decide +kernel) ?_
    refine z_iadd O dL_law_718 ?_
    refine z_sld hS ⟨by omega, by omega⟩ (by omega) (by omega) O dL_law_719 ?_
    refine z_aload_n 2 O dL_law_720 rfl ?_
    refine z_iload 1 O dL_law_721 rfl ?_
    refine z_iconst 3 O dL_law_723 (by decide +kernel) ?_
    refine z_iadd O dL_law_724 ?_
    refine z_sld hS ⟨by omega, by omega⟩ (by omega) (by omega) O dL_law_725 ?_
    refine z_Vim [.int (iI (sv xs (jx + 1))), .int (iI (sv xs (jx + 2))), .int (iI (sv xs (jx + 3)))] [] kM_L_143 O dL_law_726 (c_X6_write hst hM1 hOK.1 (sv_R _ _) (sv_R _ _) (sv_R _ _)).szi rfl rfl hMo.1 (by decide) (Nat.le_of_ble_eq_true rfl) (by omega) (by omega) (Nat.le_of_ble_eq_true rfl) zNx (fun H2 hp2 hz2 => ?_)
    obtain ⟨⟨hf2, hc2⟩, hs1, hs2⟩ := hp2
    rw [if_neg hc]
    obtain ⟨_, hM2⟩ := hc2.resolve_right (fun z => hc z.1)
    obtain ⟨_, _, _, _, _, hMo2, _⟩ := id hM2
    have hLA2 := hLA1.fr hf2 (by show ¬ (_ ≤ _); omega)
    refine z_istore [(6, .int (iI (0))), (5, .int (iI (cWr G (sv xs (jx + 1)) (sv xs (jx + 2)) (sv xs (jx + 3))))), (4, .int (iI (jx))), (0, .ref bs), (1, .ref (a 1200)), (2, .ref q), (3, .ref qo)] O dL_law_729 (by decide) rfl ?_
    refine z_aload_n 5 O dL_law_731 rfl ?_
    refine z_Vi [] [] kM_L_106 O dL_law_732 (c_X6_thrown hst hMo2) rfl rfl hMo2.1 (by decide) (Nat.le_of_ble_eq_true rfl) (by omega) (by omega) (Nat.le_of_ble_eq_true rfl) zNx ?_
    refine z_iload 1 O dL_law_735 rfl ?_
    refine z_icmp_eq 742 O dL_law_737 (by decide) hzc hzc (fun _ => ?_) (fun h => absurd rfl h)
    refine z_iload 1 O dL_law_742 rfl ?_
    refine z_if_ne 759 O dL_law_744 (by decide) hzc (fun _ => ?_) (fun h => absurd h hc)
    refine z_goto 1818 O dL_law_759 (by decide) ?_
    refine z_locs [2, 3, 4, 5, 6] rfl ?_
    exact K H2 r a n tx G fi ac dd kp ik ⟨rfl, hcm1.fr hf2 (fun s h => by show ¬ (_ ≤ _); omega), ⟨_, hM2⟩, ⟨_, hLA2⟩, hOK.keep hN.2⟩ (by have := hx.2.1; omega) (by have := hx.2.2; omega) _ _
theorem kM_L_144 : zMSW RL 144 yL_point cL_point 4 (some .int) [(0, 9, 12, 28), (0, 9, 15, 15)] 3 := ⟨(List.mem_of_getElem? (i := 37) (by decide +kernel)), (List.mem_of_getElem? (i := 753) (by decide +kernel)), by decide +kernel, by decide +kernel, by decide +kernel, (List.mem_of_getElem? (i := 751) (by decide +kernel)), (List.mem_of_getElem? (i := 752) (by decide +kernel))⟩
theorem kM_L_146 : zMV RL 146 yX6_point cX6_point 3 (some .int) 1 6 := ⟨⟨(List.mem_of_getElem? (i := 47) (by decide +kernel)), (List.mem_of_getElem? (i := 1188) (by decide +kernel)), by decide +kernel, by decide +kernel, by decide +kernel⟩, (List.mem_of_getElem? (i := 1185) (by decide +kernel)), (List.mem_of_getElem? (i := 1186) (by decide +kernel)), (List.mem_of_getElem? (i := 1187) (by decide +kernel)), ⟨_, rfl, rfl⟩⟩
theorem op_point {x : zX} {bs Ls : Nat} {xs : Nat → Int32} {H : Heap} {r : zH} {a : Nat → Nat} {oa q : Nat} {Q : Nat → Nat} {qo : Nat} {n : Int} {tx G : Int → Int} {fi ac : Int} {dd : Nat → Int → Int} {kp ik : Int → Int} {N jx : Int} {aa bb : Nat} (hst : (zEn x).1.stackTraces = false) (O : zOk x RL cL_law 7 (some .boolean) "law" 12 478 601024 7293034) (hS : zScr x bs Ls xs) (Z : zLs (zEn x) H r a oa q Q qo n tx G fi ac dd kp ik N) (hN : 20 ≤ N ∧ N ≤ 538) (hj : 0 ≤ jx ∧ jx + 4 ≤ Ls ∧ Ls ≤ 2048) (h1 : aa + 13566 ≤ 601024) (h2 : bb + 277336 ≤ 7293034)
    (K : ∀ (H1 : Heap) (r1 : zH) (a1 : Nat → Nat) (n : Int) (tx G : Int → Int) (fi ac : Int) (dd : Nat → Int → Int) (kp ik : Int → Int), zLs (zEn x) H1 r1 a1 oa q Q qo n tx G fi ac dd kp ik (N + 1) → H1.size + zPs r ≤ H.size + zPs r1 + 70 → zSz H1 + 20 * zPs r ≤ zSz H + 20 * zPs r1 + 6700 → ∀ a9 b9 : Nat, zG x H1 a9 b9 1818 (zLv bs oa q qo jx) []) : zG x H aa bb 762 (zLv bs oa q qo jx) [] := by
  obtain ⟨hoa, hcm, ⟨rf, hM⟩, ⟨u0, hLA⟩, hOK⟩ := Z
  subst hoa
  refine z_aload_n 2 O dL_law_762 rfl ?_
  refine z_aload_n 1 O dL_law_763 rfl ?_
  refine z_iload 0 O dL_law_764 rfl ?_
  refine z_iconst 1 O dL_law_766 (by decide +kernel) ?_
  refine z_iadd O dL_law_767 ?_
  refine z_sld hS ⟨by omega, by omega⟩ (by omega) (by omega) O dL_law_768 ?_
  refine z_aload_n 4 O dL_law_769 rfl ?_
  have hzc : zR (cPo G (sv xs (jx + 1))) := by unfold cPo; (repeat' split) <;> exact ⟨by omega, by omega⟩
  refine z_callH [.ref (a 1200), .int (iI (sv xs (jx + 1))), .ref qo] [] kM_L_144 O dL_law_770 (c_L_point hst hcm hOK (sv_R _ _) hLA) rfl rfl (by decide) (Nat.le_of_ble_eq_true rfl) (by omega) (by omega) (Nat.le_of_ble_eq_true rfl) (fun v9 H1 hp hz => ?_)
  obtain ⟨rfl, hw⟩ := hp
  refine z_istore [(5, .int (iI (cPo G (sv xs (jx + 1))))), (4, .int (iI (jx))), (0, .ref bs), (1, .ref (a 1200)), (2, .ref q), (3, .ref qo)] O dL_law_773 (by decide) rfl ?_
  by_cases hc : cPo G (sv xs (jx + 1)) = 0
  · obtain ⟨_, r1, a1, ha1, hfr, hgv, hcm1, hLA1⟩ := hw.resolve_right (fun z => z.1 hc)
    have hM1 := hM.fr hfr (fun s h => by show ¬ (_ ≤ _); omega)
    obtain ⟨_, _, _, _, _, hMo, _⟩ := id hM1
    refine z_aload_n 4 O dL_law_775 rfl ?_
    refine z_aload_n 2 O dL_law_776 rfl ?_
    refine z_iload 1 O dL_law_777 rfl ?_
    refine z_iconst 1 O dL_law_779 (by decide +kernel) ?_
    refine z_iadd O dL_law_780 ?_
    refine z_sld hS ⟨by omega, by omega⟩ (by omega) (by omega) O dL_law_781 ?_
    refine z_Vim [.int (iI (sv xs (jx + 1)))] [] kM_L_146 O dL_law_782 (c_X6_point hst hM1 hOK.1 (sv_R _ _)).szi rfl rfl hMo.1 (by decide) (Nat.le_of_ble_eq_true rfl) (by omega) (by omega) (Nat.le_of_ble_eq_true rfl) zNx (fun H2 hp2 hz2 => ?_)
    obtain ⟨⟨hf2, hc2⟩, hs1, hs2⟩ := hp2
    rw [if_pos hc]
    obtain ⟨_, hM2⟩ := hc2.resolve_left (fun z => z.1 hc)
    obtain ⟨_, _, _, _, _, hMo2, _⟩ := id hM2
    have hLA2 := hLA1.fr hf2 (by show ¬ (_ ≤ _); omega)
    refine z_istore [(6, .int (iI ((G (sIn G (sv xs (jx + 1)) 2))))), (5, .int (iI (cPo G (sv xs (jx + 1))))), (4, .int (iI (jx))), (0, .ref bs), (1, .ref (a 1200)), (2, .ref q), (3, .ref qo)] O dL_law_785 (by decide) rfl ?_
    refine z_aload_n 5 O dL_law_787 rfl ?_
    refine z_Vi [] [] kM_L_106 O dL_law_788 (c_X6_thrown hst hMo2) rfl rfl hMo2.1 (by decide) (Nat.le_of_ble_eq_true rfl) (by omega) (by omega) (Nat.le_of_ble_eq_true rfl) zNx ?_
    refine z_iload 1 O dL_law_791 rfl ?_
    refine z_icmp_eq 798 O dL_law_793 (by decide) ⟨by omega, by omega⟩ hzc (fun _ => ?_) (fun h => absurd hc.symm h)
    refine z_iload 1 O dL_law_798 rfl ?_
    refine z_if_ne 815 O dL_law_800 (by decide) hzc (fun h => absurd hc h) (fun _ => ?_)
    refine z_aload_n 6 O dL_law_803 rfl ?_
    refine z_iconst 0 O dL_law_804 (by decide +kernel) ?_
    refine z_lald O dL_law_805 hLA2.1 ?_
    refine z_iload 0 O dL_law_806 rfl ?_
    refine z_i2lRh O.h dL_law_808 ?_
    refine z_lcmpS O dL_law_809 ?_
    refine z_if_eq 815 O dL_law_810 (by decide) ⟨by omega, by omega⟩ (fun _ => ?_) (fun h => absurd rfl h)
    refine z_goto 1818 O dL_law_815 (by decide) ?_
    refine z_locs [2, 3, 4, 5, 6] rfl ?_
    exact K H2 r1 a1 n tx (sPoint G (sv xs (jx + 1))) (mFi fi ac) (mAc ac) (zDw dd (mIx fi ac) G) kp ik ⟨ha1, hcm1.fr hf2 (fun s h => by show ¬ (_ ≤ _); omega), ⟨_, hM2⟩, ⟨_, hLA2⟩, kp_point hOK hN.2 hc⟩ (by unfold zGv at hgv; omega) (by unfold zGv at hgv; omega) _ _
  · obtain ⟨_, hx⟩ := hw.resolve_left (fun z => hc z.1)
    have hfr : zFr H r H1 r (fun _ => False) := hx.1.frr
    have hcm1 := hcm.fr hfr (fun _ _ h => h)
    have hM1 := hM.fr hfr (fun _ _ h => h)
    have hLA1 := hLA.fr hfr (fun h => h)
    obtain ⟨_, _, _, _, _, hMo, _⟩ := id hM1
    refine z_aload_n 4 O dL_law_775 rfl ?_
    refine z_aload_n 2 O dL_law_776 rfl ?_
    refine z_iload 1 O dL_law_777 rfl ?_
    refine z_iconst 1 O dL_law_779 (by decide +kernel) ?_
    refine z_iadd O dL_law_780 ?_
    refine z_sld hS ⟨by omega, by omega⟩ (by omega) (by omega) O dL_law_781 ?_
    refine z_Vim [.int (iI (sv xs (jx + 1)))] [] kM_L_146 O dL_law_782 (c_X6_point hst hM1 hOK.1 (sv_R _ _)).szi rfl rfl hMo.1 (by decide) (Nat.le_of_ble_eq_true rfl) (by omega) (by omega) (Nat.le_of_ble_eq_true rfl) zNx (fun H2 hp2 hz2 => ?_)
    obtain ⟨⟨hf2, hc2⟩, hs1, hs2⟩ := hp2
    rw [if_neg hc]
    obtain ⟨_, hM2⟩ := hc2.resolve_right (fun z => hc z.1)
    obtain ⟨_, _, _, _, _, hMo2, _⟩ := id hM2
    have hLA2 := hLA1.fr hf2 (by show ¬ (_ ≤ _); omega)
    refine z_istore [(6, .int (iI (0))), (5, .int (iI (cPo G (sv xs (jx + 1))))), (4, .int (iI (jx))), (0, .ref bs), (1, .ref (a 1200)), (2, .ref q), (3, .ref qo)] O dL_law_785 (by decide) rfl ?_
    refine z_aload_n 5 O dL_law_787 rfl ?_
    refine z_Vi [] [] kM_L_106 O dL_law_788 (c_X6_thrown hst hMo2) rfl rfl hMo2.1 (by decide) (Nat.le_of_ble_eq_true rfl) (by omega) (by omega) (Nat.le_of_ble_eq_true rfl) zNx ?_
    refine z_iload 1 O dL_law_791 rfl ?_
    refine z_icmp_eq 798 O dL_law_793 (by decide) hzc hzc (fun _ => ?_) (fun h => absurd rfl h)
    refine z_iload 1 O dL_law_798 rfl ?_
    refine z_if_ne 815 O dL_law_800 (by decide) hzc (fun _ => ?_) (fun h => absurd h hc)
    refine z_goto 1818 O dL_law_815 (by decide) ?_
    refine z_locs [2, 3, 4, 5, 6] rfl ?_
    exact K H2 r a n tx G fi ac dd kp ik ⟨rfl, hcm1.fr hf2 (fun s h => by show ¬ (_ ≤ _); omega), ⟨_, hM2⟩, ⟨_, hLA2⟩, hOK.keep hN.2⟩ (by have := hx.2.1; omega) (by have := hx.2.2; omega) _ _
theorem kM_L_147 : zMSW RL 147 yL_back cL_back 5 (some .int) [(0, 10, 13, 28), (0, 10, 17, 15)] 4 := ⟨(List.mem_of_getElem? (i := 37) (by decide +kernel)), (List.mem_of_getElem? (i := 760) (by decide +kernel)), by decide +kernel, by decide +kernel, by decide +kernel, (List.mem_of_getElem? (i := 758) (by decide +kernel)), (List.mem_of_getElem? (i := 759) (by decide +kernel))⟩
theorem kM_L_149 : zMV RL 149 yX6_back cX6_back 4 (some .int) 2 6 := ⟨⟨(List.mem_of_getElem? (i := 47) (by decide +kernel)), (List.mem_of_getElem? (i := 1192) (by decide +kernel)), by decide +kernel, by decide +kernel, by decide +kernel⟩, (List.mem_of_getElem? (i := 1189) (by decide +kernel)), (List.mem_of_getElem? (i := 1190) (by decide +kernel)), (List.mem_of_getElem? (i := 1191) (by decide +kernel)), ⟨_, rfl, rfl⟩⟩
theorem op_back {x : zX} {bs Ls : Nat} {xs : Nat → Int32} {H : Heap} {r : zH} {a : Nat → Nat} {oa q : Nat} {Q : Nat → Nat} {qo : Nat} {n : Int} {tx G : Int → Int} {fi ac : Int} {dd : Nat → Int → Int} {kp ik : Int → Int} {N jx : Int} {aa bb : Nat} (hst : (zEn x).1.stackTraces = false) (O : zOk x RL cL_law 7 (some .boolean) "law" 12 478 601024 7293034) (hS : zScr x bs Ls xs) (Z : zLs (zEn x) H r a oa q Q qo n tx G fi ac dd kp ik N) (hN : 20 ≤ N ∧ N ≤ 538) (hj : 0 ≤ jx ∧ jx + 4 ≤ Ls ∧ Ls ≤ 2048) (h1 : aa + 13566 ≤ 601024) (h2 : bb + 277336 ≤ 7293034)
    (K : ∀ (H1 : Heap) (r1 : zH) (a1 : Nat → Nat) (n : Int) (tx G : Int → Int) (fi ac : Int) (dd : Nat → Int → Int) (kp ik : Int → Int), zLs (zEn x) H1 r1 a1 oa q Q qo n tx G fi ac dd kp ik (N + 1) → H1.size + zPs r ≤ H.size + zPs r1 + 70 → zSz H1 + 20 * zPs r ≤ zSz H + 20 * zPs r1 + 6700 → ∀ a9 b9 : Nat, zG x H1 a9 b9 1818 (zLv bs oa q qo jx) []) : zG x H aa bb 818 (zLv bs oa q qo jx) [] := by
  obtain ⟨hoa, hcm, ⟨rf, hM⟩, ⟨u0, hLA⟩, hOK⟩ := Z
  subst hoa
  refine z_aload_n 2 O dL_law_818 rfl ?_
  refine z_aload_n 1 O dL_law_819 rfl ?_
  refine z_iload 0 O dL_law_820 rfl ?_
  refine z_iconst 1 O dL_law_822 (by decide +kernel) ?_
  refine z_iadd O dL_law_823 ?_
  refine z_sld hS ⟨by omega, by omega⟩ (by omega) (by omega) O dL_law_824 ?_
  refine z_aload_n 1 O dL_law_825 rfl ?_
  refine z_iload 0 O dL_law_826 rfl ?_
  refine z_iconst 2 O dL_law_828 (by decide +kernel) ?_
  refine z_iadd O dL_law_829 ?_
  refine z_sld hS ⟨by omega, by omega⟩ (by omega) (by omega) O dL_law_830 ?_
  refine z_aload_n 4 O dL_law_831 rfl ?_
  have hzc : zR (cBk G (sv xs (jx + 1)) (sv xs (jx + 2))) := by unfold cBk; (repeat' split) <;> exact ⟨by omega, by omega⟩
  refine z_callH [.ref (a 1200), .int (iI (sv xs (jx + 1))), .int (iI (sv xs (jx + 2))), .ref qo] [] kM_L_147 O dL_law_832 (c_L_back hst hcm hOK (sv_R _ _) (sv_R _ _) hLA) rfl rfl (by decide) (Nat.le_of_ble_eq_true rfl) (by omega) (by omega) (Nat.le_of_ble_eq_true rfl) (fun v9 H1 hp hz => ?_)
  obtain ⟨rfl, hw⟩ := hp
  refine z_istore [(5, .int (iI (cBk G (sv xs (jx + 1)) (sv xs (jx + 2))))), (4, .int (iI (jx))), (0, .ref bs), (1, .ref (a 1200)), (2, .ref q), (3, .ref qo)] O dL_law_835 (by decide) rfl ?_
  by_cases hc : cBk G (sv xs (jx + 1)) (sv xs (jx + 2)) = 0
  · obtain ⟨_, r1, a1, ha1, hfr, hgv, hcm1, hLA1⟩ := hw.resolve_right (fun z => z.1 hc)
    have hM1 := hM.fr hfr (fun s h => by show ¬ (_ ≤ _); omega)
    obtain ⟨_, _, _, _, _, hMo, _⟩ := id hM1
    refine z_aload_n 4 O dL_law_837 rfl ?_
    refine z_aload_n 2 O dL_law_838 rfl ?_
    refine z_iload 1 O dL_law_839 rfl ?_
    refine z_iconst 1 O dL_law_841 (by decide +kernel) ?_
    refine z_iadd O dL_law_842 ?_
    refine z_sld hS ⟨by omega, by omega⟩ (by omega) (by omega) O dL_law_843 ?_
    refine z_aload_n 2 O dL_law_844 rfl ?_
    refine z_iload 1 O dL_law_845 rfl ?_
    refine z_iconst 2 O dL_law_847 (by decide +kernel) ?_
    refine z_iadd O dL_law_848 ?_
    refine z_sld hS ⟨by omega, by omega⟩ (by omega) (by omega) O dL_law_849 ?_
    refine z_Vim [.int (iI (sv xs (jx + 1))), .int (iI (sv xs (jx + 2)))] [] kM_L_149 O dL_law_850 (c_X6_back hst hM1 hOK.1 (sv_R _ _) (sv_R _ _)).szi rfl rfl hMo.1 (by decide) (Nat.le_of_ble_eq_true rfl) (by omega) (by omega) (Nat.le_of_ble_eq_true rfl) zNx (fun H2 hp2 hz2 => ?_)
    obtain ⟨⟨hf2, hc2⟩, hs1, hs2⟩ := hp2
    rw [if_pos hc]
    obtain ⟨_, hM2⟩ := hc2.resolve_left (fun z => z.1 hc)
    obtain ⟨_, _, _, _, _, hMo2, _⟩ := id hM2
    have hLA2 := hLA1.fr hf2 (by show ¬ (_ ≤ _); omega)
    refine z_istore [(6, .int (iI ((G (at_ (sv xs (jx + 1)) 1) - G (sIn G (sv xs (jx + 1)) (5 + (sv xs (jx + 2)))))))), (5, .int (iI (cBk G (sv xs (jx + 1)) (sv xs (jx + 2))))), (4, .int (iI (jx))), (0, .ref bs), (1, .ref (a 1200)), (2, .ref q), (3, .ref qo)] O dL_law_853 (by decide) rfl ?_
    refine z_aload_n 5 O dL_law_855 rfl ?_
    refine z_Vi [] [] kM_L_106 O dL_law_856 (c_X6_thrown hst hMo2) rfl rfl hMo2.1 (by decide) (Nat.le_of_ble_eq_true rfl) (by omega) (by omega) (Nat.le_of_ble_eq_true rfl) zNx ?_
    refine z_iload 1 O dL_law_859 rfl ?_
    refine z_icmp_eq 866 O dL_law_861 (by decide) ⟨by omega, by omega⟩ hzc (fun _ => ?_) (fun h => absurd hc.symm h)
    refine z_iload 1 O dL_law_866 rfl ?_
    refine z_if_ne 883 O dL_law_868 (by decide) hzc (fun h => absurd hc h) (fun _ => ?_)
    refine z_aload_n 6 O dL_law_871 rfl ?_
    refine z_iconst 0 O dL_law_872 (by decide +kernel) ?_
    refine z_lald O dL_law_873 hLA2.1 ?_
    refine z_iload 0 O dL_law_874 rfl ?_
    refine z_i2lRh O.h dL_law_876 ?_
    refine z_lcmpS O dL_law_877 ?_
    refine z_if_eq 883 O dL_law_878 (by decide) ⟨by omega, by omega⟩ (fun _ => ?_) (fun h => absurd rfl h)
    refine z_goto 1818 O dL_law_883 (by decide) ?_
    refine z_locs [2, 3, 4, 5, 6] rfl ?_
    exact K H2 r1 a1 n tx (sBack G (sv xs (jx + 1)) (sv xs (jx + 2))) (mFi fi ac) (mAc ac) (zDw dd (mIx fi ac) G) kp ik ⟨ha1, hcm1.fr hf2 (fun s h => by show ¬ (_ ≤ _); omega), ⟨_, hM2⟩, ⟨_, hLA2⟩, kp_back hOK hN.2 hc⟩ (by unfold zGv at hgv; omega) (by unfold zGv at hgv; omega) _ _
  · obtain ⟨_, hx⟩ := hw.resolve_left (fun z => hc z.1)
    have hfr : zFr H r H1 r (fun _ => False) := hx.1.frr
    have hcm1 := hcm.fr hfr (fun _ _ h => h)
    have hM1 := hM.fr hfr (fun _ _ h => h)
    have hLA1 := hLA.fr hfr (fun h => h)
    obtain ⟨_, _, _, _, _, hMo, _⟩ := id hM1
    refine z_aload_n 4 O dL_law_837 rfl ?_
    refine z_aload_n 2 O dL_law_838 rfl ?_
    refine z_iload 1 O dL_law_839 rfl ?_
    refine z_iconst 1 O dL_law_841 (by decide +kernel) ?_
    refine z_iadd O dL_law_842 ?_
    refine z_sld hS ⟨by omega, by omega⟩ (by omega) (by omega) O dL_law_843 ?_
    refine z_aload_n 2 O dL_law_844 rfl ?_
    refine z_iload 1 O dL_law_845 rfl ?_
    refine z_iconst 2 O dL_law_847 (by decide +kernel) ?_
    refine z_iadd O dL_law_848 ?_
    refine z_sld hS ⟨by omega, by omega⟩ (by omega) (by omega) O dL_law_849 ?_
    refine z_Vim [.int (iI (sv xs (jx + 1))), .int (iI (sv xs (jx + 2)))] [] kM_L_149 O dL_law_850 (c_X6_back hst hM1 hOK.1 (sv_R _ _) (sv_R _ _)).szi rfl rfl hMo.1 (by decide) (Nat.le_of_ble_eq_true rfl) (by omega) (by omega) (Nat.le_of_ble_eq_true rfl) zNx (fun H2 hp2 hz2 => ?_)
    obtain ⟨⟨hf2, hc2⟩, hs1, hs2⟩ := hp2
    rw [if_neg hc]
    obtain ⟨_, hM2⟩ := hc2.resolve_right (fun z => hc z.1)
    obtain ⟨_, _, _, _, _, hMo2, _⟩ := id hM2
    have hLA2 := hLA1.fr hf2 (by show ¬ (_ ≤ _); omega)
    refine z_istore [(6, .int (iI (0))), (5, .int (iI (cBk G (sv xs (jx + 1)) (sv xs (jx + 2))))), (4, .int (iI (jx))), (0, .ref bs), (1, .ref (a 1200)), (2, .ref q), (3, .ref qo)] O dL_law_853 (by decide) rfl ?_
    refine z_aload_n 5 O dL_law_855 rfl ?_
    refine z_Vi [] [] kM_L_106 O dL_law_856 (c_X6_thrown hst hMo2) rfl rfl hMo2.1 (by decide) (Nat.le_of_ble_eq_true rfl) (by omega) (by omega) (Nat.le_of_ble_eq_true rfl) zNx ?_
    refine z_iload 1 O dL_law_859 rfl ?_
    refine z_icmp_eq 866 O dL_law_861 (by decide) hzc hzc (fun _ => ?_) (fun h => absurd rfl h)
    refine z_iload 1 O dL_law_866 rfl ?_
    refine z_if_ne 883 O dL_law_868 (by decide) hzc (fun _ => ?_) (fun h => absurd h hc)
    refine z_goto 1818 O dL_law_883 (by decide) ?_
    refine z_locs [2, 3, 4, 5, 6] rfl ?_
    exact K H2 r a n tx G fi ac dd kp ik ⟨rfl, hcm1.fr hf2 (fun s h => by show ¬ (_ ≤ _); omega), ⟨_, hM2⟩, ⟨_, hLA2⟩, hOK.keep hN.2⟩ (by have := hx.2.1; omega) (by have := hx.2.2; omega) _ _
theorem kM_L_150 : zMSW RL 150 yL_regret cL_regret 6 (some .int) [(0, 12, 15, 28), (0, 12, 19, 13), (0, 12, 23, 15)] 5 := ⟨(List.mem_of_getElem? (i := 37) (by decide +kernel)), (List.mem_of_getElem? (i := 772) (by decide +kernel)), by decide +kernel, by decide +kernel, by decide +kernel, (List.mem_of_getElem? (i := 770) (by decide +kernel)), (List.mem_of_getElem? (i := 771) (by decide +kernel))⟩
theorem kM_L_152 : zMV RL 152 yX6_regret cX6_regret 5 (some .int) 3 6 := ⟨⟨(List.mem_of_getElem? (i := 47) (by decide +kernel)), (List.mem_of_getElem? (i := 1196) (by decide +kernel)), by decide +kernel, by decide +kernel, by decide +kernel⟩, (List.mem_of_getElem? (i := 1193) (by decide +kernel)), (List.mem_of_getElem? (i := 1194) (by decide +kernel)), (List.mem_of_getElem? (i := 1195) (by decide +kernel)), ⟨_, rfl, rfl⟩⟩
theorem op_regret {x : zX} {bs Ls : Nat} {xs : Nat → Int32} {H : Heap} {r : zH} {a : Nat → Nat} {oa q : Nat} {Q : Nat → Nat} {qo : Nat} {n : Int} {tx G : Int → Int} {fi ac : Int} {dd : Nat → Int → Int} {kp ik : Int → Int} {N jx : Int} {aa bb : Nat} (hst : (zEn x).1.stackTraces = false) (O : zOk x RL cL_law 7 (some .boolean) "law" 12 478 601024 7293034) (hS : zScr x bs Ls xs) (Z : zLs (zEn x) H r a oa q Q qo n tx G fi ac dd kp ik N) (hN : 20 ≤ N ∧ N ≤ 538) (hj : 0 ≤ jx ∧ jx + 4 ≤ Ls ∧ Ls ≤ 2048) (h1 : aa + 13566 ≤ 601024) (h2 : bb + 277336 ≤ 7293034)
    (K : ∀ (H1 : Heap) (r1 : zH) (a1 : Nat → Nat) (n : Int) (tx G : Int → Int) (fi ac : Int) (dd : Nat → Int → Int) (kp ik : Int → Int), zLs (zEn x) H1 r1 a1 oa q Q qo n tx G fi ac dd kp ik (N + 1) → H1.size + zPs r ≤ H.size + zPs r1 + 70 → zSz H1 + 20 * zPs r ≤ zSz H + 20 * zPs r1 + 6700 → ∀ a9 b9 : Nat, zG x H1 a9 b9 1818 (zLv bs oa q qo jx) []) : zG x H aa bb 886 (zLv bs oa q qo jx) [] := by
  obtain ⟨hoa, hcm, ⟨rf, hM⟩, ⟨u0, hLA⟩, hOK⟩ := Z
  subst hoa
  refine z_aload_n 2 O dL_law_886 rfl ?_
  refine z_aload_n 1 O dL_law_887 rfl ?_
  refine z_iload 0 O dL_law_888 rfl ?_
  refine z_iconst 1 O dL_law_890 (by decide +kernel) ?_
  refine z_iadd O dL_law_891 ?_
  refine z_sld hS ⟨by omega, by omega⟩ (by omega) (by omega) O dL_law_892 ?_
  refine z_aload_n 1 O dL_law_893 rfl ?_
  refine z_iload 0 O dL_law_894 rfl ?_
  refine z_iconst 2 O dL_law_896 (by decide +kernel) ?_
  refine z_iadd O dL_law_897 ?_
  refine z_sld hS ⟨by omega, by omega⟩ (by omega) (by omega) O dL_law_898 ?_
  refine z_aload_n 1 O dL_law_899 rfl ?_
  refine z_iload 0 O dL_law_900 rfl ?_
  refine z_iconst 3 O dL_law_902 (by decide +kernel) ?_
  refine z_iadd O dL_law_903 ?_
  refine z_sld hS ⟨by omega, by omega⟩ (by omega) (by omega) O dL_law_904 ?_
  refine z_aload_n 4 O dL_law_905 rfl ?_
  have hzc : zR (cRg G (sv xs (jx + 1)) (sv xs (jx + 2)) (sv xs (jx + 3))) := by unfold cRg; (repeat' split) <;> exact ⟨by omega, by omega⟩
  refine z_callH [.ref (a 1200), .int (iI (sv xs (jx + 1))), .int (iI (sv xs (jx + 2))), .int (iI (sv xs (jx + 3))), .ref qo] [] kM_L_150 O dL_law_906 (c_L_regret hst hcm hOK (sv_R _ _) (sv_R _ _) (sv_R _ _) hLA) rfl rfl (by decide) (Nat.le_of_ble_eq_true rfl) (by omega) (by omega) (Nat.le_of_ble_eq_true rfl) (fun v9 H1 hp hz => ?_)
  obtain ⟨rfl, hw⟩ := hp
  refine z_istore [(5, .int (iI (cRg G (sv xs (jx + 1)) (sv xs (jx + 2)) (sv xs (jx + 3))))), (4, .int (iI (jx))), (0, .ref bs), (1, .ref (a 1200)), (2, .ref q), (3, .ref qo)] O dL_law_909 (by decide) rfl ?_
  by_cases hc : cRg G (sv xs (jx + 1)) (sv xs (jx + 2)) (sv xs (jx + 3)) = 0
  · obtain ⟨_, r1, a1, ha1, hfr, hgv, hcm1, hLA1⟩ := hw.resolve_right (fun z => z.1 hc)
    have hM1 := hM.fr hfr (fun s h => by show ¬ (_ ≤ _); omega)
    obtain ⟨_, _, _, _, _, hMo, _⟩ := id hM1
    refine z_aload_n 4 O dL_law_911 rfl ?_
    refine z_aload_n 2 O dL_law_912 rfl ?_
    refine z_iload 1 O dL_law_913 rfl ?_
    refine z_iconst 1 O dL_law_915 (by decide +kernel) ?_
    refine z_iadd O dL_law_916 ?_
    refine z_sld hS ⟨by omega, by omega⟩ (by omega) (by omega) O dL_law_917 ?_
    refine z_aload_n 2 O dL_law_918 rfl ?_
    refine z_iload 1 O dL_law_919 rfl ?_
    refine z_iconst 2 O dL_law_921 (by decide +kernel) ?_
    refine z_iadd O dL_law_922 ?_
    refine z_sld hS ⟨by omega, by omega⟩ (by omega) (by omega) O dL_law_923 ?_
    refine z_aload_n 2 O dL_law_924 rfl ?_
    refine z_iload 1 O dL_law_925 rfl ?_
    refine z_iconst 3 O dL_law_927 (by decide +kernel) ?_
    refine z_iadd O dL_law_928 ?_
    refine z_sld hS ⟨by omega, by omega⟩ (by omega) (by omega) O dL_law_929 ?_
    refine z_Vim [.int (iI (sv xs (jx + 1))), .int (iI (sv xs (jx + 2))), .int (iI (sv xs (jx + 3)))] [] kM_L_152 O dL_law_930 (c_X6_regret hst hM1 hOK.1 (sv_R _ _) (sv_R _ _) (sv_R _ _)).szi rfl rfl hMo.1 (by decide) (Nat.le_of_ble_eq_true rfl) (by omega) (by omega) (Nat.le_of_ble_eq_true rfl) zNx (fun H2 hp2 hz2 => ?_)
    obtain ⟨⟨hf2, hc2⟩, hs1, hs2⟩ := hp2
    rw [if_pos hc]
    obtain ⟨_, hM2⟩ := hc2.resolve_left (fun z => z.1 hc)
    obtain ⟨_, _, _, _, _, hMo2, _⟩ := id hM2
    have hLA2 := hLA1.fr hf2 (by show ¬ (_ ≤ _); omega)
    refine z_istore [(6, .int (iI ((sRg (sRegret G (sv xs (jx + 1)) (sv xs (jx + 2)) (sv xs (jx + 3))) (sv xs (jx + 1)) (G (at_ (sv xs (jx + 1)) 0) - 1))))), (5, .int (iI (cRg G (sv xs (jx + 1)) (sv xs (jx + 2)) (sv xs (jx + 3))))), (4, .int (iI (jx))), (0, .ref bs), (1, .ref (a 1200)), (2, .ref q), (3, .ref qo)] O dL_law_933 (by decide) rfl ?_
    refine z_aload_n 5 O dL_law_935 rfl ?_
    refine z_Vi [] [] kM_L_106 O dL_law_936 (c_X6_thrown hst hMo2) rfl rfl hMo2.1 (by decide) (Nat.le_of_ble_eq_true rfl) (by omega) (by omega) (Nat.le_of_ble_eq_true rfl) zNx ?_
    refine z_iload 1 O dL_law_939 rfl ?_
    refine z_icmp_eq 946 O dL_law_941 (by decide) ⟨by omega, by omega⟩ hzc (fun _ => ?_) (fun h => absurd hc.symm h)
    refine z_iload 1 O dL_law_946 rfl ?_
    refine z_if_ne 963 O dL_law_948 (by decide) hzc (fun h => absurd hc h) (fun _ => ?_)
    refine z_aload_n 6 O dL_law_951 rfl ?_
    refine z_iconst 0 O dL_law_952 (by decide +kernel) ?_
    refine z_lald O dL_law_953 hLA2.1 ?_
    refine z_iload 0 O dL_law_954 rfl ?_
    refine z_i2lRh O.h dL_law_956 ?_
    refine z_lcmpS O dL_law_957 ?_
    refine z_if_eq 963 O dL_law_958 (by decide) ⟨by omega, by omega⟩ (fun _ => ?_) (fun h => absurd rfl h)
    refine z_goto 1818 O dL_law_963 (by decide) ?_
    refine z_locs [2, 3, 4, 5, 6] rfl ?_
    exact K H2 r1 a1 n tx (sRegret G (sv xs (jx + 1)) (sv xs (jx + 2)) (sv xs (jx + 3))) (mFi fi ac) (mAc ac) (zDw dd (mIx fi ac) G) kp ik ⟨ha1, hcm1.fr hf2 (fun s h => by show ¬ (_ ≤ _); omega), ⟨_, hM2⟩, ⟨_, hLA2⟩, kp_regret hOK hN.2 hc⟩ (by unfold zGv at hgv; omega) (by unfold zGv at hgv; omega) _ _
  · obtain ⟨_, hx⟩ := hw.resolve_left (fun z => hc z.1)
    have hfr : zFr H r H1 r (fun _ => False) := hx.1.frr
    have hcm1 := hcm.fr hfr (fun _ _ h => h)
    have hM1 := hM.fr hfr (fun _ _ h => h)
    have hLA1 := hLA.fr hfr (fun h => h)
    obtain ⟨_, _, _, _, _, hMo, _⟩ := id hM1
    refine z_aload_n 4 O dL_law_911 rfl ?_
    refine z_aload_n 2 O dL_law_912 rfl ?_
    refine z_iload 1 O dL_law_913 rfl ?_
    refine z_iconst 1 O dL_law_915 (by decide +kernel) ?_
    refine z_iadd O dL_law_916 ?_
    refine z_sld hS ⟨by omega, by omega⟩ (by omega) (by omega) O dL_law_917 ?_
    refine z_aload_n 2 O dL_law_918 rfl ?_
    refine z_iload 1 O dL_law_919 rfl ?_
    refine z_iconst 2 O dL_law_921 (by decide +kernel) ?_
    refine z_iadd O dL_law_922 ?_
    refine z_sld hS ⟨by omega, by omega⟩ (by omega) (by omega) O dL_law_923 ?_
    refine z_aload_n 2 O dL_law_924 rfl ?_
    refine z_iload 1 O dL_law_925 rfl ?_
    refine z_iconst 3 O dL_law_927 (by decide +kernel) ?_
    refine z_iadd O dL_law_928 ?_
    refine z_sld hS ⟨by omega, by omega⟩ (by omega) (by omega) O dL_law_929 ?_
    refine z_Vim [.int (iI (sv xs (jx + 1))), .int (iI (sv xs (jx + 2))), .int (iI (sv xs (jx + 3)))] [] kM_L_152 O dL_law_930 (c_X6_regret hst hM1 hOK.1 (sv_R _ _) (sv_R _ _) (sv_R _ _)).szi rfl rfl hMo.1 (by decide) (Nat.le_of_ble_eq_true rfl) (by omega) (by omega) (Nat.le_of_ble_eq_true rfl) zNx (fun H2 hp2 hz2 => ?_)
    obtain ⟨⟨hf2, hc2⟩, hs1, hs2⟩ := hp2
    rw [if_neg hc]
    obtain ⟨_, hM2⟩ := hc2.resolve_right (fun z => hc z.1)
    obtain ⟨_, _, _, _, _, hMo2, _⟩ := id hM2
    have hLA2 := hLA1.fr hf2 (by show ¬ (_ ≤ _); omega)
    refine z_istore [(6, .int (iI (0))), (5, .int (iI (cRg G (sv xs (jx + 1)) (sv xs (jx + 2)) (sv xs (jx + 3))))), (4, .int (iI (jx))), (0, .ref bs), (1, .ref (a 1200)), (2, .ref q), (3, .ref qo)] O dL_law_933 (by decide) rfl ?_
    refine z_aload_n 5 O dL_law_935 rfl ?_
    refine z_Vi [] [] kM_L_106 O dL_law_936 (c_X6_thrown hst hMo2) rfl rfl hMo2.1 (by decide) (Nat.le_of_ble_eq_true rfl) (by omega) (by omega) (Nat.le_of_ble_eq_true rfl) zNx ?_
    refine z_iload 1 O dL_law_939 rfl ?_
    refine z_icmp_eq 946 O dL_law_941 (by decide) hzc hzc (fun _ => ?_) (fun h => absurd rfl h)
    refine z_iload 1 O dL_law_946 rfl ?_
    refine z_if_ne 963 O dL_law_948 (by decide) hzc (fun _ => ?_) (fun h => absurd h hc)
    refine z_goto 1818 O dL_law_963 (by decide) ?_
    refine z_locs [2, 3, 4, 5, 6] rfl ?_
    exact K H2 r a n tx G fi ac dd kp ik ⟨rfl, hcm1.fr hf2 (fun s h => by show ¬ (_ ≤ _); omega), ⟨_, hM2⟩, ⟨_, hLA2⟩, hOK.keep hN.2⟩ (by have := hx.2.1; omega) (by have := hx.2.2; omega) _ _
theorem kM_L_153 : zMSW RL 153 yL_done cL_done 4 (some .int) [(0, 9, 12, 28), (0, 9, 15, 15)] 3 := ⟨(List.mem_of_getElem? (i := 37) (by decide +kernel)), (List.mem_of_getElem? (i := 780) (by decide +kernel)), by decide +kernel, by decide +kernel, by decide +kernel, (List.mem_of_getElem? (i := 778) (by decide +kernel)), (List.mem_of_getElem? (i := 779) (by decide +kernel))⟩
theorem kM_L_155 : zMV RL 155 yX6_done cX6_done 3 (some .int) 1 6 := ⟨⟨(List.mem_of_getElem? (i := 47) (by decide +kernel)), (List.mem_of_getElem? (i := 1200) (by decide +kernel)), by decide +kernel, by decide +kernel, by decide +kernel⟩, (List.mem_of_getElem? (i := 1197) (by decide +kernel)), (List.mem_of_getElem? (i := 1198) (by decide +kernel)), (List.mem_of_getElem? (i := 1199) (by decide +kernel)), ⟨_, rfl, rfl⟩⟩
theorem op_done {x : zX} {bs Ls : Nat} {xs : Nat → Int32} {H : Heap} {r : zH} {a : Nat → Nat} {oa q : Nat} {Q : Nat → Nat} {qo : Nat} {n : Int} {tx G : Int → Int} {fi ac : Int} {dd : Nat → Int → Int} {kp ik : Int → Int} {N jx : Int} {aa bb : Nat} (hst : (zEn x).1.stackTraces = false) (O : zOk x RL cL_law 7 (some .boolean) "law" 12 478 601024 7293034) (hS : zScr x bs Ls xs) (Z : zLs (zEn x) H r a oa q Q qo n tx G fi ac dd kp ik N) (hN : 20 ≤ N ∧ N ≤ 538) (hj : 0 ≤ jx ∧ jx + 4 ≤ Ls ∧ Ls ≤ 2048) (h1 : aa + 13566 ≤ 601024) (h2 : bb + 277336 ≤ 7293034)
    (K : ∀ (H1 : Heap) (r1 : zH) (a1 : Nat → Nat) (n : Int) (tx G : Int → Int) (fi ac : Int) (dd : Nat → Int → Int) (kp ik : Int → Int), zLs (zEn x) H1 r1 a1 oa q Q qo n tx G fi ac dd kp ik (N + 1) → H1.size + zPs r ≤ H.size + zPs r1 + 70 → zSz H1 + 20 * zPs r ≤ zSz H + 20 * zPs r1 + 6700 → ∀ a9 b9 : Nat, zG x H1 a9 b9 1818 (zLv bs oa q qo jx) []) : zG x H aa bb 966 (zLv bs oa q qo jx) [] := by
  obtain ⟨hoa, hcm, ⟨rf, hM⟩, ⟨u0, hLA⟩, hOK⟩ := Z
  subst hoa
  refine z_aload_n 2 O dL_law_966 rfl ?_
  refine z_aload_n 1 O dL_law_967 rfl ?_
  refine z_iload 0 O dL_law_968 rfl ?_
  refine z_iconst 1 O dL_law_970 (by decide +kernel) ?_
  refine z_iadd O dL_law_971 ?_
  refine z_sld hS ⟨by omega, by omega⟩ (by omega) (by omega) O dL_law_972 ?_
  refine z_aload_n 4 O dL_law_973 rfl ?_
  have hzc : zR (cDo G (sv xs (jx + 1))) := by unfold cDo; (repeat' split) <;> exact ⟨by omega, by omega⟩
  refine z_callH [.ref (a 1200), .int (iI (sv xs (jx + 1))), .ref qo] [] kM_L_153 O dL_law_974 (c_L_done hst hcm hOK (sv_R _ _) hLA) rfl rfl (by decide) (Nat.le_of_ble_eq_true rfl) (by omega) (by omega) (Nat.le_of_ble_eq_true rfl) (fun v9 H1 hp hz => ?_)
  obtain ⟨rfl, hw⟩ := hp
  refine z_istore [(5, .int (iI (cDo G (sv xs (jx + 1))))), (4, .int (iI (jx))), (0, .ref bs), (1, .ref (a 1200)), (2, .ref q), (3, .ref qo)] O dL_law_977 (by decide) rfl ?_
  by_cases hc : cDo G (sv xs (jx + 1)) = 0
  · obtain ⟨_, r1, a1, ha1, hfr, hgv, hcm1, hLA1⟩ := hw.resolve_right (fun z => z.1 hc)
    have hM1 := hM.fr hfr (fun s h => by show ¬ (_ ≤ _); omega)
    obtain ⟨_, _, _, _, _, hMo, _⟩ := id hM1
    refine z_aload_n 4 O dL_law_979 rfl ?_
    refine z_aload_n 2 O dL_law_980 rfl ?_
    refine z_iload 1 O dL_law_981 rfl ?_
    refine z_iconst 1 O dL_law_983 (by decide +kernel) ?_
    refine z_iadd O dL_law_984 ?_
    refine z_sld hS ⟨by omega, by omega⟩ (by omega) (by omega) O dL_law_985 ?_
    refine z_Vim [.int (iI (sv xs (jx + 1)))] [] kM_L_155 O dL_law_986 (c_X6_done hst hM1 hOK.1 (sv_R _ _)).szi rfl rfl hMo.1 (by decide) (Nat.le_of_ble_eq_true rfl) (by omega) (by omega) (Nat.le_of_ble_eq_true rfl) zNx (fun H2 hp2 hz2 => ?_)
    obtain ⟨⟨hf2, hc2⟩, hs1, hs2⟩ := hp2
    rw [if_pos hc]
    obtain ⟨_, hM2⟩ := hc2.resolve_left (fun z => z.1 hc)
    obtain ⟨_, _, _, _, _, hMo2, _⟩ := id hM2
    have hLA2 := hLA1.fr hf2 (by show ¬ (_ ≤ _); omega)
    refine z_istore [(6, .int (iI ((G (at_ (sv xs (jx + 1)) 0) - 1)))), (5, .int (iI (cDo G (sv xs (jx + 1))))), (4, .int (iI (jx))), (0, .ref bs), (1, .ref (a 1200)), (2, .ref q), (3, .ref qo)] O dL_law_989 (by decide) rfl ?_
    refine z_aload_n 5 O dL_law_991 rfl ?_
    refine z_Vi [] [] kM_L_106 O dL_law_992 (c_X6_thrown hst hMo2) rfl rfl hMo2.1 (by decide) (Nat.le_of_ble_eq_true rfl) (by omega) (by omega) (Nat.le_of_ble_eq_true rfl) zNx ?_
    refine z_iload 1 O dL_law_995 rfl ?_
    refine z_icmp_eq 1002 O dL_law_997 (by decide) ⟨by omega, by omega⟩ hzc (fun _ => ?_) (fun h => absurd hc.symm h)
    refine z_iload 1 O dL_law_1002 rfl ?_
    refine z_if_ne 1019 O dL_law_1004 (by decide) hzc (fun h => absurd hc h) (fun _ => ?_)
    refine z_aload_n 6 O dL_law_1007 rfl ?_
    refine z_iconst 0 O dL_law_1008 (by decide +kernel) ?_
    refine z_lald O dL_law_1009 hLA2.1 ?_
    refine z_iload 0 O dL_law_1010 rfl ?_
    refine z_i2lRh O.h dL_law_1012 ?_
    refine z_lcmpS O dL_law_1013 ?_
    refine z_if_eq 1019 O dL_law_1014 (by decide) ⟨by omega, by omega⟩ (fun _ => ?_) (fun h => absurd rfl h)
    refine z_goto 1818 O dL_law_1019 (by decide) ?_
    refine z_locs [2, 3, 4, 5, 6] rfl ?_
    exact K H2 r1 a1 n tx (sDone G (sv xs (jx + 1))) (mFi fi ac) (mAc ac) (zDw dd (mIx fi ac) G) kp ik ⟨ha1, hcm1.fr hf2 (fun s h => by show ¬ (_ ≤ _); omega), ⟨_, hM2⟩, ⟨_, hLA2⟩, kp_done hOK hN.2 hc⟩ (by unfold zGv at hgv; omega) (by unfold zGv at hgv; omega) _ _
  · obtain ⟨_, hx⟩ := hw.resolve_left (fun z => hc z.1)
    have hfr : zFr H r H1 r (fun _ => False) := hx.1.frr
    have hcm1 := hcm.fr hfr (fun _ _ h => h)
    have hM1 := hM.fr hfr (fun _ _ h => h)
    have hLA1 := hLA.fr hfr (fun h => h)
    obtain ⟨_, _, _, _, _, hMo, _⟩ := id hM1
    refine z_aload_n 4 O dL_law_979 rfl ?_
    refine z_aload_n 2 O dL_law_980 rfl ?_
    refine z_iload 1 O dL_law_981 rfl ?_
    refine z_iconst 1 O dL_law_983 (by decide +kernel) ?_
    refine z_iadd O dL_law_984 ?_
    refine z_sld hS ⟨by omega, by omega⟩ (by omega) (by omega) O dL_law_985 ?_
    refine z_Vim [.int (iI (sv xs (jx + 1)))] [] kM_L_155 O dL_law_986 (c_X6_done hst hM1 hOK.1 (sv_R _ _)).szi rfl rfl hMo.1 (by decide) (Nat.le_of_ble_eq_true rfl) (by omega) (by omega) (Nat.le_of_ble_eq_true rfl) zNx (fun H2 hp2 hz2 => ?_)
    obtain ⟨⟨hf2, hc2⟩, hs1, hs2⟩ := hp2
    rw [if_neg hc]
    obtain ⟨_, hM2⟩ := hc2.resolve_right (fun z => hc z.1)
    obtain ⟨_, _, _, _, _, hMo2, _⟩ := id hM2
    have hLA2 := hLA1.fr hf2 (by show ¬ (_ ≤ _); omega)
    refine z_istore [(6, .int (iI (0))), (5, .int (iI (cDo G (sv xs (jx + 1))))), (4, .int (iI (jx))), (0, .ref bs), (1, .ref (a 1200)), (2, .ref q), (3, .ref qo)] O dL_law_989 (by decide) rfl ?_
    refine z_aload_n 5 O dL_law_991 rfl ?_
    refine z_Vi [] [] kM_L_106 O dL_law_992 (c_X6_thrown hst hMo2) rfl rfl hMo2.1 (by decide) (Nat.le_of_ble_eq_true rfl) (by omega) (by omega) (Nat.le_of_ble_eq_true rfl) zNx ?_
    refine z_iload 1 O dL_law_995 rfl ?_
    refine z_icmp_eq 1002 O dL_law_997 (by decide) hzc hzc (fun _ => ?_) (fun h => absurd rfl h)
    refine z_iload 1 O dL_law_1002 rfl ?_
    refine z_if_ne 1019 O dL_law_1004 (by decide) hzc (fun _ => ?_) (fun h => absurd h hc)
    refine z_goto 1818 O dL_law_1019 (by decide) ?_
    refine z_locs [2, 3, 4, 5, 6] rfl ?_
    exact K H2 r a n tx G fi ac dd kp ik ⟨rfl, hcm1.fr hf2 (fun s h => by show ¬ (_ ≤ _); omega), ⟨_, hM2⟩, ⟨_, hLA2⟩, hOK.keep hN.2⟩ (by have := hx.2.1; omega) (by have := hx.2.2; omega) _ _
theorem kM_L_156 : zMSW RL 156 yL_fail cL_fail 4 (some .int) [(0, 9, 12, 28), (0, 9, 15, 15)] 3 := ⟨(List.mem_of_getElem? (i := 37) (by decide +kernel)), (List.mem_of_getElem? (i := 787) (by decide +kernel)), by decide +kernel, by decide +kernel, by decide +kernel, (List.mem_of_getElem? (i := 785) (by decide +kernel)), (List.mem_of_getElem? (i := 786) (by decide +kernel))⟩
theorem kM_L_158 : zMV RL 158 yX6_fail cX6_fail 3 (some .int) 1 6 := ⟨⟨(List.mem_of_getElem? (i := 47) (by decide +kernel)), (List.mem_of_getElem? (i := 1204) (by decide +kernel)), by decide +kernel, by decide +kernel, by decide +kernel⟩, (List.mem_of_getElem? (i := 1201) (by decide +kernel)), (List.mem_of_getElem? (i := 1202) (by decide +kernel)), (List.mem_of_getElem? (i := 1203) (by decide +kernel)), ⟨_, rfl, rfl⟩⟩
theorem op_fail {x : zX} {bs Ls : Nat} {xs : Nat → Int32} {H : Heap} {r : zH} {a : Nat → Nat} {oa q : Nat} {Q : Nat → Nat} {qo : Nat} {n : Int} {tx G : Int → Int} {fi ac : Int} {dd : Nat → Int → Int} {kp ik : Int → Int} {N jx : Int} {aa bb : Nat} (hst : (zEn x).1.stackTraces = false) (O : zOk x RL cL_law 7 (some .boolean) "law" 12 478 601024 7293034) (hS : zScr x bs Ls xs) (Z : zLs (zEn x) H r a oa q Q qo n tx G fi ac dd kp ik N) (hN : 20 ≤ N ∧ N ≤ 538) (hj : 0 ≤ jx ∧ jx + 4 ≤ Ls ∧ Ls ≤ 2048) (h1 : aa + 13566 ≤ 601024) (h2 : bb + 277336 ≤ 7293034)
    (K : ∀ (H1 : Heap) (r1 : zH) (a1 : Nat → Nat) (n : Int) (tx G : Int → Int) (fi ac : Int) (dd : Nat → Int → Int) (kp ik : Int → Int), zLs (zEn x) H1 r1 a1 oa q Q qo n tx G fi ac dd kp ik (N + 1) → H1.size + zPs r ≤ H.size + zPs r1 + 70 → zSz H1 + 20 * zPs r ≤ zSz H + 20 * zPs r1 + 6700 → ∀ a9 b9 : Nat, zG x H1 a9 b9 1818 (zLv bs oa q qo jx) []) : zG x H aa bb 1022 (zLv bs oa q qo jx) [] := by
  obtain ⟨hoa, hcm, ⟨rf, hM⟩, ⟨u0, hLA⟩, hOK⟩ := Z
  subst hoa
  refine z_aload_n 2 O dL_law_1022 rfl ?_
  refine z_aload_n 1 O dL_law_1023 rfl ?_
  refine z_iload 0 O dL_law_1024 rfl ?_
  refine z_iconst 1 O dL_law_1026 (by decide +kernel) ?_
  refine z_iadd O dL_law_1027 ?_
  refine z_sld hS ⟨by omega, by omega⟩ (by omega) (by omega) O dL_law_1028 ?_
  refine z_aload_n 4 O dL_law_1029 rfl ?_
  have hzc : zR (cFa G (sv xs (jx + 1))) := by unfold cFa; (repeat' split) <;> exact ⟨by omega, by omega⟩
  refine z_callH [.ref (a 1200), .int (iI (sv xs (jx + 1))), .ref qo] [] kM_L_156 O dL_law_1030 (c_L_fail hst hcm hOK (sv_R _ _) hLA) rfl rfl (by decide) (Nat.le_of_ble_eq_true rfl) (by omega) (by omega) (Nat.le_of_ble_eq_true rfl) (fun v9 H1 hp hz => ?_)
  obtain ⟨rfl, hw⟩ := hp
  refine z_istore [(5, .int (iI (cFa G (sv xs (jx + 1))))), (4, .int (iI (jx))), (0, .ref bs), (1, .ref (a 1200)), (2, .ref q), (3, .ref qo)] O dL_law_1033 (by decide) rfl ?_
  by_cases hc : cFa G (sv xs (jx + 1)) = 0
  · obtain ⟨_, r1, a1, ha1, hfr, hgv, hcm1, hLA1⟩ := hw.resolve_right (fun z => z.1 hc)
    have hM1 := hM.fr hfr (fun s h => by show ¬ (_ ≤ _); omega)
    obtain ⟨_, _, _, _, _, hMo, _⟩ := id hM1
    refine z_aload_n 4 O dL_law_1035 rfl ?_
    refine z_aload_n 2 O dL_law_1036 rfl ?_
    refine z_iload 1 O dL_law_1037 rfl ?_
    refine z_iconst 1 O dL_law_1039 (by decide +kernel) ?_
    refine z_iadd O dL_law_1040 ?_
    refine z_sld hS ⟨by omega, by omega⟩ (by omega) (by omega) O dL_law_1041 ?_
    refine z_Vim [.int (iI (sv xs (jx + 1)))] [] kM_L_158 O dL_law_1042 (c_X6_fail hst hM1 hOK.1 (sv_R _ _)).szi rfl rfl hMo.1 (by decide) (Nat.le_of_ble_eq_true rfl) (by omega) (by omega) (Nat.le_of_ble_eq_true rfl) zNx (fun H2 hp2 hz2 => ?_)
    obtain ⟨⟨hf2, hc2⟩, hs1, hs2⟩ := hp2
    rw [if_pos hc]
    obtain ⟨_, hM2⟩ := hc2.resolve_left (fun z => z.1 hc)
    obtain ⟨_, _, _, _, _, hMo2, _⟩ := id hM2
    have hLA2 := hLA1.fr hf2 (by show ¬ (_ ≤ _); omega)
    refine z_istore [(6, .int (iI ((sFailR G (sv xs (jx + 1)))))), (5, .int (iI (cFa G (sv xs (jx + 1))))), (4, .int (iI (jx))), (0, .ref bs), (1, .ref (a 1200)), (2, .ref q), (3, .ref qo)] O dL_law_1045 (by decide) rfl ?_
    refine z_aload_n 5 O dL_law_1047 rfl ?_
    refine z_Vi [] [] kM_L_106 O dL_law_1048 (c_X6_thrown hst hMo2) rfl rfl hMo2.1 (by decide) (Nat.le_of_ble_eq_true rfl) (by omega) (by omega) (Nat.le_of_ble_eq_true rfl) zNx ?_
    refine z_iload 1 O dL_law_1051 rfl ?_
    refine z_icmp_eq 1058 O dL_law_1053 (by decide) ⟨by omega, by omega⟩ hzc (fun _ => ?_) (fun h => absurd hc.symm h)
    refine z_iload 1 O dL_law_1058 rfl ?_
    refine z_if_ne 1075 O dL_law_1060 (by decide) hzc (fun h => absurd hc h) (fun _ => ?_)
    refine z_aload_n 6 O dL_law_1063 rfl ?_
    refine z_iconst 0 O dL_law_1064 (by decide +kernel) ?_
    refine z_lald O dL_law_1065 hLA2.1 ?_
    refine z_iload 0 O dL_law_1066 rfl ?_
    refine z_i2lRh O.h dL_law_1068 ?_
    refine z_lcmpS O dL_law_1069 ?_
    refine z_if_eq 1075 O dL_law_1070 (by decide) ⟨by omega, by omega⟩ (fun _ => ?_) (fun h => absurd rfl h)
    refine z_goto 1818 O dL_law_1075 (by decide) ?_
    refine z_locs [2, 3, 4, 5, 6] rfl ?_
    exact K H2 r1 a1 n tx (sFail G (sv xs (jx + 1))) (mFi fi ac) (mAc ac) (zDw dd (mIx fi ac) G) kp ik ⟨ha1, hcm1.fr hf2 (fun s h => by show ¬ (_ ≤ _); omega), ⟨_, hM2⟩, ⟨_, hLA2⟩, kp_fail hOK hN.2 hc⟩ (by unfold zGv at hgv; omega) (by unfold zGv at hgv; omega) _ _
  · obtain ⟨_, hx⟩ := hw.resolve_left (fun z => hc z.1)
    have hfr : zFr H r H1 r (fun _ => False) := hx.1.frr
    have hcm1 := hcm.fr hfr (fun _ _ h => h)
    have hM1 := hM.fr hfr (fun _ _ h => h)
    have hLA1 := hLA.fr hfr (fun h => h)
    obtain ⟨_, _, _, _, _, hMo, _⟩ := id hM1
    refine z_aload_n 4 O dL_law_1035 rfl ?_
    refine z_aload_n 2 O dL_law_1036 rfl ?_
    refine z_iload 1 O dL_law_1037 rfl ?_
    refine z_iconst 1 O dL_law_1039 (by decide +kernel) ?_
    refine z_iadd O dL_law_1040 ?_
    refine z_sld hS ⟨by omega, by omega⟩ (by omega) (by omega) O dL_law_1041 ?_
    refine z_Vim [.int (iI (sv xs (jx + 1)))] [] kM_L_158 O dL_law_1042 (c_X6_fail hst hM1 hOK.1 (sv_R _ _)).szi rfl rfl hMo.1 (by decide) (Nat.le_of_ble_eq_true rfl) (by omega) (by omega) (Nat.le_of_ble_eq_true rfl) zNx (fun H2 hp2 hz2 => ?_)
    obtain ⟨⟨hf2, hc2⟩, hs1, hs2⟩ := hp2
    rw [if_neg hc]
    obtain ⟨_, hM2⟩ := hc2.resolve_right (fun z => hc z.1)
    obtain ⟨_, _, _, _, _, hMo2, _⟩ := id hM2
    have hLA2 := hLA1.fr hf2 (by show ¬ (_ ≤ _); omega)
    refine z_istore [(6, .int (iI (0))), (5, .int (iI (cFa G (sv xs (jx + 1))))), (4, .int (iI (jx))), (0, .ref bs), (1, .ref (a 1200)), (2, .ref q), (3, .ref qo)] O dL_law_1045 (by decide) rfl ?_
    refine z_aload_n 5 O dL_law_1047 rfl ?_
    refine z_Vi [] [] kM_L_106 O dL_law_1048 (c_X6_thrown hst hMo2) rfl rfl hMo2.1 (by decide) (Nat.le_of_ble_eq_true rfl) (by omega) (by omega) (Nat.le_of_ble_eq_true rfl) zNx ?_
    refine z_iload 1 O dL_law_1051 rfl ?_
    refine z_icmp_eq 1058 O dL_law_1053 (by decide) hzc hzc (fun _ => ?_) (fun h => absurd rfl h)
    refine z_iload 1 O dL_law_1058 rfl ?_
    refine z_if_ne 1075 O dL_law_1060 (by decide) hzc (fun _ => ?_) (fun h => absurd h hc)
    refine z_goto 1818 O dL_law_1075 (by decide) ?_
    refine z_locs [2, 3, 4, 5, 6] rfl ?_
    exact K H2 r a n tx G fi ac dd kp ik ⟨rfl, hcm1.fr hf2 (fun s h => by show ¬ (_ ≤ _); omega), ⟨_, hM2⟩, ⟨_, hLA2⟩, hOK.keep hN.2⟩ (by have := hx.2.1; omega) (by have := hx.2.2; omega) _ _
theorem kM_L_159 : zMSW RL 159 yL_setMercy cL_setMercy 4 (some .int) [(0, 9, 12, 13)] 3 := ⟨(List.mem_of_getElem? (i := 37) (by decide +kernel)), (List.mem_of_getElem? (i := 794) (by decide +kernel)), by decide +kernel, by decide +kernel, by decide +kernel, (List.mem_of_getElem? (i := 792) (by decide +kernel)), (List.mem_of_getElem? (i := 793) (by decide +kernel))⟩
theorem kM_L_161 : zMV RL 161 yX6_setMercy cX6_setMercy 3 (some .int) 1 6 := ⟨⟨(List.mem_of_getElem? (i := 47) (by decide +kernel)), (List.mem_of_getElem? (i := 1208) (by decide +kernel)), by decide +kernel, by decide +kernel, by decide +kernel⟩, (List.mem_of_getElem? (i := 1205) (by decide +kernel)), (List.mem_of_getElem? (i := 1206) (by decide +kernel)), (List.mem_of_getElem? (i := 1207) (by decide +kernel)), ⟨_, rfl, rfl⟩⟩
theorem op_setMercy {x : zX} {bs Ls : Nat} {xs : Nat → Int32} {H : Heap} {r : zH} {a : Nat → Nat} {oa q : Nat} {Q : Nat → Nat} {qo : Nat} {n : Int} {tx G : Int → Int} {fi ac : Int} {dd : Nat → Int → Int} {kp ik : Int → Int} {N jx : Int} {aa bb : Nat} (hst : (zEn x).1.stackTraces = false) (O : zOk x RL cL_law 7 (some .boolean) "law" 12 478 601024 7293034) (hS : zScr x bs Ls xs) (Z : zLs (zEn x) H r a oa q Q qo n tx G fi ac dd kp ik N) (hN : 20 ≤ N ∧ N ≤ 538) (hj : 0 ≤ jx ∧ jx + 4 ≤ Ls ∧ Ls ≤ 2048) (h1 : aa + 13566 ≤ 601024) (h2 : bb + 277336 ≤ 7293034)
    (K : ∀ (H1 : Heap) (r1 : zH) (a1 : Nat → Nat) (n : Int) (tx G : Int → Int) (fi ac : Int) (dd : Nat → Int → Int) (kp ik : Int → Int), zLs (zEn x) H1 r1 a1 oa q Q qo n tx G fi ac dd kp ik (N + 1) → H1.size + zPs r ≤ H.size + zPs r1 + 70 → zSz H1 + 20 * zPs r ≤ zSz H + 20 * zPs r1 + 6700 → ∀ a9 b9 : Nat, zG x H1 a9 b9 1818 (zLv bs oa q qo jx) []) : zG x H aa bb 1078 (zLv bs oa q qo jx) [] := by
  obtain ⟨hoa, hcm, ⟨rf, hM⟩, ⟨u0, hLA⟩, hOK⟩ := Z
  subst hoa
  refine z_aload_n 2 O dL_law_1078 rfl ?_
  refine z_aload_n 1 O dL_law_1079 rfl ?_
  refine z_iload 0 O dL_law_1080 rfl ?_
  refine z_iconst 1 O dL_law_1082 (by decide +kernel) ?_
  refine z_iadd O dL_law_1083 ?_
  refine z_sld hS ⟨by omega, by omega⟩ (by omega) (by omega) O dL_law_1084 ?_
  refine z_aload_n 4 O dL_law_1085 rfl ?_
  have hzc : zR (cMe (sv xs (jx + 1))) := by unfold cMe; (repeat' split) <;> exact ⟨by omega, by omega⟩
  refine z_callH [.ref (a 1200), .int (iI (sv xs (jx + 1))), .ref qo] [] kM_L_159 O dL_law_1086 (c_L_setMercy hst hcm hOK (sv_R _ _) hLA) rfl rfl (by decide) (Nat.le_of_ble_eq_true rfl) (by omega) (by omega) (Nat.le_of_ble_eq_true rfl) (fun v9 H1 hp hz => ?_)
  obtain ⟨rfl, hw⟩ := hp
  refine z_istore [(5, .int (iI (cMe (sv xs (jx + 1))))), (4, .int (iI (jx))), (0, .ref bs), (1, .ref (a 1200)), (2, .ref q), (3, .ref qo)] O dL_law_1089 (by decide) rfl ?_
  by_cases hc : cMe (sv xs (jx + 1)) = 0
  · obtain ⟨_, r1, a1, ha1, hfr, hgv, hcm1, hLA1⟩ := hw.resolve_right (fun z => z.1 hc)
    have hM1 := hM.fr hfr (fun s h => by show ¬ (_ ≤ _); omega)
    obtain ⟨_, _, _, _, _, hMo, _⟩ := id hM1
    refine z_aload_n 4 O dL_law_1091 rfl ?_
    refine z_aload_n 2 O dL_law_1092 rfl ?_
    refine z_iload 1 O dL_law_1093 rfl ?_
    refine z_iconst 1 O dL_law_1095 (by decide +kernel) ?_
    refine z_iadd O dL_law_1096 ?_
    refine z_sld hS ⟨by omega, by omega⟩ (by omega) (by omega) O dL_law_1097 ?_
    refine z_Vim [.int (iI (sv xs (jx + 1)))] [] kM_L_161 O dL_law_1098 (c_X6_setMercy hst hM1 hOK.1 (sv_R _ _)).szi rfl rfl hMo.1 (by decide) (Nat.le_of_ble_eq_true rfl) (by omega) (by omega) (Nat.le_of_ble_eq_true rfl) zNx (fun H2 hp2 hz2 => ?_)
    obtain ⟨⟨hf2, hc2⟩, hs1, hs2⟩ := hp2
    rw [if_pos hc]
    obtain ⟨_, hM2⟩ := hc2.resolve_left (fun z => z.1 hc)
    obtain ⟨_, _, _, _, _, hMo2, _⟩ := id hM2
    have hLA2 := hLA1.fr hf2 (by show ¬ (_ ≤ _); omega)
    refine z_istore [(6, .int (iI ((G 32)))), (5, .int (iI (cMe (sv xs (jx + 1))))), (4, .int (iI (jx))), (0, .ref bs), (1, .ref (a 1200)), (2, .ref q), (3, .ref qo)] O dL_law_1101 (by decide) rfl ?_
    refine z_aload_n 5 O dL_law_1103 rfl ?_
    refine z_Vi [] [] kM_L_106 O dL_law_1104 (c_X6_thrown hst hMo2) rfl rfl hMo2.1 (by decide) (Nat.le_of_ble_eq_true rfl) (by omega) (by omega) (Nat.le_of_ble_eq_true rfl) zNx ?_
    refine z_iload 1 O dL_law_1107 rfl ?_
    refine z_icmp_eq 1114 O dL_law_1109 (by decide) ⟨by omega, by omega⟩ hzc (fun _ => ?_) (fun h => absurd hc.symm h)
    refine z_iload 1 O dL_law_1114 rfl ?_
    refine z_if_ne 1131 O dL_law_1116 (by decide) hzc (fun h => absurd hc h) (fun _ => ?_)
    refine z_aload_n 6 O dL_law_1119 rfl ?_
    refine z_iconst 0 O dL_law_1120 (by decide +kernel) ?_
    refine z_lald O dL_law_1121 hLA2.1 ?_
    refine z_iload 0 O dL_law_1122 rfl ?_
    refine z_i2lRh O.h dL_law_1124 ?_
    refine z_lcmpS O dL_law_1125 ?_
    refine z_if_eq 1131 O dL_law_1126 (by decide) ⟨by omega, by omega⟩ (fun _ => ?_) (fun h => absurd rfl h)
    refine z_goto 1818 O dL_law_1131 (by decide) ?_
    refine z_locs [2, 3, 4, 5, 6] rfl ?_
    exact K H2 r1 a1 n tx (zU G 32 (sv xs (jx + 1))) (mFi fi ac) (mAc ac) (zDw dd (mIx fi ac) G) kp ik ⟨ha1, hcm1.fr hf2 (fun s h => by show ¬ (_ ≤ _); omega), ⟨_, hM2⟩, ⟨_, hLA2⟩, kp_setMercy hOK hN.2 hc⟩ (by unfold zGv at hgv; omega) (by unfold zGv at hgv; omega) _ _
  · obtain ⟨_, hx⟩ := hw.resolve_left (fun z => hc z.1)
    have hfr : zFr H r H1 r (fun _ => False) := hx.1.frr
    have hcm1 := hcm.fr hfr (fun _ _ h => h)
    have hM1 := hM.fr hfr (fun _ _ h => h)
    have hLA1 := hLA.fr hfr (fun h => h)
    obtain ⟨_, _, _, _, _, hMo, _⟩ := id hM1
    refine z_aload_n 4 O dL_law_1091 rfl ?_
    refine z_aload_n 2 O dL_law_1092 rfl ?_
    refine z_iload 1 O dL_law_1093 rfl ?_
    refine z_iconst 1 O dL_law_1095 (by decide +kernel) ?_
    refine z_iadd O dL_law_1096 ?_
    refine z_sld hS ⟨by omega, by omega⟩ (by omega) (by omega) O dL_law_1097 ?_
    refine z_Vim [.int (iI (sv xs (jx + 1)))] [] kM_L_161 O dL_law_1098 (c_X6_setMercy hst hM1 hOK.1 (sv_R _ _)).szi rfl rfl hMo.1 (by decide) (Nat.le_of_ble_eq_true rfl) (by omega) (by omega) (Nat.le_of_ble_eq_true rfl) zNx (fun H2 hp2 hz2 => ?_)
    obtain ⟨⟨hf2, hc2⟩, hs1, hs2⟩ := hp2
    rw [if_neg hc]
    obtain ⟨_, hM2⟩ := hc2.resolve_right (fun z => hc z.1)
    obtain ⟨_, _, _, _, _, hMo2, _⟩ := id hM2
    have hLA2 := hLA1.fr hf2 (by show ¬ (_ ≤ _); omega)
    refine z_istore [(6, .int (iI (0))), (5, .int (iI (cMe (sv xs (jx + 1))))), (4, .int (iI (jx))), (0, .ref bs), (1, .ref (a 1200)), (2, .ref q), (3, .ref qo)] O dL_law_1101 (by decide) rfl ?_
    refine z_aload_n 5 O dL_law_1103 rfl ?_
    refine z_Vi [] [] kM_L_106 O dL_law_1104 (c_X6_thrown hst hMo2) rfl rfl hMo2.1 (by decide) (Nat.le_of_ble_eq_true rfl) (by omega) (by omega) (Nat.le_of_ble_eq_true rfl) zNx ?_
    refine z_iload 1 O dL_law_1107 rfl ?_
    refine z_icmp_eq 1114 O dL_law_1109 (by decide) hzc hzc (fun _ => ?_) (fun h => absurd rfl h)
    refine z_iload 1 O dL_law_1114 rfl ?_
    refine z_if_ne 1131 O dL_law_1116 (by decide) hzc (fun _ => ?_) (fun h => absurd h hc)
    refine z_goto 1818 O dL_law_1131 (by decide) ?_
    refine z_locs [2, 3, 4, 5, 6] rfl ?_
    exact K H2 r a n tx G fi ac dd kp ik ⟨rfl, hcm1.fr hf2 (fun s h => by show ¬ (_ ≤ _); omega), ⟨_, hM2⟩, ⟨_, hLA2⟩, hOK.keep hN.2⟩ (by have := hx.2.1; omega) (by have := hx.2.2; omega) _ _
theorem kM_L_162 : zMSW RL 162 yL_undo cL_undo 3 (some .int) [(0, 8, 11, 15)] 2 := ⟨(List.mem_of_getElem? (i := 37) (by decide +kernel)), (List.mem_of_getElem? (i := 802) (by decide +kernel)), by decide +kernel, by decide +kernel, by decide +kernel, (List.mem_of_getElem? (i := 800) (by decide +kernel)), (List.mem_of_getElem? (i := 801) (by decide +kernel))⟩
theorem kM_L_164 : zMV RL 164 yX6_undo cX6_undo 1 (some .int) 0 6 := ⟨⟨(List.mem_of_getElem? (i := 47) (by decide +kernel)), (List.mem_of_getElem? (i := 1213) (by decide +kernel)), by decide +kernel, by decide +kernel, by decide +kernel⟩, (List.mem_of_getElem? (i := 1210) (by decide +kernel)), (List.mem_of_getElem? (i := 1211) (by decide +kernel)), (List.mem_of_getElem? (i := 1212) (by decide +kernel)), ⟨_, rfl, rfl⟩⟩
theorem op_undo {x : zX} {bs Ls : Nat} {xs : Nat → Int32} {H : Heap} {r : zH} {a : Nat → Nat} {oa q : Nat} {Q : Nat → Nat} {qo : Nat} {n : Int} {tx G : Int → Int} {fi ac : Int} {dd : Nat → Int → Int} {kp ik : Int → Int} {N jx : Int} {aa bb : Nat} (hst : (zEn x).1.stackTraces = false) (O : zOk x RL cL_law 7 (some .boolean) "law" 12 478 601024 7293034) (hS : zScr x bs Ls xs) (Z : zLs (zEn x) H r a oa q Q qo n tx G fi ac dd kp ik N) (hN : 20 ≤ N ∧ N ≤ 538) (hj : 0 ≤ jx ∧ jx + 4 ≤ Ls ∧ Ls ≤ 2048) (h1 : aa + 13566 ≤ 601024) (h2 : bb + 277336 ≤ 7293034)
    (K : ∀ (H1 : Heap) (r1 : zH) (a1 : Nat → Nat) (n : Int) (tx G : Int → Int) (fi ac : Int) (dd : Nat → Int → Int) (kp ik : Int → Int), zLs (zEn x) H1 r1 a1 oa q Q qo n tx G fi ac dd kp ik (N + 1) → H1.size + zPs r ≤ H.size + zPs r1 + 70 → zSz H1 + 20 * zPs r ≤ zSz H + 20 * zPs r1 + 6700 → ∀ a9 b9 : Nat, zG x H1 a9 b9 1818 (zLv bs oa q qo jx) []) : zG x H aa bb 1134 (zLv bs oa q qo jx) [] := by
  obtain ⟨hoa, hcm, ⟨rf, hM⟩, ⟨u0, hLA⟩, hOK⟩ := Z
  subst hoa
  refine z_aload_n 2 O dL_law_1134 rfl ?_
  refine z_aload_n 4 O dL_law_1135 rfl ?_
  have hzc : zR (cUn ac) := by unfold cUn; (repeat' split) <;> exact ⟨by omega, by omega⟩
  refine z_callH [.ref (a 1200), .ref qo] [] kM_L_162 O dL_law_1136 (c_L_undo hst hcm hOK  hLA) rfl rfl (by decide) (Nat.le_of_ble_eq_true rfl) (by omega) (by omega) (Nat.le_of_ble_eq_true rfl) (fun v9 H1 hp hz => ?_)
  obtain ⟨rfl, hw⟩ := hp
  refine z_istore [(5, .int (iI (cUn ac))), (4, .int (iI (jx))), (0, .ref bs), (1, .ref (a 1200)), (2, .ref q), (3, .ref qo)] O dL_law_1139 (by decide) rfl ?_
  by_cases hc : cUn ac = 0
  · obtain ⟨_, r1, a1, ha1, hfr, hgv, hcm1, hLA1⟩ := hw.resolve_right (fun z => z.1 hc)
    have hM1 := hM.fr hfr (fun s h => by show ¬ (_ ≤ _); omega)
    obtain ⟨_, _, _, _, _, hMo, _⟩ := id hM1
    refine z_aload_n 4 O dL_law_1141 rfl ?_
    refine z_Vim [] [] kM_L_164 O dL_law_1142 (c_X6_undo hst hM1 hOK.1 ).szi rfl rfl hMo.1 (by decide) (Nat.le_of_ble_eq_true rfl) (by omega) (by omega) (Nat.le_of_ble_eq_true rfl) zNx (fun H2 hp2 hz2 => ?_)
    obtain ⟨⟨hf2, hc2⟩, hs1, hs2⟩ := hp2
    rw [if_pos hc]
    obtain ⟨_, hM2⟩ := hc2.resolve_left (fun z => z.1 hc)
    obtain ⟨_, _, _, _, _, hMo2, _⟩ := id hM2
    have hLA2 := hLA1.fr hf2 (by show ¬ (_ ≤ _); omega)
    refine z_istore [(6, .int (iI ((ac - 1)))), (5, .int (iI (cUn ac))), (4, .int (iI (jx))), (0, .ref bs), (1, .ref (a 1200)), (2, .ref q), (3, .ref qo)] O dL_law_1145 (by decide) rfl ?_
    refine z_aload_n 5 O dL_law_1147 rfl ?_
    refine z_Vi [] [] kM_L_106 O dL_law_1148 (c_X6_thrown hst hMo2) rfl rfl hMo2.1 (by decide) (Nat.le_of_ble_eq_true rfl) (by omega) (by omega) (Nat.le_of_ble_eq_true rfl) zNx ?_
    refine z_iload 1 O dL_law_1151 rfl ?_
    refine z_icmp_eq 1158 O dL_law_1153 (by decide) ⟨by omega, by omega⟩ hzc (fun _ => ?_) (fun h => absurd hc.symm h)
    refine z_iload 1 O dL_law_1158 rfl ?_
    refine z_if_ne 1175 O dL_law_1160 (by decide) hzc (fun h => absurd hc h) (fun _ => ?_)
    refine z_aload_n 6 O dL_law_1163 rfl ?_
    refine z_iconst 0 O dL_law_1164 (by decide +kernel) ?_
    refine z_lald O dL_law_1165 hLA2.1 ?_
    refine z_iload 0 O dL_law_1166 rfl ?_
    refine z_i2lRh O.h dL_law_1168 ?_
    refine z_lcmpS O dL_law_1169 ?_
    refine z_if_eq 1175 O dL_law_1170 (by decide) ⟨by omega, by omega⟩ (fun _ => ?_) (fun h => absurd rfl h)
    refine z_goto 1818 O dL_law_1175 (by decide) ?_
    refine z_locs [2, 3, 4, 5, 6] rfl ?_
    exact K H2 r1 a1 n tx (zDr dd ((fi + (ac - 1)) % 16)) fi (ac - 1) dd kp ik ⟨ha1, hcm1.fr hf2 (fun s h => by show ¬ (_ ≤ _); omega), ⟨_, hM2⟩, ⟨_, hLA2⟩, kp_undo hOK hN.2 hc⟩ (by unfold zGv at hgv; omega) (by unfold zGv at hgv; omega) _ _
  · obtain ⟨_, hx⟩ := hw.resolve_left (fun z => hc z.1)
    have hfr : zFr H r H1 r (fun _ => False) := hx.1.frr
    have hcm1 := hcm.fr hfr (fun _ _ h => h)
    have hM1 := hM.fr hfr (fun _ _ h => h)
    have hLA1 := hLA.fr hfr (fun h => h)
    obtain ⟨_, _, _, _, _, hMo, _⟩ := id hM1
    refine z_aload_n 4 O dL_law_1141 rfl ?_
    refine z_Vim [] [] kM_L_164 O dL_law_1142 (c_X6_undo hst hM1 hOK.1 ).szi rfl rfl hMo.1 (by decide) (Nat.le_of_ble_eq_true rfl) (by omega) (by omega) (Nat.le_of_ble_eq_true rfl) zNx (fun H2 hp2 hz2 => ?_)
    obtain ⟨⟨hf2, hc2⟩, hs1, hs2⟩ := hp2
    rw [if_neg hc]
    obtain ⟨_, hM2⟩ := hc2.resolve_right (fun z => hc z.1)
    obtain ⟨_, _, _, _, _, hMo2, _⟩ := id hM2
    have hLA2 := hLA1.fr hf2 (by show ¬ (_ ≤ _); omega)
    refine z_istore [(6, .int (iI (0))), (5, .int (iI (cUn ac))), (4, .int (iI (jx))), (0, .ref bs), (1, .ref (a 1200)), (2, .ref q), (3, .ref qo)] O dL_law_1145 (by decide) rfl ?_
    refine z_aload_n 5 O dL_law_1147 rfl ?_
    refine z_Vi [] [] kM_L_106 O dL_law_1148 (c_X6_thrown hst hMo2) rfl rfl hMo2.1 (by decide) (Nat.le_of_ble_eq_true rfl) (by omega) (by omega) (Nat.le_of_ble_eq_true rfl) zNx ?_
    refine z_iload 1 O dL_law_1151 rfl ?_
    refine z_icmp_eq 1158 O dL_law_1153 (by decide) hzc hzc (fun _ => ?_) (fun h => absurd rfl h)
    refine z_iload 1 O dL_law_1158 rfl ?_
    refine z_if_ne 1175 O dL_law_1160 (by decide) hzc (fun _ => ?_) (fun h => absurd h hc)
    refine z_goto 1818 O dL_law_1175 (by decide) ?_
    refine z_locs [2, 3, 4, 5, 6] rfl ?_
    exact K H2 r a n tx G fi ac dd kp ik ⟨rfl, hcm1.fr hf2 (fun s h => by show ¬ (_ ≤ _); omega), ⟨_, hM2⟩, ⟨_, hLA2⟩, hOK.keep hN.2⟩ (by have := hx.2.1; omega) (by have := hx.2.2; omega) _ _
theorem kM_L_165 : zMSW RL 165 yL_whyNot cL_whyNot 5 (some .int) [(0, 10, 13, 28)] 4 := ⟨(List.mem_of_getElem? (i := 37) (by decide +kernel)), (List.mem_of_getElem? (i := 814) (by decide +kernel)), by decide +kernel, by decide +kernel, by decide +kernel, (List.mem_of_getElem? (i := 812) (by decide +kernel)), (List.mem_of_getElem? (i := 813) (by decide +kernel))⟩
theorem kM_L_167 : zMV RL 167 yX6_whyNot cX6_whyNot 4 (some .int) 2 6 := ⟨⟨(List.mem_of_getElem? (i := 47) (by decide +kernel)), (List.mem_of_getElem? (i := 1221) (by decide +kernel)), by decide +kernel, by decide +kernel, by decide +kernel⟩, (List.mem_of_getElem? (i := 1218) (by decide +kernel)), (List.mem_of_getElem? (i := 1219) (by decide +kernel)), (List.mem_of_getElem? (i := 1220) (by decide +kernel)), ⟨_, rfl, rfl⟩⟩
theorem op_whyNot {x : zX} {bs Ls : Nat} {xs : Nat → Int32} {H : Heap} {r : zH} {a : Nat → Nat} {oa q : Nat} {Q : Nat → Nat} {qo : Nat} {n : Int} {tx G : Int → Int} {fi ac : Int} {dd : Nat → Int → Int} {kp ik : Int → Int} {N jx : Int} {aa bb : Nat} (hst : (zEn x).1.stackTraces = false) (O : zOk x RL cL_law 7 (some .boolean) "law" 12 478 601024 7293034) (hS : zScr x bs Ls xs) (Z : zLs (zEn x) H r a oa q Q qo n tx G fi ac dd kp ik N) (hN : 20 ≤ N ∧ N ≤ 538) (hj : 0 ≤ jx ∧ jx + 4 ≤ Ls ∧ Ls ≤ 2048) (h1 : aa + 13566 ≤ 601024) (h2 : bb + 277336 ≤ 7293034)
    (K : ∀ (H1 : Heap) (r1 : zH) (a1 : Nat → Nat) (n : Int) (tx G : Int → Int) (fi ac : Int) (dd : Nat → Int → Int) (kp ik : Int → Int), zLs (zEn x) H1 r1 a1 oa q Q qo n tx G fi ac dd kp ik (N + 1) → H1.size + zPs r ≤ H.size + zPs r1 + 70 → zSz H1 + 20 * zPs r ≤ zSz H + 20 * zPs r1 + 6700 → ∀ a9 b9 : Nat, zG x H1 a9 b9 1818 (zLv bs oa q qo jx) []) : zG x H aa bb 1178 (zLv bs oa q qo jx) [] := by
  obtain ⟨hoa, hcm, ⟨rf, hM⟩, ⟨u0, hLA⟩, hOK⟩ := Z
  subst hoa
  refine z_aload_n 2 O dL_law_1178 rfl ?_
  refine z_aload_n 1 O dL_law_1179 rfl ?_
  refine z_iload 0 O dL_law_1180 rfl ?_
  refine z_iconst 1 O dL_law_1182 (by decide +kernel) ?_
  refine z_iadd O dL_law_1183 ?_
  refine z_sld hS ⟨by omega, by omega⟩ (by omega) (by omega) O dL_law_1184 ?_
  refine z_aload_n 1 O dL_law_1185 rfl ?_
  refine z_iload 0 O dL_law_1186 rfl ?_
  refine z_iconst 2 O dL_law_1188 (by decide +kernel) ?_
  refine z_iadd O dL_law_1189 ?_
  refine z_sld hS ⟨by omega, by omega⟩ (by omega) (by omega) O dL_law_1190 ?_
  refine z_aload_n 4 O dL_law_1191 rfl ?_
  have hzc : zR (cWy (sv xs (jx + 1)) (sv xs (jx + 2))) := by unfold cWy; (repeat' split) <;> exact ⟨by omega, by omega⟩
  refine z_callH [.ref (a 1200), .int (iI (sv xs (jx + 1))), .int (iI (sv xs (jx + 2))), .ref qo] [] kM_L_165 O dL_law_1192 (c_L_whyNot hst hcm hOK (sv_R _ _) (sv_R _ _) hLA) rfl rfl (by decide) (Nat.le_of_ble_eq_true rfl) (by omega) (by omega) (Nat.le_of_ble_eq_true rfl) (fun v9 H1 hp hz => ?_)
  obtain ⟨rfl, hw⟩ := hp
  refine z_istore [(5, .int (iI (cWy (sv xs (jx + 1)) (sv xs (jx + 2))))), (4, .int (iI (jx))), (0, .ref bs), (1, .ref (a 1200)), (2, .ref q), (3, .ref qo)] O dL_law_1195 (by decide) rfl ?_
  by_cases hc : cWy (sv xs (jx + 1)) (sv xs (jx + 2)) = 0
  · obtain ⟨_, r1, a1, ha1, hfr, hgv, hcm1, hLA1⟩ := hw.resolve_right (fun z => z.1 hc)
    have hM1 := hM.fr hfr (fun s h => by show ¬ (_ ≤ _); omega)
    obtain ⟨_, _, _, _, _, hMo, _⟩ := id hM1
    refine z_aload_n 4 O dL_law_1197 rfl ?_
    refine z_aload_n 2 O dL_law_1198 rfl ?_
    refine z_iload 1 O dL_law_1199 rfl ?_
    refine z_iconst 1 O dL_law_1201 (by decide +kernel) ?_
    refine z_iadd O dL_law_1202 ?_
    refine z_sld hS ⟨by omega, by omega⟩ (by omega) (by omega) O dL_law_1203 ?_
    refine z_aload_n 2 O dL_law_1204 rfl ?_
    refine z_iload 1 O dL_law_1205 rfl ?_
    refine z_iconst 2 O dL_law_1207 (by decide +kernel) ?_
    refine z_iadd O dL_law_1208 ?_
    refine z_sld hS ⟨by omega, by omega⟩ (by omega) (by omega) O dL_law_1209 ?_
    refine z_Vim [.int (iI (sv xs (jx + 1))), .int (iI (sv xs (jx + 2)))] [] kM_L_167 O dL_law_1210 (c_X6_whyNot hst hM1 hOK.1 (sv_R _ _) (sv_R _ _)).szi rfl rfl hMo.1 (by decide) (Nat.le_of_ble_eq_true rfl) (by omega) (by omega) (Nat.le_of_ble_eq_true rfl) zNx (fun H2 hp2 hz2 => ?_)
    obtain ⟨⟨hf2, hc2⟩, hs1, hs2⟩ := hp2
    rw [if_pos hc]
    obtain ⟨_, hM2⟩ := hc2.resolve_left (fun z => z.1 hc)
    obtain ⟨_, _, _, _, _, hMo2, _⟩ := id hM2
    have hLA2 := hLA1.fr hf2 (by show ¬ (_ ≤ _); omega)
    refine z_istore [(6, .int (iI ((sRe G (sv xs (jx + 1)) (sv xs (jx + 2)))))), (5, .int (iI (cWy (sv xs (jx + 1)) (sv xs (jx + 2))))), (4, .int (iI (jx))), (0, .ref bs), (1, .ref (a 1200)), (2, .ref q), (3, .ref qo)] O dL_law_1213 (by decide) rfl ?_
    refine z_aload_n 5 O dL_law_1215 rfl ?_
    refine z_Vi [] [] kM_L_106 O dL_law_1216 (c_X6_thrown hst hMo2) rfl rfl hMo2.1 (by decide) (Nat.le_of_ble_eq_true rfl) (by omega) (by omega) (Nat.le_of_ble_eq_true rfl) zNx ?_
    refine z_iload 1 O dL_law_1219 rfl ?_
    refine z_icmp_eq 1226 O dL_law_1221 (by decide) ⟨by omega, by omega⟩ hzc (fun _ => ?_) (fun h => absurd hc.symm h)
    refine z_iload 1 O dL_law_1226 rfl ?_
    refine z_if_ne 1243 O dL_law_1228 (by decide) hzc (fun h => absurd hc h) (fun _ => ?_)
    refine z_aload_n 6 O dL_law_1231 rfl ?_
    refine z_iconst 0 O dL_law_1232 (by decide +kernel) ?_
    refine z_lald O dL_law_1233 hLA2.1 ?_
    refine z_iload 0 O dL_law_1234 rfl ?_
    refine z_i2lRh O.h dL_law_1236 ?_
    refine z_lcmpS O dL_law_1237 ?_
    refine z_if_eq 1243 O dL_law_1238 (by decide) ⟨by omega, by omega⟩ (fun _ => ?_) (fun h => absurd rfl h)
    refine z_goto 1818 O dL_law_1243 (by decide) ?_
    refine z_locs [2, 3, 4, 5, 6] rfl ?_
    exact K H2 r1 a1 n tx G fi ac dd kp ik ⟨ha1, hcm1.fr hf2 (fun s h => by show ¬ (_ ≤ _); omega), ⟨_, hM2⟩, ⟨_, hLA2⟩, hOK.keep hN.2⟩ (by unfold zGv at hgv; omega) (by unfold zGv at hgv; omega) _ _
  · obtain ⟨_, hx⟩ := hw.resolve_left (fun z => hc z.1)
    have hfr : zFr H r H1 r (fun _ => False) := hx.1.frr
    have hcm1 := hcm.fr hfr (fun _ _ h => h)
    have hM1 := hM.fr hfr (fun _ _ h => h)
    have hLA1 := hLA.fr hfr (fun h => h)
    obtain ⟨_, _, _, _, _, hMo, _⟩ := id hM1
    refine z_aload_n 4 O dL_law_1197 rfl ?_
    refine z_aload_n 2 O dL_law_1198 rfl ?_
    refine z_iload 1 O dL_law_1199 rfl ?_
    refine z_iconst 1 O dL_law_1201 (by decide +kernel) ?_
    refine z_iadd O dL_law_1202 ?_
    refine z_sld hS ⟨by omega, by omega⟩ (by omega) (by omega) O dL_law_1203 ?_
    refine z_aload_n 2 O dL_law_1204 rfl ?_
    refine z_iload 1 O dL_law_1205 rfl ?_
    refine z_iconst 2 O dL_law_1207 (by decide +kernel) ?_
    refine z_iadd O dL_law_1208 ?_
    refine z_sld hS ⟨by omega, by omega⟩ (by omega) (by omega) O dL_law_1209 ?_
    refine z_Vim [.int (iI (sv xs (jx + 1))), .int (iI (sv xs (jx + 2)))] [] kM_L_167 O dL_law_1210 (c_X6_whyNot hst hM1 hOK.1 (sv_R _ _) (sv_R _ _)).szi rfl rfl hMo.1 (by decide) (Nat.le_of_ble_eq_true rfl) (by omega) (by omega) (Nat.le_of_ble_eq_true rfl) zNx (fun H2 hp2 hz2 => ?_)
    obtain ⟨⟨hf2, hc2⟩, hs1, hs2⟩ := hp2
    rw [if_neg hc]
    obtain ⟨_, hM2⟩ := hc2.resolve_right (fun z => hc z.1)
    obtain ⟨_, _, _, _, _, hMo2, _⟩ := id hM2
    have hLA2 := hLA1.fr hf2 (by show ¬ (_ ≤ _); omega)
    refine z_istore [(6, .int (iI (0))), (5, .int (iI (cWy (sv xs (jx + 1)) (sv xs (jx + 2))))), (4, .int (iI (jx))), (0, .ref bs), (1, .ref (a 1200)), (2, .ref q), (3, .ref qo)] O dL_law_1213 (by decide) rfl ?_
    refine z_aload_n 5 O dL_law_1215 rfl ?_
    refine z_Vi [] [] kM_L_106 O dL_law_1216 (c_X6_thrown hst hMo2) rfl rfl hMo2.1 (by decide) (Nat.le_of_ble_eq_true rfl) (by omega) (by omega) (Nat.le_of_ble_eq_true rfl) zNx ?_
    refine z_iload 1 O dL_law_1219 rfl ?_
    refine z_icmp_eq 1226 O dL_law_1221 (by decide) hzc hzc (fun _ => ?_) (fun h => absurd rfl h)
    refine z_iload 1 O dL_law_1226 rfl ?_
    refine z_if_ne 1243 O dL_law_1228 (by decide) hzc (fun _ => ?_) (fun h => absurd h hc)
    refine z_goto 1818 O dL_law_1243 (by decide) ?_
    refine z_locs [2, 3, 4, 5, 6] rfl ?_
    exact K H2 r a n tx G fi ac dd kp ik ⟨rfl, hcm1.fr hf2 (fun s h => by show ¬ (_ ≤ _); omega), ⟨_, hM2⟩, ⟨_, hLA2⟩, hOK.keep hN.2⟩ (by have := hx.2.1; omega) (by have := hx.2.2; omega) _ _
theorem kM_L_168 : zMSW RL 168 yL_failed cL_failed 6 (some .int) [(0, 12, 15, 28), (0, 12, 19, 13)] 5 := ⟨(List.mem_of_getElem? (i := 37) (by decide +kernel)), (List.mem_of_getElem? (i := 822) (by decide +kernel)), by decide +kernel, by decide +kernel, by decide +kernel, (List.mem_of_getElem? (i := 820) (by decide +kernel)), (List.mem_of_getElem? (i := 821) (by decide +kernel))⟩
theorem kM_L_170 : zMV RL 170 yX6_failed cX6_failed 6 (some .int) 3 6 := ⟨⟨(List.mem_of_getElem? (i := 47) (by decide +kernel)), (List.mem_of_getElem? (i := 1225) (by decide +kernel)), by decide +kernel, by decide +kernel, by decide +kernel⟩, (List.mem_of_getElem? (i := 1222) (by decide +kernel)), (List.mem_of_getElem? (i := 1223) (by decide +kernel)), (List.mem_of_getElem? (i := 1224) (by decide +kernel)), ⟨_, rfl, rfl⟩⟩
theorem op_failed {x : zX} {bs Ls : Nat} {xs : Nat → Int32} {H : Heap} {r : zH} {a : Nat → Nat} {oa q : Nat} {Q : Nat → Nat} {qo : Nat} {n : Int} {tx G : Int → Int} {fi ac : Int} {dd : Nat → Int → Int} {kp ik : Int → Int} {N jx : Int} {aa bb : Nat} (hst : (zEn x).1.stackTraces = false) (O : zOk x RL cL_law 7 (some .boolean) "law" 12 478 601024 7293034) (hS : zScr x bs Ls xs) (Z : zLs (zEn x) H r a oa q Q qo n tx G fi ac dd kp ik N) (hN : 20 ≤ N ∧ N ≤ 538) (hj : 0 ≤ jx ∧ jx + 4 ≤ Ls ∧ Ls ≤ 2048) (h1 : aa + 13566 ≤ 601024) (h2 : bb + 277336 ≤ 7293034)
    (K : ∀ (H1 : Heap) (r1 : zH) (a1 : Nat → Nat) (n : Int) (tx G : Int → Int) (fi ac : Int) (dd : Nat → Int → Int) (kp ik : Int → Int), zLs (zEn x) H1 r1 a1 oa q Q qo n tx G fi ac dd kp ik (N + 1) → H1.size + zPs r ≤ H.size + zPs r1 + 70 → zSz H1 + 20 * zPs r ≤ zSz H + 20 * zPs r1 + 6700 → ∀ a9 b9 : Nat, zG x H1 a9 b9 1818 (zLv bs oa q qo jx) []) : zG x H aa bb 1246 (zLv bs oa q qo jx) [] := by
  obtain ⟨hoa, hcm, ⟨rf, hM⟩, ⟨u0, hLA⟩, hOK⟩ := Z
  subst hoa
  refine z_aload_n 2 O dL_law_1246 rfl ?_
  refine z_aload_n 1 O dL_law_1247 rfl ?_
  refine z_iload 0 O dL_law_1248 rfl ?_
  refine z_iconst 1 O dL_law_1250 (by decide +kernel) ?_
  refine z_iadd O dL_law_1251 ?_
  refine z_sld hS ⟨by omega, by omega⟩ (by omega) (by omega) O dL_law_1252 ?_
  refine z_aload_n 1 O dL_law_1253 rfl ?_
  refine z_iload 0 O dL_law_1254 rfl ?_
  refine z_iconst 2 O dL_law_1256 (by decide +kernel) ?_
  refine z_iadd O dL_law_1257 ?_
  refine z_sld hS ⟨by omega, by omega⟩ (by omega) (by omega) O dL_law_1258 ?_
  refine z_aload_n 1 O dL_law_1259 rfl ?_
  refine z_iload 0 O dL_law_1260 rfl ?_
  refine z_iconst 3 O dL_law_1262 (by decide +kernel) ?_
  refine z_iadd O dL_law_1263 ?_
  refine z_sld hS ⟨by omega, by omega⟩ (by omega) (by omega) O dL_law_1264 ?_
  refine z_aload_n 4 O dL_law_1265 rfl ?_
  have hzc : zR (cFd (sv xs (jx + 1)) (sv xs (jx + 2)) (sv xs (jx + 3))) := by unfold cFd; (repeat' split) <;> exact ⟨by omega, by omega⟩
  refine z_callH [.ref (a 1200), .int (iI (sv xs (jx + 1))), .int (iI (sv xs (jx + 2))), .int (iI (sv xs (jx + 3))), .ref qo] [] kM_L_168 O dL_law_1266 (c_L_failed hst hcm hOK (sv_R _ _) (sv_R _ _) (sv_R _ _) hLA) rfl rfl (by decide) (Nat.le_of_ble_eq_true rfl) (by omega) (by omega) (Nat.le_of_ble_eq_true rfl) (fun v9 H1 hp hz => ?_)
  obtain ⟨rfl, hw⟩ := hp
  refine z_istore [(5, .int (iI (cFd (sv xs (jx + 1)) (sv xs (jx + 2)) (sv xs (jx + 3))))), (4, .int (iI (jx))), (0, .ref bs), (1, .ref (a 1200)), (2, .ref q), (3, .ref qo)] O dL_law_1269 (by decide) rfl ?_
  by_cases hc : cFd (sv xs (jx + 1)) (sv xs (jx + 2)) (sv xs (jx + 3)) = 0
  · obtain ⟨_, r1, a1, ha1, hfr, hgv, hcm1, hLA1⟩ := hw.resolve_right (fun z => z.1 hc)
    have hM1 := hM.fr hfr (fun s h => by show ¬ (_ ≤ _); omega)
    obtain ⟨_, _, _, _, _, hMo, _⟩ := id hM1
    refine z_aload_n 4 O dL_law_1271 rfl ?_
    refine z_aload_n 2 O dL_law_1272 rfl ?_
    refine z_iload 1 O dL_law_1273 rfl ?_
    refine z_iconst 1 O dL_law_1275 (by decide +kernel) ?_
    refine z_iadd O dL_law_1276 ?_
    refine z_sld hS ⟨by omega, by omega⟩ (by omega) (by omega) O dL_law_1277 ?_
    refine z_aload_n 2 O dL_law_1278 rfl ?_
    refine z_iload 1 O dL_law_1279 rfl ?_
    refine z_iconst 2 O dL_law_1281 (by decide +kernel) ?_
    refine z_iadd O dL_law_1282 ?_
    refine z_sld hS ⟨by omega, by omega⟩ (by omega) (by omega) O dL_law_1283 ?_
    refine z_aload_n 2 O dL_law_1284 rfl ?_
    refine z_iload 1 O dL_law_1285 rfl ?_
    refine z_iconst 3 O dL_law_1287 (by decide +kernel) ?_
    refine z_iadd O dL_law_1288 ?_
    refine z_sld hS ⟨by omega, by omega⟩ (by omega) (by omega) O dL_law_1289 ?_
    refine z_Vim [.int (iI (sv xs (jx + 1))), .int (iI (sv xs (jx + 2))), .int (iI (sv xs (jx + 3)))] [] kM_L_170 O dL_law_1290 (c_X6_failed hst hM1 hOK.1 (sv_R _ _) (sv_R _ _) (sv_R _ _)).szi rfl rfl hMo.1 (by decide) (Nat.le_of_ble_eq_true rfl) (by omega) (by omega) (Nat.le_of_ble_eq_true rfl) zNx (fun H2 hp2 hz2 => ?_)
    obtain ⟨⟨hf2, hc2⟩, hs1, hs2⟩ := hp2
    rw [if_pos hc]
    obtain ⟨_, hM2⟩ := hc2.resolve_left (fun z => z.1 hc)
    obtain ⟨_, _, _, _, _, hMo2, _⟩ := id hM2
    have hLA2 := hLA1.fr hf2 (by show ¬ (_ ≤ _); omega)
    refine z_istore [(6, .int (iI ((sFs (sv xs (jx + 3)).toNat G (sv xs (jx + 1)) (sv xs (jx + 2)))))), (5, .int (iI (cFd (sv xs (jx + 1)) (sv xs (jx + 2)) (sv xs (jx + 3))))), (4, .int (iI (jx))), (0, .ref bs), (1, .ref (a 1200)), (2, .ref q), (3, .ref qo)] O dL_law_1293 (by decide) rfl ?_
    refine z_aload_n 5 O dL_law_1295 rfl ?_
    refine z_Vi [] [] kM_L_106 O dL_law_1296 (c_X6_thrown hst hMo2) rfl rfl hMo2.1 (by decide) (Nat.le_of_ble_eq_true rfl) (by omega) (by omega) (Nat.le_of_ble_eq_true rfl) zNx ?_
    refine z_iload 1 O dL_law_1299 rfl ?_
    refine z_icmp_eq 1306 O dL_law_1301 (by decide) ⟨by omega, by omega⟩ hzc (fun _ => ?_) (fun h => absurd hc.symm h)
    refine z_iload 1 O dL_law_1306 rfl ?_
    refine z_if_ne 1323 O dL_law_1308 (by decide) hzc (fun h => absurd hc h) (fun _ => ?_)
    refine z_aload_n 6 O dL_law_1311 rfl ?_
    refine z_iconst 0 O dL_law_1312 (by decide +kernel) ?_
    refine z_lald O dL_law_1313 hLA2.1 ?_
    refine z_iload 0 O dL_law_1314 rfl ?_
    refine z_i2lRh O.h dL_law_1316 ?_
    refine z_lcmpS O dL_law_1317 ?_
    refine z_if_eq 1323 O dL_law_1318 (by decide) ⟨by omega, by omega⟩ (fun _ => ?_) (fun h => absurd rfl h)
    refine z_goto 1818 O dL_law_1323 (by decide) ?_
    refine z_locs [2, 3, 4, 5, 6] rfl ?_
    exact K H2 r1 a1 n tx G fi ac dd kp ik ⟨ha1, hcm1.fr hf2 (fun s h => by show ¬ (_ ≤ _); omega), ⟨_, hM2⟩, ⟨_, hLA2⟩, hOK.keep hN.2⟩ (by unfold zGv at hgv; omega) (by unfold zGv at hgv; omega) _ _
  · obtain ⟨_, hx⟩ := hw.resolve_left (fun z => hc z.1)
    have hfr : zFr H r H1 r (fun _ => False) := hx.1.frr
    have hcm1 := hcm.fr hfr (fun _ _ h => h)
    have hM1 := hM.fr hfr (fun _ _ h => h)
    have hLA1 := hLA.fr hfr (fun h => h)
    obtain ⟨_, _, _, _, _, hMo, _⟩ := id hM1
    refine z_aload_n 4 O dL_law_1271 rfl ?_
    refine z_aload_n 2 O dL_law_1272 rfl ?_
    refine z_iload 1 O dL_law_1273 rfl ?_
    refine z_iconst 1 O dL_law_1275 (by decide +kernel) ?_
    refine z_iadd O dL_law_1276 ?_
    refine z_sld hS ⟨by omega, by omega⟩ (by omega) (by omega) O dL_law_1277 ?_
    refine z_aload_n 2 O dL_law_1278 rfl ?_
    refine z_iload 1 O dL_law_1279 rfl ?_
    refine z_iconst 2 O dL_law_1281 (by decide +kernel) ?_
    refine z_iadd O dL_law_1282 ?_
    refine z_sld hS ⟨by omega, by omega⟩ (by omega) (by omega) O dL_law_1283 ?_
    refine z_aload_n 2 O dL_law_1284 rfl ?_
    refine z_iload 1 O dL_law_1285 rfl ?_
    refine z_iconst 3 O dL_law_1287 (by decide +kernel) ?_
    refine z_iadd O dL_law_1288 ?_
    refine z_sld hS ⟨by omega, by omega⟩ (by omega) (by omega) O dL_law_1289 ?_
    refine z_Vim [.int (iI (sv xs (jx + 1))), .int (iI (sv xs (jx + 2))), .int (iI (sv xs (jx + 3)))] [] kM_L_170 O dL_law_1290 (c_X6_failed hst hM1 hOK.1 (sv_R _ _) (sv_R _ _) (sv_R _ _)).szi rfl rfl hMo.1 (by decide) (Nat.le_of_ble_eq_true rfl) (by omega) (by omega) (Nat.le_of_ble_eq_true rfl) zNx (fun H2 hp2 hz2 => ?_)
    obtain ⟨⟨hf2, hc2⟩, hs1, hs2⟩ := hp2
    rw [if_neg hc]
    obtain ⟨_, hM2⟩ := hc2.resolve_right (fun z => hc z.1)
    obtain ⟨_, _, _, _, _, hMo2, _⟩ := id hM2
    have hLA2 := hLA1.fr hf2 (by show ¬ (_ ≤ _); omega)
    refine z_istore [(6, .int (iI (0))), (5, .int (iI (cFd (sv xs (jx + 1)) (sv xs (jx + 2)) (sv xs (jx + 3))))), (4, .int (iI (jx))), (0, .ref bs), (1, .ref (a 1200)), (2, .ref q), (3, .ref qo)] O dL_law_1293 (by decide) rfl ?_
    refine z_aload_n 5 O dL_law_1295 rfl ?_
    refine z_Vi [] [] kM_L_106 O dL_law_1296 (c_X6_thrown hst hMo2) rfl rfl hMo2.1 (by decide) (Nat.le_of_ble_eq_true rfl) (by omega) (by omega) (Nat.le_of_ble_eq_true rfl) zNx ?_
    refine z_iload 1 O dL_law_1299 rfl ?_
    refine z_icmp_eq 1306 O dL_law_1301 (by decide) hzc hzc (fun _ => ?_) (fun h => absurd rfl h)
    refine z_iload 1 O dL_law_1306 rfl ?_
    refine z_if_ne 1323 O dL_law_1308 (by decide) hzc (fun _ => ?_) (fun h => absurd h hc)
    refine z_goto 1818 O dL_law_1323 (by decide) ?_
    refine z_locs [2, 3, 4, 5, 6] rfl ?_
    exact K H2 r a n tx G fi ac dd kp ik ⟨rfl, hcm1.fr hf2 (fun s h => by show ¬ (_ ≤ _); omega), ⟨_, hM2⟩, ⟨_, hLA2⟩, hOK.keep hN.2⟩ (by have := hx.2.1; omega) (by have := hx.2.2; omega) _ _
theorem kM_L_171 : zMSW RL 171 yL_changes cL_changes 4 (some .int) [(0, 9, 12, 28)] 3 := ⟨(List.mem_of_getElem? (i := 37) (by decide +kernel)), (List.mem_of_getElem? (i := 831) (by decide +kernel)), by decide +kernel, by decide +kernel, by decide +kernel, (List.mem_of_getElem? (i := 829) (by decide +kernel)), (List.mem_of_getElem? (i := 830) (by decide +kernel))⟩
theorem kM_L_173 : zMV RL 173 yX6_changes cX6_changes 2 (some .int) 1 6 := ⟨⟨(List.mem_of_getElem? (i := 47) (by decide +kernel)), (List.mem_of_getElem? (i := 1233) (by decide +kernel)), by decide +kernel, by decide +kernel, by decide +kernel⟩, (List.mem_of_getElem? (i := 1230) (by decide +kernel)), (List.mem_of_getElem? (i := 1231) (by decide +kernel)), (List.mem_of_getElem? (i := 1232) (by decide +kernel)), ⟨_, rfl, rfl⟩⟩
theorem op_changes {x : zX} {bs Ls : Nat} {xs : Nat → Int32} {H : Heap} {r : zH} {a : Nat → Nat} {oa q : Nat} {Q : Nat → Nat} {qo : Nat} {n : Int} {tx G : Int → Int} {fi ac : Int} {dd : Nat → Int → Int} {kp ik : Int → Int} {N jx : Int} {aa bb : Nat} (hst : (zEn x).1.stackTraces = false) (O : zOk x RL cL_law 7 (some .boolean) "law" 12 478 601024 7293034) (hS : zScr x bs Ls xs) (Z : zLs (zEn x) H r a oa q Q qo n tx G fi ac dd kp ik N) (hN : 20 ≤ N ∧ N ≤ 538) (hj : 0 ≤ jx ∧ jx + 4 ≤ Ls ∧ Ls ≤ 2048) (h1 : aa + 13566 ≤ 601024) (h2 : bb + 277336 ≤ 7293034)
    (K : ∀ (H1 : Heap) (r1 : zH) (a1 : Nat → Nat) (n : Int) (tx G : Int → Int) (fi ac : Int) (dd : Nat → Int → Int) (kp ik : Int → Int), zLs (zEn x) H1 r1 a1 oa q Q qo n tx G fi ac dd kp ik (N + 1) → H1.size + zPs r ≤ H.size + zPs r1 + 70 → zSz H1 + 20 * zPs r ≤ zSz H + 20 * zPs r1 + 6700 → ∀ a9 b9 : Nat, zG x H1 a9 b9 1818 (zLv bs oa q qo jx) []) : zG x H aa bb 1326 (zLv bs oa q qo jx) [] := by
  obtain ⟨hoa, hcm, ⟨rf, hM⟩, ⟨u0, hLA⟩, hOK⟩ := Z
  subst hoa
  refine z_aload_n 2 O dL_law_1326 rfl ?_
  refine z_aload_n 1 O dL_law_1327 rfl ?_
  refine z_iload 0 O dL_law_1328 rfl ?_
  refine z_iconst 1 O dL_law_1330 (by decide +kernel) ?_
  refine z_iadd O dL_law_1331 ?_
  refine z_sld hS ⟨by omega, by omega⟩ (by omega) (by omega) O dL_law_1332 ?_
  refine z_aload_n 4 O dL_law_1333 rfl ?_
  have hzc : zR (cWw (sv xs (jx + 1))) := by unfold cWw; (repeat' split) <;> exact ⟨by omega, by omega⟩
  refine z_callH [.ref (a 1200), .int (iI (sv xs (jx + 1))), .ref qo] [] kM_L_171 O dL_law_1334 (c_L_changes hst hcm hOK (sv_R _ _) hLA) rfl rfl (by decide) (Nat.le_of_ble_eq_true rfl) (by omega) (by omega) (Nat.le_of_ble_eq_true rfl) (fun v9 H1 hp hz => ?_)
  obtain ⟨rfl, hw⟩ := hp
  refine z_istore [(5, .int (iI (cWw (sv xs (jx + 1))))), (4, .int (iI (jx))), (0, .ref bs), (1, .ref (a 1200)), (2, .ref q), (3, .ref qo)] O dL_law_1337 (by decide) rfl ?_
  by_cases hc : cWw (sv xs (jx + 1)) = 0
  · obtain ⟨_, r1, a1, ha1, hfr, hgv, hcm1, hLA1⟩ := hw.resolve_right (fun z => z.1 hc)
    have hM1 := hM.fr hfr (fun s h => by show ¬ (_ ≤ _); omega)
    obtain ⟨_, _, _, _, _, hMo, _⟩ := id hM1
    refine z_aload_n 4 O dL_law_1339 rfl ?_
    refine z_aload_n 2 O dL_law_1340 rfl ?_
    refine z_iload 1 O dL_law_1341 rfl ?_
    refine z_iconst 1 O dL_law_1343 (by decide +kernel) ?_
    refine z_iadd O dL_law_1344 ?_
    refine z_sld hS ⟨by omega, by omega⟩ (by omega) (by omega) O dL_law_1345 ?_
    refine z_Vim [.int (iI (sv xs (jx + 1)))] [] kM_L_173 O dL_law_1346 (c_X6_changes hst hM1 hOK.1 (sv_R _ _)).szi rfl rfl hMo.1 (by decide) (Nat.le_of_ble_eq_true rfl) (by omega) (by omega) (Nat.le_of_ble_eq_true rfl) zNx (fun H2 hp2 hz2 => ?_)
    obtain ⟨⟨hf2, hc2⟩, hs1, hs2⟩ := hp2
    rw [if_pos hc]
    obtain ⟨_, hM2⟩ := hc2.resolve_left (fun z => z.1 hc)
    obtain ⟨_, _, _, _, _, hMo2, _⟩ := id hM2
    have hLA2 := hLA1.fr hf2 (by show ¬ (_ ≤ _); omega)
    refine z_istore [(6, .int (iI ((vCh G (sv xs (jx + 1)))))), (5, .int (iI (cWw (sv xs (jx + 1))))), (4, .int (iI (jx))), (0, .ref bs), (1, .ref (a 1200)), (2, .ref q), (3, .ref qo)] O dL_law_1349 (by decide) rfl ?_
    refine z_aload_n 5 O dL_law_1351 rfl ?_
    refine z_Vi [] [] kM_L_106 O dL_law_1352 (c_X6_thrown hst hMo2) rfl rfl hMo2.1 (by decide) (Nat.le_of_ble_eq_true rfl) (by omega) (by omega) (Nat.le_of_ble_eq_true rfl) zNx ?_
    refine z_iload 1 O dL_law_1355 rfl ?_
    refine z_icmp_eq 1362 O dL_law_1357 (by decide) ⟨by omega, by omega⟩ hzc (fun _ => ?_) (fun h => absurd hc.symm h)
    refine z_iload 1 O dL_law_1362 rfl ?_
    refine z_if_ne 1379 O dL_law_1364 (by decide) hzc (fun h => absurd hc h) (fun _ => ?_)
    refine z_aload_n 6 O dL_law_1367 rfl ?_
    refine z_iconst 0 O dL_law_1368 (by decide +kernel) ?_
    refine z_lald O dL_law_1369 hLA2.1 ?_
    refine z_iload 0 O dL_law_1370 rfl ?_
    refine z_i2lRh O.h dL_law_1372 ?_
    refine z_lcmpS O dL_law_1373 ?_
    refine z_if_eq 1379 O dL_law_1374 (by decide) ⟨by omega, by omega⟩ (fun _ => ?_) (fun h => absurd rfl h)
    refine z_goto 1818 O dL_law_1379 (by decide) ?_
    refine z_locs [2, 3, 4, 5, 6] rfl ?_
    exact K H2 r1 a1 n tx G fi ac dd kp ik ⟨ha1, hcm1.fr hf2 (fun s h => by show ¬ (_ ≤ _); omega), ⟨_, hM2⟩, ⟨_, hLA2⟩, hOK.keep hN.2⟩ (by unfold zGv at hgv; omega) (by unfold zGv at hgv; omega) _ _
  · obtain ⟨_, hx⟩ := hw.resolve_left (fun z => hc z.1)
    have hfr : zFr H r H1 r (fun _ => False) := hx.1.frr
    have hcm1 := hcm.fr hfr (fun _ _ h => h)
    have hM1 := hM.fr hfr (fun _ _ h => h)
    have hLA1 := hLA.fr hfr (fun h => h)
    obtain ⟨_, _, _, _, _, hMo, _⟩ := id hM1
    refine z_aload_n 4 O dL_law_1339 rfl ?_
    refine z_aload_n 2 O dL_law_1340 rfl ?_
    refine z_iload 1 O dL_law_1341 rfl ?_
    refine z_iconst 1 O dL_law_1343 (by decide +kernel) ?_
    refine z_iadd O dL_law_1344 ?_
    refine z_sld hS ⟨by omega, by omega⟩ (by omega) (by omega) O dL_law_1345 ?_
    refine z_Vim [.int (iI (sv xs (jx + 1)))] [] kM_L_173 O dL_law_1346 (c_X6_changes hst hM1 hOK.1 (sv_R _ _)).szi rfl rfl hMo.1 (by decide) (Nat.le_of_ble_eq_true rfl) (by omega) (by omega) (Nat.le_of_ble_eq_true rfl) zNx (fun H2 hp2 hz2 => ?_)
    obtain ⟨⟨hf2, hc2⟩, hs1, hs2⟩ := hp2
    rw [if_neg hc]
    obtain ⟨_, hM2⟩ := hc2.resolve_right (fun z => hc z.1)
    obtain ⟨_, _, _, _, _, hMo2, _⟩ := id hM2
    have hLA2 := hLA1.fr hf2 (by show ¬ (_ ≤ _); omega)
    refine z_istore [(6, .int (iI (0))), (5, .int (iI (cWw (sv xs (jx + 1))))), (4, .int (iI (jx))), (0, .ref bs), (1, .ref (a 1200)), (2, .ref q), (3, .ref qo)] O dL_law_1349 (by decide) rfl ?_
    refine z_aload_n 5 O dL_law_1351 rfl ?_
    refine z_Vi [] [] kM_L_106 O dL_law_1352 (c_X6_thrown hst hMo2) rfl rfl hMo2.1 (by decide) (Nat.le_of_ble_eq_true rfl) (by omega) (by omega) (Nat.le_of_ble_eq_true rfl) zNx ?_
    refine z_iload 1 O dL_law_1355 rfl ?_
    refine z_icmp_eq 1362 O dL_law_1357 (by decide) hzc hzc (fun _ => ?_) (fun h => absurd rfl h)
    refine z_iload 1 O dL_law_1362 rfl ?_
    refine z_if_ne 1379 O dL_law_1364 (by decide) hzc (fun _ => ?_) (fun h => absurd h hc)
    refine z_goto 1818 O dL_law_1379 (by decide) ?_
    refine z_locs [2, 3, 4, 5, 6] rfl ?_
    exact K H2 r a n tx G fi ac dd kp ik ⟨rfl, hcm1.fr hf2 (fun s h => by show ¬ (_ ≤ _); omega), ⟨_, hM2⟩, ⟨_, hLA2⟩, hOK.keep hN.2⟩ (by have := hx.2.1; omega) (by have := hx.2.2; omega) _ _
theorem kM_L_174 : zMSW RL 174 yL_lost cL_lost 5 (some .int) [(0, 10, 13, 28)] 4 := ⟨(List.mem_of_getElem? (i := 37) (by decide +kernel)), (List.mem_of_getElem? (i := 842) (by decide +kernel)), by decide +kernel, by decide +kernel, by decide +kernel, (List.mem_of_getElem? (i := 840) (by decide +kernel)), (List.mem_of_getElem? (i := 841) (by decide +kernel))⟩
theorem kM_L_176 : zMV RL 176 yX6_lost cX6_lost 4 (some .int) 2 6 := ⟨⟨(List.mem_of_getElem? (i := 47) (by decide +kernel)), (List.mem_of_getElem? (i := 1241) (by decide +kernel)), by decide +kernel, by decide +kernel, by decide +kernel⟩, (List.mem_of_getElem? (i := 1238) (by decide +kernel)), (List.mem_of_getElem? (i := 1239) (by decide +kernel)), (List.mem_of_getElem? (i := 1240) (by decide +kernel)), ⟨_, rfl, rfl⟩⟩
theorem op_lost {x : zX} {bs Ls : Nat} {xs : Nat → Int32} {H : Heap} {r : zH} {a : Nat → Nat} {oa q : Nat} {Q : Nat → Nat} {qo : Nat} {n : Int} {tx G : Int → Int} {fi ac : Int} {dd : Nat → Int → Int} {kp ik : Int → Int} {N jx : Int} {aa bb : Nat} (hst : (zEn x).1.stackTraces = false) (O : zOk x RL cL_law 7 (some .boolean) "law" 12 478 601024 7293034) (hS : zScr x bs Ls xs) (Z : zLs (zEn x) H r a oa q Q qo n tx G fi ac dd kp ik N) (hN : 20 ≤ N ∧ N ≤ 538) (hj : 0 ≤ jx ∧ jx + 4 ≤ Ls ∧ Ls ≤ 2048) (h1 : aa + 13566 ≤ 601024) (h2 : bb + 277336 ≤ 7293034)
    (K : ∀ (H1 : Heap) (r1 : zH) (a1 : Nat → Nat) (n : Int) (tx G : Int → Int) (fi ac : Int) (dd : Nat → Int → Int) (kp ik : Int → Int), zLs (zEn x) H1 r1 a1 oa q Q qo n tx G fi ac dd kp ik (N + 1) → H1.size + zPs r ≤ H.size + zPs r1 + 70 → zSz H1 + 20 * zPs r ≤ zSz H + 20 * zPs r1 + 6700 → ∀ a9 b9 : Nat, zG x H1 a9 b9 1818 (zLv bs oa q qo jx) []) : zG x H aa bb 1382 (zLv bs oa q qo jx) [] := by
  obtain ⟨hoa, hcm, ⟨rf, hM⟩, ⟨u0, hLA⟩, hOK⟩ := Z
  subst hoa
  refine z_aload_n 2 O dL_law_1382 rfl ?_
  refine z_aload_n 1 O dL_law_1383 rfl ?_
  refine z_iload 0 O dL_law_1384 rfl ?_
  refine z_iconst 1 O dL_law_1386 (by decide +kernel) ?_
  refine z_iadd O dL_law_1387 ?_
  refine z_sld hS ⟨by omega, by omega⟩ (by omega) (by omega) O dL_law_1388 ?_
  refine z_aload_n 1 O dL_law_1389 rfl ?_
  refine z_iload 0 O dL_law_1390 rfl ?_
  refine z_iconst 2 O dL_law_1392 (by decide +kernel) ?_
  refine z_iadd O dL_law_1393 ?_
  refine z_sld hS ⟨by omega, by omega⟩ (by omega) (by omega) O dL_law_1394 ?_
  refine z_aload_n 4 O dL_law_1395 rfl ?_
  have hzc : zR (cLo G (sv xs (jx + 1)) (sv xs (jx + 2))) := by unfold cLo; (repeat' split) <;> exact ⟨by omega, by omega⟩
  refine z_callH [.ref (a 1200), .int (iI (sv xs (jx + 1))), .int (iI (sv xs (jx + 2))), .ref qo] [] kM_L_174 O dL_law_1396 (c_L_lost hst hcm hOK (sv_R _ _) (sv_R _ _) hLA) rfl rfl (by decide) (Nat.le_of_ble_eq_true rfl) (by omega) (by omega) (Nat.le_of_ble_eq_true rfl) (fun v9 H1 hp hz => ?_)
  obtain ⟨rfl, hw⟩ := hp
  refine z_istore [(5, .int (iI (cLo G (sv xs (jx + 1)) (sv xs (jx + 2))))), (4, .int (iI (jx))), (0, .ref bs), (1, .ref (a 1200)), (2, .ref q), (3, .ref qo)] O dL_law_1399 (by decide) rfl ?_
  by_cases hc : cLo G (sv xs (jx + 1)) (sv xs (jx + 2)) = 0
  · obtain ⟨_, r1, a1, ha1, hfr, hgv, hcm1, hLA1⟩ := hw.resolve_right (fun z => z.1 hc)
    have hM1 := hM.fr hfr (fun s h => by show ¬ (_ ≤ _); omega)
    obtain ⟨_, _, _, _, _, hMo, _⟩ := id hM1
    refine z_aload_n 4 O dL_law_1401 rfl ?_
    refine z_aload_n 2 O dL_law_1402 rfl ?_
    refine z_iload 1 O dL_law_1403 rfl ?_
    refine z_iconst 1 O dL_law_1405 (by decide +kernel) ?_
    refine z_iadd O dL_law_1406 ?_
    refine z_sld hS ⟨by omega, by omega⟩ (by omega) (by omega) O dL_law_1407 ?_
    refine z_aload_n 2 O dL_law_1408 rfl ?_
    refine z_iload 1 O dL_law_1409 rfl ?_
    refine z_iconst 2 O dL_law_1411 (by decide +kernel) ?_
    refine z_iadd O dL_law_1412 ?_
    refine z_sld hS ⟨by omega, by omega⟩ (by omega) (by omega) O dL_law_1413 ?_
    refine z_Vim [.int (iI (sv xs (jx + 1))), .int (iI (sv xs (jx + 2)))] [] kM_L_176 O dL_law_1414 (c_X6_lost hst hM1 hOK.1 (sv_R _ _) (sv_R _ _)).szi rfl rfl hMo.1 (by decide) (Nat.le_of_ble_eq_true rfl) (by omega) (by omega) (Nat.le_of_ble_eq_true rfl) zNx (fun H2 hp2 hz2 => ?_)
    obtain ⟨⟨hf2, hc2⟩, hs1, hs2⟩ := hp2
    rw [if_pos hc]
    obtain ⟨_, hM2⟩ := hc2.resolve_left (fun z => z.1 hc)
    obtain ⟨_, _, _, _, _, hMo2, _⟩ := id hM2
    have hLA2 := hLA1.fr hf2 (by show ¬ (_ ≤ _); omega)
    refine z_istore [(6, .int (iI ((zSum 16 (sDf (sBack G (sv xs (jx + 1)) (sv xs (jx + 2))) G))))), (5, .int (iI (cLo G (sv xs (jx + 1)) (sv xs (jx + 2))))), (4, .int (iI (jx))), (0, .ref bs), (1, .ref (a 1200)), (2, .ref q), (3, .ref qo)] O dL_law_1417 (by decide) rfl ?_
    refine z_aload_n 5 O dL_law_1419 rfl ?_
    refine z_Vi [] [] kM_L_106 O dL_law_1420 (c_X6_thrown hst hMo2) rfl rfl hMo2.1 (by decide) (Nat.le_of_ble_eq_true rfl) (by omega) (by omega) (Nat.le_of_ble_eq_true rfl) zNx ?_
    refine z_iload 1 O dL_law_1423 rfl ?_
    refine z_icmp_eq 1430 O dL_law_1425 (by decide) ⟨by omega, by omega⟩ hzc (fun _ => ?_) (fun h => absurd hc.symm h)
    refine z_iload 1 O dL_law_1430 rfl ?_
    refine z_if_ne 1447 O dL_law_1432 (by decide) hzc (fun h => absurd hc h) (fun _ => ?_)
    refine z_aload_n 6 O dL_law_1435 rfl ?_
    refine z_iconst 0 O dL_law_1436 (by decide +kernel) ?_
    refine z_lald O dL_law_1437 hLA2.1 ?_
    refine z_iload 0 O dL_law_1438 rfl ?_
    refine z_i2lRh O.h dL_law_1440 ?_
    refine z_lcmpS O dL_law_1441 ?_
    refine z_if_eq 1447 O dL_law_1442 (by decide) ⟨by omega, by omega⟩ (fun _ => ?_) (fun h => absurd rfl h)
    refine z_goto 1818 O dL_law_1447 (by decide) ?_
    refine z_locs [2, 3, 4, 5, 6] rfl ?_
    exact K H2 r1 a1 n tx G fi ac dd kp ik ⟨ha1, hcm1.fr hf2 (fun s h => by show ¬ (_ ≤ _); omega), ⟨_, hM2⟩, ⟨_, hLA2⟩, hOK.keep hN.2⟩ (by unfold zGv at hgv; omega) (by unfold zGv at hgv; omega) _ _
  · obtain ⟨_, hx⟩ := hw.resolve_left (fun z => hc z.1)
    have hfr : zFr H r H1 r (fun _ => False) := hx.1.frr
    have hcm1 := hcm.fr hfr (fun _ _ h => h)
    have hM1 := hM.fr hfr (fun _ _ h => h)
    have hLA1 := hLA.fr hfr (fun h => h)
    obtain ⟨_, _, _, _, _, hMo, _⟩ := id hM1
    refine z_aload_n 4 O dL_law_1401 rfl ?_
    refine z_aload_n 2 O dL_law_1402 rfl ?_
    refine z_iload 1 O dL_law_1403 rfl ?_
    refine z_iconst 1 O dL_law_1405 (by decide +kernel) ?_
    refine z_iadd O dL_law_1406 ?_
    refine z_sld hS ⟨by omega, by omega⟩ (by omega) (by omega) O dL_law_1407 ?_
    refine z_aload_n 2 O dL_law_1408 rfl ?_
    refine z_iload 1 O dL_law_1409 rfl ?_
    refine z_iconst 2 O dL_law_1411 (by decide +kernel) ?_
    refine z_iadd O dL_law_1412 ?_
    refine z_sld hS ⟨by omega, by omega⟩ (by omega) (by omega) O dL_law_1413 ?_
    refine z_Vim [.int (iI (sv xs (jx + 1))), .int (iI (sv xs (jx + 2)))] [] kM_L_176 O dL_law_1414 (c_X6_lost hst hM1 hOK.1 (sv_R _ _) (sv_R _ _)).szi rfl rfl hMo.1 (by decide) (Nat.le_of_ble_eq_true rfl) (by omega) (by omega) (Nat.le_of_ble_eq_true rfl) zNx (fun H2 hp2 hz2 => ?_)
    obtain ⟨⟨hf2, hc2⟩, hs1, hs2⟩ := hp2
    rw [if_neg hc]
    obtain ⟨_, hM2⟩ := hc2.resolve_right (fun z => hc z.1)
    obtain ⟨_, _, _, _, _, hMo2, _⟩ := id hM2
    have hLA2 := hLA1.fr hf2 (by show ¬ (_ ≤ _); omega)
    refine z_istore [(6, .int (iI (0))), (5, .int (iI (cLo G (sv xs (jx + 1)) (sv xs (jx + 2))))), (4, .int (iI (jx))), (0, .ref bs), (1, .ref (a 1200)), (2, .ref q), (3, .ref qo)] O dL_law_1417 (by decide) rfl ?_
    refine z_aload_n 5 O dL_law_1419 rfl ?_
    refine z_Vi [] [] kM_L_106 O dL_law_1420 (c_X6_thrown hst hMo2) rfl rfl hMo2.1 (by decide) (Nat.le_of_ble_eq_true rfl) (by omega) (by omega) (Nat.le_of_ble_eq_true rfl) zNx ?_
    refine z_iload 1 O dL_law_1423 rfl ?_
    refine z_icmp_eq 1430 O dL_law_1425 (by decide) hzc hzc (fun _ => ?_) (fun h => absurd rfl h)
    refine z_iload 1 O dL_law_1430 rfl ?_
    refine z_if_ne 1447 O dL_law_1432 (by decide) hzc (fun _ => ?_) (fun h => absurd h hc)
    refine z_goto 1818 O dL_law_1447 (by decide) ?_
    refine z_locs [2, 3, 4, 5, 6] rfl ?_
    exact K H2 r a n tx G fi ac dd kp ik ⟨rfl, hcm1.fr hf2 (fun s h => by show ¬ (_ ≤ _); omega), ⟨_, hM2⟩, ⟨_, hLA2⟩, hOK.keep hN.2⟩ (by have := hx.2.1; omega) (by have := hx.2.2; omega) _ _
theorem kM_L_177 : zMSW RL 177 yL_mercyLeft cL_mercyLeft 4 (some .int) [(0, 9, 12, 28)] 3 := ⟨(List.mem_of_getElem? (i := 37) (by decide +kernel)), (List.mem_of_getElem? (i := 850) (by decide +kernel)), by decide +kernel, by decide +kernel, by decide +kernel, (List.mem_of_getElem? (i := 848) (by decide +kernel)), (List.mem_of_getElem? (i := 849) (by decide +kernel))⟩
theorem kM_L_179 : zMV RL 179 yX6_mercyLeft cX6_mercyLeft 3 (some .int) 1 6 := ⟨⟨(List.mem_of_getElem? (i := 47) (by decide +kernel)), (List.mem_of_getElem? (i := 1245) (by decide +kernel)), by decide +kernel, by decide +kernel, by decide +kernel⟩, (List.mem_of_getElem? (i := 1242) (by decide +kernel)), (List.mem_of_getElem? (i := 1243) (by decide +kernel)), (List.mem_of_getElem? (i := 1244) (by decide +kernel)), ⟨_, rfl, rfl⟩⟩
theorem op_mercyLeft {x : zX} {bs Ls : Nat} {xs : Nat → Int32} {H : Heap} {r : zH} {a : Nat → Nat} {oa q : Nat} {Q : Nat → Nat} {qo : Nat} {n : Int} {tx G : Int → Int} {fi ac : Int} {dd : Nat → Int → Int} {kp ik : Int → Int} {N jx : Int} {aa bb : Nat} (hst : (zEn x).1.stackTraces = false) (O : zOk x RL cL_law 7 (some .boolean) "law" 12 478 601024 7293034) (hS : zScr x bs Ls xs) (Z : zLs (zEn x) H r a oa q Q qo n tx G fi ac dd kp ik N) (hN : 20 ≤ N ∧ N ≤ 538) (hj : 0 ≤ jx ∧ jx + 4 ≤ Ls ∧ Ls ≤ 2048) (h1 : aa + 13566 ≤ 601024) (h2 : bb + 277336 ≤ 7293034)
    (K : ∀ (H1 : Heap) (r1 : zH) (a1 : Nat → Nat) (n : Int) (tx G : Int → Int) (fi ac : Int) (dd : Nat → Int → Int) (kp ik : Int → Int), zLs (zEn x) H1 r1 a1 oa q Q qo n tx G fi ac dd kp ik (N + 1) → H1.size + zPs r ≤ H.size + zPs r1 + 70 → zSz H1 + 20 * zPs r ≤ zSz H + 20 * zPs r1 + 6700 → ∀ a9 b9 : Nat, zG x H1 a9 b9 1818 (zLv bs oa q qo jx) []) : zG x H aa bb 1450 (zLv bs oa q qo jx) [] := by
  obtain ⟨hoa, hcm, ⟨rf, hM⟩, ⟨u0, hLA⟩, hOK⟩ := Z
  subst hoa
  refine z_aload_n 2 O dL_law_1450 rfl ?_
  refine z_aload_n 1 O dL_law_1451 rfl ?_
  refine z_iload 0 O dL_law_1452 rfl ?_
  refine z_iconst 1 O dL_law_1454 (by decide +kernel) ?_
  refine z_iadd O dL_law_1455 ?_
  refine z_sld hS ⟨by omega, by omega⟩ (by omega) (by omega) O dL_law_1456 ?_
  refine z_aload_n 4 O dL_law_1457 rfl ?_
  have hzc : zR (cWw (sv xs (jx + 1))) := by unfold cWw; (repeat' split) <;> exact ⟨by omega, by omega⟩
  refine z_callH [.ref (a 1200), .int (iI (sv xs (jx + 1))), .ref qo] [] kM_L_177 O dL_law_1458 (c_L_mercyLeft hst hcm hOK (sv_R _ _) hLA) rfl rfl (by decide) (Nat.le_of_ble_eq_true rfl) (by omega) (by omega) (Nat.le_of_ble_eq_true rfl) (fun v9 H1 hp hz => ?_)
  obtain ⟨rfl, hw⟩ := hp
  refine z_istore [(5, .int (iI (cWw (sv xs (jx + 1))))), (4, .int (iI (jx))), (0, .ref bs), (1, .ref (a 1200)), (2, .ref q), (3, .ref qo)] O dL_law_1461 (by decide) rfl ?_
  by_cases hc : cWw (sv xs (jx + 1)) = 0
  · obtain ⟨_, r1, a1, ha1, hfr, hgv, hcm1, hLA1⟩ := hw.resolve_right (fun z => z.1 hc)
    have hM1 := hM.fr hfr (fun s h => by show ¬ (_ ≤ _); omega)
    obtain ⟨_, _, _, _, _, hMo, _⟩ := id hM1
    refine z_aload_n 4 O dL_law_1463 rfl ?_
    refine z_aload_n 2 O dL_law_1464 rfl ?_
    refine z_iload 1 O dL_law_1465 rfl ?_
    refine z_iconst 1 O dL_law_1467 (by decide +kernel) ?_
    refine z_iadd O dL_law_1468 ?_
    refine z_sld hS ⟨by omega, by omega⟩ (by omega) (by omega) O dL_law_1469 ?_
    refine z_Vim [.int (iI (sv xs (jx + 1)))] [] kM_L_179 O dL_law_1470 (c_X6_mercyLeft hst hM1 hOK.1 (sv_R _ _)).szi rfl rfl hMo.1 (by decide) (Nat.le_of_ble_eq_true rfl) (by omega) (by omega) (Nat.le_of_ble_eq_true rfl) zNx (fun H2 hp2 hz2 => ?_)
    obtain ⟨⟨hf2, hc2⟩, hs1, hs2⟩ := hp2
    rw [if_pos hc]
    obtain ⟨_, hM2⟩ := hc2.resolve_left (fun z => z.1 hc)
    obtain ⟨_, _, _, _, _, hMo2, _⟩ := id hM2
    have hLA2 := hLA1.fr hf2 (by show ¬ (_ ≤ _); omega)
    refine z_istore [(6, .int (iI ((vMl G (sv xs (jx + 1)))))), (5, .int (iI (cWw (sv xs (jx + 1))))), (4, .int (iI (jx))), (0, .ref bs), (1, .ref (a 1200)), (2, .ref q), (3, .ref qo)] O dL_law_1473 (by decide) rfl ?_
    refine z_aload_n 5 O dL_law_1475 rfl ?_
    refine z_Vi [] [] kM_L_106 O dL_law_1476 (c_X6_thrown hst hMo2) rfl rfl hMo2.1 (by decide) (Nat.le_of_ble_eq_true rfl) (by omega) (by omega) (Nat.le_of_ble_eq_true rfl) zNx ?_
    refine z_iload 1 O dL_law_1479 rfl ?_
    refine z_icmp_eq 1486 O dL_law_1481 (by decide) ⟨by omega, by omega⟩ hzc (fun _ => ?_) (fun h => absurd hc.symm h)
    refine z_iload 1 O dL_law_1486 rfl ?_
    refine z_if_ne 1503 O dL_law_1488 (by decide) hzc (fun h => absurd hc h) (fun _ => ?_)
    refine z_aload_n 6 O dL_law_1491 rfl ?_
    refine z_iconst 0 O dL_law_1492 (by decide +kernel) ?_
    refine z_lald O dL_law_1493 hLA2.1 ?_
    refine z_iload 0 O dL_law_1494 rfl ?_
    refine z_i2lRh O.h dL_law_1496 ?_
    refine z_lcmpS O dL_law_1497 ?_
    refine z_if_eq 1503 O dL_law_1498 (by decide) ⟨by omega, by omega⟩ (fun _ => ?_) (fun h => absurd rfl h)
    refine z_goto 1818 O dL_law_1503 (by decide) ?_
    refine z_locs [2, 3, 4, 5, 6] rfl ?_
    exact K H2 r1 a1 n tx G fi ac dd kp ik ⟨ha1, hcm1.fr hf2 (fun s h => by show ¬ (_ ≤ _); omega), ⟨_, hM2⟩, ⟨_, hLA2⟩, hOK.keep hN.2⟩ (by unfold zGv at hgv; omega) (by unfold zGv at hgv; omega) _ _
  · obtain ⟨_, hx⟩ := hw.resolve_left (fun z => hc z.1)
    have hfr : zFr H r H1 r (fun _ => False) := hx.1.frr
    have hcm1 := hcm.fr hfr (fun _ _ h => h)
    have hM1 := hM.fr hfr (fun _ _ h => h)
    have hLA1 := hLA.fr hfr (fun h => h)
    obtain ⟨_, _, _, _, _, hMo, _⟩ := id hM1
    refine z_aload_n 4 O dL_law_1463 rfl ?_
    refine z_aload_n 2 O dL_law_1464 rfl ?_
    refine z_iload 1 O dL_law_1465 rfl ?_
    refine z_iconst 1 O dL_law_1467 (by decide +kernel) ?_
    refine z_iadd O dL_law_1468 ?_
    refine z_sld hS ⟨by omega, by omega⟩ (by omega) (by omega) O dL_law_1469 ?_
    refine z_Vim [.int (iI (sv xs (jx + 1)))] [] kM_L_179 O dL_law_1470 (c_X6_mercyLeft hst hM1 hOK.1 (sv_R _ _)).szi rfl rfl hMo.1 (by decide) (Nat.le_of_ble_eq_true rfl) (by omega) (by omega) (Nat.le_of_ble_eq_true rfl) zNx (fun H2 hp2 hz2 => ?_)
    obtain ⟨⟨hf2, hc2⟩, hs1, hs2⟩ := hp2
    rw [if_neg hc]
    obtain ⟨_, hM2⟩ := hc2.resolve_right (fun z => hc z.1)
    obtain ⟨_, _, _, _, _, hMo2, _⟩ := id hM2
    have hLA2 := hLA1.fr hf2 (by show ¬ (_ ≤ _); omega)
    refine z_istore [(6, .int (iI (0))), (5, .int (iI (cWw (sv xs (jx + 1))))), (4, .int (iI (jx))), (0, .ref bs), (1, .ref (a 1200)), (2, .ref q), (3, .ref qo)] O dL_law_1473 (by decide) rfl ?_
    refine z_aload_n 5 O dL_law_1475 rfl ?_
    refine z_Vi [] [] kM_L_106 O dL_law_1476 (c_X6_thrown hst hMo2) rfl rfl hMo2.1 (by decide) (Nat.le_of_ble_eq_true rfl) (by omega) (by omega) (Nat.le_of_ble_eq_true rfl) zNx ?_
    refine z_iload 1 O dL_law_1479 rfl ?_
    refine z_icmp_eq 1486 O dL_law_1481 (by decide) hzc hzc (fun _ => ?_) (fun h => absurd rfl h)
    refine z_iload 1 O dL_law_1486 rfl ?_
    refine z_if_ne 1503 O dL_law_1488 (by decide) hzc (fun _ => ?_) (fun h => absurd h hc)
    refine z_goto 1818 O dL_law_1503 (by decide) ?_
    refine z_locs [2, 3, 4, 5, 6] rfl ?_
    exact K H2 r a n tx G fi ac dd kp ik ⟨rfl, hcm1.fr hf2 (fun s h => by show ¬ (_ ≤ _); omega), ⟨_, hM2⟩, ⟨_, hLA2⟩, hOK.keep hN.2⟩ (by have := hx.2.1; omega) (by have := hx.2.2; omega) _ _
theorem kM_L_182 : zMSW RL 182 yL_runScript cL_runScript 6 (some .int) [(0, 11, 14, 13)] 4 := ⟨(List.mem_of_getElem? (i := 37) (by decide +kernel)), (List.mem_of_getElem? (i := 859) (by decide +kernel)), by decide +kernel, by decide +kernel, by decide +kernel, (List.mem_of_getElem? (i := 857) (by decide +kernel)), (List.mem_of_getElem? (i := 858) (by decide +kernel))⟩
theorem kM_L_185 : zMV RL 185 yX6_runScript cX6_runScript 6 (some .int) 2 6 := ⟨⟨(List.mem_of_getElem? (i := 47) (by decide +kernel)), (List.mem_of_getElem? (i := 1249) (by decide +kernel)), by decide +kernel, by decide +kernel, by decide +kernel⟩, (List.mem_of_getElem? (i := 1246) (by decide +kernel)), (List.mem_of_getElem? (i := 1247) (by decide +kernel)), (List.mem_of_getElem? (i := 1248) (by decide +kernel)), ⟨_, rfl, rfl⟩⟩
theorem op_runScript {x : zX} {bs Ls : Nat} {xs : Nat → Int32} {H : Heap} {r : zH} {a : Nat → Nat} {oa q : Nat} {Q : Nat → Nat} {qo : Nat} {n : Int} {tx G : Int → Int} {fi ac : Int} {dd : Nat → Int → Int} {kp ik : Int → Int} {N jx : Int} {aa bb : Nat} (hst : (zEn x).1.stackTraces = false) (O : zOk x RL cL_law 7 (some .boolean) "law" 12 478 601024 7293034) (hS : zScr x bs Ls xs) (Z : zLs (zEn x) H r a oa q Q qo n tx G fi ac dd kp ik N) (hN : 20 ≤ N ∧ N ≤ 538) (hj : 0 ≤ jx ∧ jx + 4 ≤ Ls ∧ Ls ≤ 2048) (h1 : aa + 13566 ≤ 601024) (h2 : bb + 277336 ≤ 7293034)
    (K : ∀ (H1 : Heap) (r1 : zH) (a1 : Nat → Nat) (n : Int) (tx G : Int → Int) (fi ac : Int) (dd : Nat → Int → Int) (kp ik : Int → Int), zLs (zEn x) H1 r1 a1 oa q Q qo n tx G fi ac dd kp ik (N + 1) → H1.size + zPs r ≤ H.size + zPs r1 + 70 → zSz H1 + 20 * zPs r ≤ zSz H + 20 * zPs r1 + 6700 → ∀ a9 b9 : Nat, zG x H1 a9 b9 1818 (zLv bs oa q qo jx) []) : zG x H aa bb 1506 (zLv bs oa q qo jx) [] := by
  obtain ⟨hoa, hcm, ⟨rf, hM⟩, ⟨u0, hLA⟩, hOK⟩ := Z
  subst hoa
  refine z_aload_n 2 O dL_law_1506 rfl ?_
  refine z_aload_n 1 O dL_law_1507 rfl ?_
  refine z_iload 0 O dL_law_1508 rfl ?_
  refine z_iconst 1 O dL_law_1510 (by decide +kernel) ?_
  refine z_iadd O dL_law_1511 ?_
  refine z_sld hS ⟨by omega, by omega⟩ (by omega) (by omega) O dL_law_1512 ?_
  refine z_aload_n 1 O dL_law_1513 rfl ?_
  refine z_iload 0 O dL_law_1514 rfl ?_
  refine z_iconst 2 O dL_law_1516 (by decide +kernel) ?_
  refine z_iadd O dL_law_1517 ?_
  refine z_sld hS ⟨by omega, by omega⟩ (by omega) (by omega) O dL_law_1518 ?_
  refine z_i2lRh O.h dL_law_1519 ?_
  refine z_bipush 32 O dL_law_1520 (by decide +kernel) ?_
  refine z_lshlR O dL_law_1522 ?_
  refine z_aload_n 1 O dL_law_1523 rfl ?_
  refine z_iload 0 O dL_law_1524 rfl ?_
  refine z_iconst 3 O dL_law_1526 (by decide +kernel) ?_
  refine z_iadd O dL_law_1527 ?_
  refine z_sld hS ⟨by omega, by omega⟩ (by omega) (by omega) O dL_law_1528 ?_
  refine z_i2lRh O.h dL_law_1529 ?_
  refine z_ldc2 (iL 4294967295) O dL_law_1530 (List.mem_of_getElem? (i := 1293) (by decide +kernel)) ?_
  refine z_landR O dL_law_1533 ?_
  refine z_lorR O dL_law_1534 ?_
  obtain ⟨s0, hs0, hzs⟩ : ∃ s0 : Int, iL s0 = (((iI (sv xs (jx + 2))).toInt64 <<< ((iI 32).toInt64 &&& 63)) ||| ((iI (sv xs (jx + 3))).toInt64 &&& iL 4294967295)) ∧ zRL s0 := ⟨_, iL_toI _, zRL_toI _⟩
  rw [← hs0]
  refine z_aload_n 4 O dL_law_1535 rfl ?_
  have hzc : zR (cRs (sv xs (jx + 1)) s0) := by unfold cRs; (repeat' split) <;> exact ⟨by omega, by omega⟩
  refine z_callH [.ref (a 1200), .int (iI (sv xs (jx + 1))), .long (iL s0), .ref qo] [] kM_L_182 O dL_law_1536 (c_L_runScript hst hcm hOK (sv_R _ _) hzs (by omega) hLA) rfl rfl (by decide) (Nat.le_of_ble_eq_true rfl) (by omega) (by omega) (Nat.le_of_ble_eq_true rfl) (fun v9 H1 hp hz => ?_)
  obtain ⟨rfl, hw⟩ := hp
  refine z_istore [(5, .int (iI (cRs (sv xs (jx + 1)) s0))), (4, .int (iI (jx))), (0, .ref bs), (1, .ref (a 1200)), (2, .ref q), (3, .ref qo)] O dL_law_1539 (by decide) rfl ?_
  by_cases hc : cRs (sv xs (jx + 1)) s0 = 0
  · obtain ⟨_, r1, a1, ha1, hfr, hgv, hcm1, hLA1⟩ := hw.resolve_right (fun z => z.1 hc)
    have hM1 := hM.fr hfr (fun s h => by show ¬ (_ ≤ _); omega)
    obtain ⟨_, _, _, _, _, hMo, _⟩ := id hM1
    refine z_aload_n 4 O dL_law_1541 rfl ?_
    refine z_aload_n 2 O dL_law_1542 rfl ?_
    refine z_iload 1 O dL_law_1543 rfl ?_
    refine z_iconst 1 O dL_law_1545 (by decide +kernel) ?_
    refine z_iadd O dL_law_1546 ?_
    refine z_sld hS ⟨by omega, by omega⟩ (by omega) (by omega) O dL_law_1547 ?_
    refine z_aload_n 2 O dL_law_1548 rfl ?_
    refine z_iload 1 O dL_law_1549 rfl ?_
    refine z_iconst 2 O dL_law_1551 (by decide +kernel) ?_
    refine z_iadd O dL_law_1552 ?_
    refine z_sld hS ⟨by omega, by omega⟩ (by omega) (by omega) O dL_law_1553 ?_
    refine z_i2lRh O.h dL_law_1554 ?_
    refine z_bipush 32 O dL_law_1555 (by decide +kernel) ?_
    refine z_lshlR O dL_law_1557 ?_
    refine z_aload_n 2 O dL_law_1558 rfl ?_
    refine z_iload 1 O dL_law_1559 rfl ?_
    refine z_iconst 3 O dL_law_1561 (by decide +kernel) ?_
    refine z_iadd O dL_law_1562 ?_
    refine z_sld hS ⟨by omega, by omega⟩ (by omega) (by omega) O dL_law_1563 ?_
    refine z_i2lRh O.h dL_law_1564 ?_
    refine z_ldc2 (iL 4294967295) O dL_law_1565 (List.mem_of_getElem? (i := 1293) (by decide +kernel)) ?_
    refine z_landR O dL_law_1568 ?_
    refine z_lorR O dL_law_1569 ?_
    rw [← hs0]
    refine z_Vim [.int (iI (sv xs (jx + 1))), .long (iL s0)] [] kM_L_185 O dL_law_1570 (c_X6_runScript hst hM1 hOK.1 (sv_R _ _) hzs (by omega)).szi rfl rfl hMo.1 (by decide) (Nat.le_of_ble_eq_true rfl) (by omega) (by omega) (Nat.le_of_ble_eq_true rfl) zNx (fun H2 hp2 hz2 => ?_)
    obtain ⟨⟨hf2, hc2⟩, hs1, hs2⟩ := hp2
    rw [if_pos hc]
    obtain ⟨_, hM2⟩ := hc2.resolve_left (fun z => z.1 hc)
    obtain ⟨_, _, _, _, _, hMo2, _⟩ := id hM2
    have hLA2 := hLA1.fr hf2 (by show ¬ (_ ≤ _); omega)
    refine z_istore [(6, .int (iI ((sRu (sv xs (jx + 1)).toNat s0 0 G)))), (5, .int (iI (cRs (sv xs (jx + 1)) s0))), (4, .int (iI (jx))), (0, .ref bs), (1, .ref (a 1200)), (2, .ref q), (3, .ref qo)] O dL_law_1573 (by decide) rfl ?_
    refine z_aload_n 5 O dL_law_1575 rfl ?_
    refine z_Vi [] [] kM_L_106 O dL_law_1576 (c_X6_thrown hst hMo2) rfl rfl hMo2.1 (by decide) (Nat.le_of_ble_eq_true rfl) (by omega) (by omega) (Nat.le_of_ble_eq_true rfl) zNx ?_
    refine z_iload 1 O dL_law_1579 rfl ?_
    refine z_icmp_eq 1586 O dL_law_1581 (by decide) ⟨by omega, by omega⟩ hzc (fun _ => ?_) (fun h => absurd hc.symm h)
    refine z_iload 1 O dL_law_1586 rfl ?_
    refine z_if_ne 1603 O dL_law_1588 (by decide) hzc (fun h => absurd hc h) (fun _ => ?_)
    refine z_aload_n 6 O dL_law_1591 rfl ?_
    refine z_iconst 0 O dL_law_1592 (by decide +kernel) ?_
    refine z_lald O dL_law_1593 hLA2.1 ?_
    refine z_iload 0 O dL_law_1594 rfl ?_
    refine z_i2lRh O.h dL_law_1596 ?_
    refine z_lcmpS O dL_law_1597 ?_
    refine z_if_eq 1603 O dL_law_1598 (by decide) ⟨by omega, by omega⟩ (fun _ => ?_) (fun h => absurd rfl h)
    refine z_goto 1818 O dL_law_1603 (by decide) ?_
    refine z_locs [2, 3, 4, 5, 6] rfl ?_
    exact K H2 r1 a1 n tx G fi ac dd kp ik ⟨ha1, hcm1.fr hf2 (fun s h => by show ¬ (_ ≤ _); omega), ⟨_, hM2⟩, ⟨_, hLA2⟩, hOK.keep hN.2⟩ (by unfold zGv at hgv; omega) (by unfold zGv at hgv; omega) _ _
  · obtain ⟨_, hx⟩ := hw.resolve_left (fun z => hc z.1)
    have hfr : zFr H r H1 r (fun _ => False) := hx.1.frr
    have hcm1 := hcm.fr hfr (fun _ _ h => h)
    have hM1 := hM.fr hfr (fun _ _ h => h)
    have hLA1 := hLA.fr hfr (fun h => h)
    obtain ⟨_, _, _, _, _, hMo, _⟩ := id hM1
    refine z_aload_n 4 O dL_law_1541 rfl ?_
    refine z_aload_n 2 O dL_law_1542 rfl ?_
    refine z_iload 1 O dL_law_1543 rfl ?_
    refine z_iconst 1 O dL_law_1545 (by decide +kernel) ?_
    refine z_iadd O dL_law_1546 ?_
    refine z_sld hS ⟨by omega, by omega⟩ (by omega) (by omega) O dL_law_1547 ?_
    refine z_aload_n 2 O dL_law_1548 rfl ?_
    refine z_iload 1 O dL_law_1549 rfl ?_
    refine z_iconst 2 O dL_law_1551 (by decide +kernel) ?_
    refine z_iadd O dL_law_1552 ?_
    refine z_sld hS ⟨by omega, by omega⟩ (by omega) (by omega) O dL_law_1553 ?_
    refine z_i2lRh O.h dL_law_1554 ?_
    refine z_bipush 32 O dL_law_1555 (by decide +kernel) ?_
    refine z_lshlR O dL_law_1557 ?_
    refine z_aload_n 2 O dL_law_1558 rfl ?_
    refine z_iload 1 O dL_law_1559 rfl ?_
    refine z_iconst 3 O dL_law_1561 (by decide +kernel) ?_
    refine z_iadd O dL_law_1562 ?_
    refine z_sld hS ⟨by omega, by omega⟩ (by omega) (by omega) O dL_law_1563 ?_
    refine z_i2lRh O.h dL_law_1564 ?_
    refine z_ldc2 (iL 4294967295) O dL_law_1565 (List.mem_of_getElem? (i := 1293) (by decide +kernel)) ?_
    refine z_landR O dL_law_1568 ?_
    refine z_lorR O dL_law_1569 ?_
    rw [← hs0]
    refine z_Vim [.int (iI (sv xs (jx + 1))), .long (iL s0)] [] kM_L_185 O dL_law_1570 (c_X6_runScript hst hM1 hOK.1 (sv_R _ _) hzs (by omega)).szi rfl rfl hMo.1 (by decide) (Nat.le_of_ble_eq_true rfl) (by omega) (by omega) (Nat.le_of_ble_eq_true rfl) zNx (fun H2 hp2 hz2 => ?_)
    obtain ⟨⟨hf2, hc2⟩, hs1, hs2⟩ := hp2
    rw [if_neg hc]
    obtain ⟨_, hM2⟩ := hc2.resolve_right (fun z => hc z.1)
    obtain ⟨_, _, _, _, _, hMo2, _⟩ := id hM2
    have hLA2 := hLA1.fr hf2 (by show ¬ (_ ≤ _); omega)
    refine z_istore [(6, .int (iI (0))), (5, .int (iI (cRs (sv xs (jx + 1)) s0))), (4, .int (iI (jx))), (0, .ref bs), (1, .ref (a 1200)), (2, .ref q), (3, .ref qo)] O dL_law_1573 (by decide) rfl ?_
    refine z_aload_n 5 O dL_law_1575 rfl ?_
    refine z_Vi [] [] kM_L_106 O dL_law_1576 (c_X6_thrown hst hMo2) rfl rfl hMo2.1 (by decide) (Nat.le_of_ble_eq_true rfl) (by omega) (by omega) (Nat.le_of_ble_eq_true rfl) zNx ?_
    refine z_iload 1 O dL_law_1579 rfl ?_
    refine z_icmp_eq 1586 O dL_law_1581 (by decide) hzc hzc (fun _ => ?_) (fun h => absurd rfl h)
    refine z_iload 1 O dL_law_1586 rfl ?_
    refine z_if_ne 1603 O dL_law_1588 (by decide) hzc (fun _ => ?_) (fun h => absurd h hc)
    refine z_goto 1818 O dL_law_1603 (by decide) ?_
    refine z_locs [2, 3, 4, 5, 6] rfl ?_
    exact K H2 r a n tx G fi ac dd kp ik ⟨rfl, hcm1.fr hf2 (fun s h => by show ¬ (_ ≤ _); omega), ⟨_, hM2⟩, ⟨_, hLA2⟩, hOK.keep hN.2⟩ (by have := hx.2.1; omega) (by have := hx.2.2; omega) _ _
theorem kM_L_186 : zMSW RL 186 yL_simulate cL_simulate 6 (some .int) [(0, 11, 14, 13)] 4 := ⟨(List.mem_of_getElem? (i := 37) (by decide +kernel)), (List.mem_of_getElem? (i := 881) (by decide +kernel)), by decide +kernel, by decide +kernel, by decide +kernel, (List.mem_of_getElem? (i := 879) (by decide +kernel)), (List.mem_of_getElem? (i := 880) (by decide +kernel))⟩
theorem kM_L_189 : zMV RL 189 yX6_simulate cX6_simulate 7 (some .int) 2 6 := ⟨⟨(List.mem_of_getElem? (i := 47) (by decide +kernel)), (List.mem_of_getElem? (i := 1278) (by decide +kernel)), by decide +kernel, by decide +kernel, by decide +kernel⟩, (List.mem_of_getElem? (i := 1275) (by decide +kernel)), (List.mem_of_getElem? (i := 1276) (by decide +kernel)), (List.mem_of_getElem? (i := 1277) (by decide +kernel)), ⟨_, rfl, rfl⟩⟩
theorem op_simulate {x : zX} {bs Ls : Nat} {xs : Nat → Int32} {H : Heap} {r : zH} {a : Nat → Nat} {oa q : Nat} {Q : Nat → Nat} {qo : Nat} {n : Int} {tx G : Int → Int} {fi ac : Int} {dd : Nat → Int → Int} {kp ik : Int → Int} {N jx : Int} {aa bb : Nat} (hst : (zEn x).1.stackTraces = false) (O : zOk x RL cL_law 7 (some .boolean) "law" 12 478 601024 7293034) (hS : zScr x bs Ls xs) (Z : zLs (zEn x) H r a oa q Q qo n tx G fi ac dd kp ik N) (hN : 20 ≤ N ∧ N ≤ 538) (hj : 0 ≤ jx ∧ jx + 4 ≤ Ls ∧ Ls ≤ 2048) (h1 : aa + 13566 ≤ 601024) (h2 : bb + 277336 ≤ 7293034)
    (K : ∀ (H1 : Heap) (r1 : zH) (a1 : Nat → Nat) (n : Int) (tx G : Int → Int) (fi ac : Int) (dd : Nat → Int → Int) (kp ik : Int → Int), zLs (zEn x) H1 r1 a1 oa q Q qo n tx G fi ac dd kp ik (N + 1) → H1.size + zPs r ≤ H.size + zPs r1 + 70 → zSz H1 + 20 * zPs r ≤ zSz H + 20 * zPs r1 + 6700 → ∀ a9 b9 : Nat, zG x H1 a9 b9 1818 (zLv bs oa q qo jx) []) : zG x H aa bb 1606 (zLv bs oa q qo jx) [] := by
  obtain ⟨hoa, hcm, ⟨rf, hM⟩, ⟨u0, hLA⟩, hOK⟩ := Z
  subst hoa
  refine z_aload_n 2 O dL_law_1606 rfl ?_
  refine z_aload_n 1 O dL_law_1607 rfl ?_
  refine z_iload 0 O dL_law_1608 rfl ?_
  refine z_iconst 1 O dL_law_1610 (by decide +kernel) ?_
  refine z_iadd O dL_law_1611 ?_
  refine z_sld hS ⟨by omega, by omega⟩ (by omega) (by omega) O dL_law_1612 ?_
  refine z_i2lRh O.h dL_law_1613 ?_
  refine z_bipush 32 O dL_law_1614 (by decide +kernel) ?_
  refine z_lshlR O dL_law_1616 ?_
  refine z_aload_n 1 O dL_law_1617 rfl ?_
  refine z_iload 0 O dL_law_1618 rfl ?_
  refine z_iconst 2 O dL_law_1620 (by decide +kernel) ?_
  refine z_iadd O dL_law_1621 ?_
  refine z_sld hS ⟨by omega, by omega⟩ (by omega) (by omega) O dL_law_1622 ?_
  refine z_i2lRh O.h dL_law_1623 ?_
  refine z_ldc2 (iL 4294967295) O dL_law_1624 (List.mem_of_getElem? (i := 1293) (by decide +kernel)) ?_
  refine z_landR O dL_law_1627 ?_
  refine z_lorR O dL_law_1628 ?_
  obtain ⟨x0, hs0⟩ : ∃ x0 : Int64, x0 = (((iI (sv xs (jx + 1))).toInt64 <<< ((iI 32).toInt64 &&& 63)) ||| ((iI (sv xs (jx + 2))).toInt64 &&& iL 4294967295)) := ⟨_, rfl⟩
  rw [← hs0]
  refine z_aload_n 1 O dL_law_1629 rfl ?_
  refine z_iload 0 O dL_law_1630 rfl ?_
  refine z_iconst 3 O dL_law_1632 (by decide +kernel) ?_
  refine z_iadd O dL_law_1633 ?_
  refine z_sld hS ⟨by omega, by omega⟩ (by omega) (by omega) O dL_law_1634 ?_
  refine z_aload_n 4 O dL_law_1635 rfl ?_
  have hzc : zR (cSi (sv xs (jx + 3))) := by unfold cSi; (repeat' split) <;> exact ⟨by omega, by omega⟩
  refine z_callH [.ref (a 1200), .long x0, .int (iI (sv xs (jx + 3))), .ref qo] [] kM_L_186 O dL_law_1636 (c_L_simulate hst hcm hOK (sv_R _ _) (by omega) hLA) rfl rfl (by decide) (Nat.le_of_ble_eq_true rfl) (by omega) (by omega) (Nat.le_of_ble_eq_true rfl) (fun v9 H1 hp hz => ?_)
  obtain ⟨rfl, hw⟩ := hp
  refine z_istore [(5, .int (iI (cSi (sv xs (jx + 3))))), (4, .int (iI (jx))), (0, .ref bs), (1, .ref (a 1200)), (2, .ref q), (3, .ref qo)] O dL_law_1639 (by decide) rfl ?_
  by_cases hc : cSi (sv xs (jx + 3)) = 0
  · obtain ⟨_, r1, a1, ha1, hfr, hgv, hcm1, hLA1⟩ := hw.resolve_right (fun z => z.1 hc)
    have hM1 := hM.fr hfr (fun s h => by show ¬ (_ ≤ _); omega)
    obtain ⟨_, _, _, _, _, hMo, _⟩ := id hM1
    refine z_aload_n 4 O dL_law_1641 rfl ?_
    refine z_aload_n 2 O dL_law_1642 rfl ?_
    refine z_iload 1 O dL_law_1643 rfl ?_
    refine z_iconst 1 O dL_law_1645 (by decide +kernel) ?_
    refine z_iadd O dL_law_1646 ?_
    refine z_sld hS ⟨by omega, by omega⟩ (by omega) (by omega) O dL_law_1647 ?_
    refine z_i2lRh O.h dL_law_1648 ?_
    refine z_bipush 32 O dL_law_1649 (by decide +kernel) ?_
    refine z_lshlR O dL_law_1651 ?_
    refine z_aload_n 2 O dL_law_1652 rfl ?_
    refine z_iload 1 O dL_law_1653 rfl ?_
    refine z_iconst 2 O dL_law_1655 (by decide +kernel) ?_
    refine z_iadd O dL_law_1656 ?_
    refine z_sld hS ⟨by omega, by omega⟩ (by omega) (by omega) O dL_law_1657 ?_
    refine z_i2lRh O.h dL_law_1658 ?_
    refine z_ldc2 (iL 4294967295) O dL_law_1659 (List.mem_of_getElem? (i := 1293) (by decide +kernel)) ?_
    refine z_landR O dL_law_1662 ?_
    refine z_lorR O dL_law_1663 ?_
    rw [← hs0]
    refine z_aload_n 2 O dL_law_1664 rfl ?_
    refine z_iload 1 O dL_law_1665 rfl ?_
    refine z_iconst 3 O dL_law_1667 (by decide +kernel) ?_
    refine z_iadd O dL_law_1668 ?_
    refine z_sld hS ⟨by omega, by omega⟩ (by omega) (by omega) O dL_law_1669 ?_
    refine z_Vim [.long x0, .int (iI (sv xs (jx + 3)))] [] kM_L_189 O dL_law_1670 (c_X6_simulate hst hM1 hOK.1 (sv_R _ _) (by omega)).szi rfl rfl hMo.1 (by decide) (Nat.le_of_ble_eq_true rfl) (by omega) (by omega) (Nat.le_of_ble_eq_true rfl) zNx (fun H2 hp2 hz2 => ?_)
    obtain ⟨⟨hf2, hc2⟩, hs1, hs2⟩ := hp2
    rw [if_pos hc]
    obtain ⟨_, hM2⟩ := hc2.resolve_left (fun z => z.1 hc)
    obtain ⟨_, _, _, _, _, hMo2, _⟩ := id hM2
    have hLA2 := hLA1.fr hf2 (by show ¬ (_ ≤ _); omega)
    refine z_istore [(6, .int (iI ((vSi x0 (sv xs (jx + 3)) G)))), (5, .int (iI (cSi (sv xs (jx + 3))))), (4, .int (iI (jx))), (0, .ref bs), (1, .ref (a 1200)), (2, .ref q), (3, .ref qo)] O dL_law_1673 (by decide) rfl ?_
    refine z_aload_n 5 O dL_law_1675 rfl ?_
    refine z_Vi [] [] kM_L_106 O dL_law_1676 (c_X6_thrown hst hMo2) rfl rfl hMo2.1 (by decide) (Nat.le_of_ble_eq_true rfl) (by omega) (by omega) (Nat.le_of_ble_eq_true rfl) zNx ?_
    refine z_iload 1 O dL_law_1679 rfl ?_
    refine z_icmp_eq 1686 O dL_law_1681 (by decide) ⟨by omega, by omega⟩ hzc (fun _ => ?_) (fun h => absurd hc.symm h)
    refine z_iload 1 O dL_law_1686 rfl ?_
    refine z_if_ne 1703 O dL_law_1688 (by decide) hzc (fun h => absurd hc h) (fun _ => ?_)
    refine z_aload_n 6 O dL_law_1691 rfl ?_
    refine z_iconst 0 O dL_law_1692 (by decide +kernel) ?_
    refine z_lald O dL_law_1693 hLA2.1 ?_
    refine z_iload 0 O dL_law_1694 rfl ?_
    refine z_i2lRh O.h dL_law_1696 ?_
    refine z_lcmpS O dL_law_1697 ?_
    refine z_if_eq 1703 O dL_law_1698 (by decide) ⟨by omega, by omega⟩ (fun _ => ?_) (fun h => absurd rfl h)
    refine z_goto 1818 O dL_law_1703 (by decide) ?_
    refine z_locs [2, 3, 4, 5, 6] rfl ?_
    exact K H2 r1 a1 n tx G fi ac dd kp ik ⟨ha1, hcm1.fr hf2 (fun s h => by show ¬ (_ ≤ _); omega), ⟨_, hM2⟩, ⟨_, hLA2⟩, hOK.keep hN.2⟩ (by unfold zGv at hgv; omega) (by unfold zGv at hgv; omega) _ _
  · obtain ⟨_, hx⟩ := hw.resolve_left (fun z => hc z.1)
    have hfr : zFr H r H1 r (fun _ => False) := hx.1.frr
    have hcm1 := hcm.fr hfr (fun _ _ h => h)
    have hM1 := hM.fr hfr (fun _ _ h => h)
    have hLA1 := hLA.fr hfr (fun h => h)
    obtain ⟨_, _, _, _, _, hMo, _⟩ := id hM1
    refine z_aload_n 4 O dL_law_1641 rfl ?_
    refine z_aload_n 2 O dL_law_1642 rfl ?_
    refine z_iload 1 O dL_law_1643 rfl ?_
    refine z_iconst 1 O dL_law_1645 (by decide +kernel) ?_
    refine z_iadd O dL_law_1646 ?_
    refine z_sld hS ⟨by omega, by omega⟩ (by omega) (by omega) O dL_law_1647 ?_
    refine z_i2lRh O.h dL_law_1648 ?_
    refine z_bipush 32 O dL_law_1649 (by decide +kernel) ?_
    refine z_lshlR O dL_law_1651 ?_
    refine z_aload_n 2 O dL_law_1652 rfl ?_
    refine z_iload 1 O dL_law_1653 rfl ?_
    refine z_iconst 2 O dL_law_1655 (by decide +kernel) ?_
    refine z_iadd O dL_law_1656 ?_
    refine z_sld hS ⟨by omega, by omega⟩ (by omega) (by omega) O dL_law_1657 ?_
    refine z_i2lRh O.h dL_law_1658 ?_
    refine z_ldc2 (iL 4294967295) O dL_law_1659 (List.mem_of_getElem? (i := 1293) (by decide +kernel)) ?_
    refine z_landR O dL_law_1662 ?_
    refine z_lorR O dL_law_1663 ?_
    rw [← hs0]
    refine z_aload_n 2 O dL_law_1664 rfl ?_
    refine z_iload 1 O dL_law_1665 rfl ?_
    refine z_iconst 3 O dL_law_1667 (by decide +kernel) ?_
    refine z_iadd O dL_law_1668 ?_
    refine z_sld hS ⟨by omega, by omega⟩ (by omega) (by omega) O dL_law_1669 ?_
    refine z_Vim [.long x0, .int (iI (sv xs (jx + 3)))] [] kM_L_189 O dL_law_1670 (c_X6_simulate hst hM1 hOK.1 (sv_R _ _) (by omega)).szi rfl rfl hMo.1 (by decide) (Nat.le_of_ble_eq_true rfl) (by omega) (by omega) (Nat.le_of_ble_eq_true rfl) zNx (fun H2 hp2 hz2 => ?_)
    obtain ⟨⟨hf2, hc2⟩, hs1, hs2⟩ := hp2
    rw [if_neg hc]
    obtain ⟨_, hM2⟩ := hc2.resolve_right (fun z => hc z.1)
    obtain ⟨_, _, _, _, _, hMo2, _⟩ := id hM2
    have hLA2 := hLA1.fr hf2 (by show ¬ (_ ≤ _); omega)
    refine z_istore [(6, .int (iI (0))), (5, .int (iI (cSi (sv xs (jx + 3))))), (4, .int (iI (jx))), (0, .ref bs), (1, .ref (a 1200)), (2, .ref q), (3, .ref qo)] O dL_law_1673 (by decide) rfl ?_
    refine z_aload_n 5 O dL_law_1675 rfl ?_
    refine z_Vi [] [] kM_L_106 O dL_law_1676 (c_X6_thrown hst hMo2) rfl rfl hMo2.1 (by decide) (Nat.le_of_ble_eq_true rfl) (by omega) (by omega) (Nat.le_of_ble_eq_true rfl) zNx ?_
    refine z_iload 1 O dL_law_1679 rfl ?_
    refine z_icmp_eq 1686 O dL_law_1681 (by decide) hzc hzc (fun _ => ?_) (fun h => absurd rfl h)
    refine z_iload 1 O dL_law_1686 rfl ?_
    refine z_if_ne 1703 O dL_law_1688 (by decide) hzc (fun _ => ?_) (fun h => absurd h hc)
    refine z_goto 1818 O dL_law_1703 (by decide) ?_
    refine z_locs [2, 3, 4, 5, 6] rfl ?_
    exact K H2 r a n tx G fi ac dd kp ik ⟨rfl, hcm1.fr hf2 (fun s h => by show ¬ (_ ≤ _); omega), ⟨_, hM2⟩, ⟨_, hLA2⟩, hOK.keep hN.2⟩ (by have := hx.2.1; omega) (by have := hx.2.2; omega) _ _
theorem kM_L_190 : zMSW RL 190 yL_save cL_save 4 (some .int) [(0, 9, 12, 28)] 3 := ⟨(List.mem_of_getElem? (i := 37) (by decide +kernel)), (List.mem_of_getElem? (i := 895) (by decide +kernel)), by decide +kernel, by decide +kernel, by decide +kernel, (List.mem_of_getElem? (i := 893) (by decide +kernel)), (List.mem_of_getElem? (i := 894) (by decide +kernel))⟩
theorem kM_L_192 : zMV RL 192 yX6_save cX6_save 2 (some .int) 1 6 := ⟨⟨(List.mem_of_getElem? (i := 47) (by decide +kernel)), (List.mem_of_getElem? (i := 1288) (by decide +kernel)), by decide +kernel, by decide +kernel, by decide +kernel⟩, (List.mem_of_getElem? (i := 1285) (by decide +kernel)), (List.mem_of_getElem? (i := 1286) (by decide +kernel)), (List.mem_of_getElem? (i := 1287) (by decide +kernel)), ⟨_, rfl, rfl⟩⟩
theorem op_save {x : zX} {bs Ls : Nat} {xs : Nat → Int32} {H : Heap} {r : zH} {a : Nat → Nat} {oa q : Nat} {Q : Nat → Nat} {qo : Nat} {n : Int} {tx G : Int → Int} {fi ac : Int} {dd : Nat → Int → Int} {kp ik : Int → Int} {N jx : Int} {aa bb : Nat} (hst : (zEn x).1.stackTraces = false) (O : zOk x RL cL_law 7 (some .boolean) "law" 12 478 601024 7293034) (hS : zScr x bs Ls xs) (Z : zLs (zEn x) H r a oa q Q qo n tx G fi ac dd kp ik N) (hN : 20 ≤ N ∧ N ≤ 538) (hj : 0 ≤ jx ∧ jx + 4 ≤ Ls ∧ Ls ≤ 2048) (h1 : aa + 13566 ≤ 601024) (h2 : bb + 277336 ≤ 7293034)
    (K : ∀ (H1 : Heap) (r1 : zH) (a1 : Nat → Nat) (n : Int) (tx G : Int → Int) (fi ac : Int) (dd : Nat → Int → Int) (kp ik : Int → Int), zLs (zEn x) H1 r1 a1 oa q Q qo n tx G fi ac dd kp ik (N + 1) → H1.size + zPs r ≤ H.size + zPs r1 + 70 → zSz H1 + 20 * zPs r ≤ zSz H + 20 * zPs r1 + 6700 → ∀ a9 b9 : Nat, zG x H1 a9 b9 1818 (zLv bs oa q qo jx) []) : zG x H aa bb 1706 (zLv bs oa q qo jx) [] := by
  obtain ⟨hoa, hcm, ⟨rf, hM⟩, ⟨u0, hLA⟩, hOK⟩ := Z
  subst hoa
  refine z_aload_n 2 O dL_law_1706 rfl ?_
  refine z_aload_n 1 O dL_law_1707 rfl ?_
  refine z_iload 0 O dL_law_1708 rfl ?_
  refine z_iconst 1 O dL_law_1710 (by decide +kernel) ?_
  refine z_iadd O dL_law_1711 ?_
  refine z_sld hS ⟨by omega, by omega⟩ (by omega) (by omega) O dL_law_1712 ?_
  refine z_aload_n 4 O dL_law_1713 rfl ?_
  have hzc : zR (cSl (sv xs (jx + 1))) := by unfold cSl; (repeat' split) <;> exact ⟨by omega, by omega⟩
  refine z_callH [.ref (a 1200), .int (iI (sv xs (jx + 1))), .ref qo] [] kM_L_190 O dL_law_1714 (c_L_save hst hcm hOK (sv_R _ _) hLA) rfl rfl (by decide) (Nat.le_of_ble_eq_true rfl) (by omega) (by omega) (Nat.le_of_ble_eq_true rfl) (fun v9 H1 hp hz => ?_)
  obtain ⟨rfl, hw⟩ := hp
  refine z_istore [(5, .int (iI (cSl (sv xs (jx + 1))))), (4, .int (iI (jx))), (0, .ref bs), (1, .ref (a 1200)), (2, .ref q), (3, .ref qo)] O dL_law_1717 (by decide) rfl ?_
  by_cases hc : cSl (sv xs (jx + 1)) = 0
  · obtain ⟨_, r1, a1, ha1, hfr, hgv, hcm1, hLA1⟩ := hw.resolve_right (fun z => z.1 hc)
    have hM1 := hM.fr hfr (fun s h => by show ¬ (_ ≤ _); omega)
    obtain ⟨_, _, _, _, _, hMo, _⟩ := id hM1
    refine z_aload_n 4 O dL_law_1719 rfl ?_
    refine z_aload_n 2 O dL_law_1720 rfl ?_
    refine z_iload 1 O dL_law_1721 rfl ?_
    refine z_iconst 1 O dL_law_1723 (by decide +kernel) ?_
    refine z_iadd O dL_law_1724 ?_
    refine z_sld hS ⟨by omega, by omega⟩ (by omega) (by omega) O dL_law_1725 ?_
    refine z_Vim [.int (iI (sv xs (jx + 1)))] [] kM_L_192 O dL_law_1726 (c_X6_save hst hM1 hOK.1 (sv_R _ _)).szi rfl rfl hMo.1 (by decide) (Nat.le_of_ble_eq_true rfl) (by omega) (by omega) (Nat.le_of_ble_eq_true rfl) zNx (fun H2 hp2 hz2 => ?_)
    obtain ⟨⟨hf2, hc2⟩, hs1, hs2⟩ := hp2
    rw [if_pos hc]
    obtain ⟨_, hM2⟩ := hc2.resolve_left (fun z => z.1 hc)
    obtain ⟨_, _, _, _, _, hMo2, _⟩ := id hM2
    have hLA2 := hLA1.fr hf2 (by show ¬ (_ ≤ _); omega)
    refine z_istore [(6, .int (iI ((zSum 16 G)))), (5, .int (iI (cSl (sv xs (jx + 1))))), (4, .int (iI (jx))), (0, .ref bs), (1, .ref (a 1200)), (2, .ref q), (3, .ref qo)] O dL_law_1729 (by decide) rfl ?_
    refine z_aload_n 5 O dL_law_1731 rfl ?_
    refine z_Vi [] [] kM_L_106 O dL_law_1732 (c_X6_thrown hst hMo2) rfl rfl hMo2.1 (by decide) (Nat.le_of_ble_eq_true rfl) (by omega) (by omega) (Nat.le_of_ble_eq_true rfl) zNx ?_
    refine z_iload 1 O dL_law_1735 rfl ?_
    refine z_icmp_eq 1742 O dL_law_1737 (by decide) ⟨by omega, by omega⟩ hzc (fun _ => ?_) (fun h => absurd hc.symm h)
    refine z_iload 1 O dL_law_1742 rfl ?_
    refine z_if_ne 1759 O dL_law_1744 (by decide) hzc (fun h => absurd hc h) (fun _ => ?_)
    refine z_aload_n 6 O dL_law_1747 rfl ?_
    refine z_iconst 0 O dL_law_1748 (by decide +kernel) ?_
    refine z_lald O dL_law_1749 hLA2.1 ?_
    refine z_iload 0 O dL_law_1750 rfl ?_
    refine z_i2lRh O.h dL_law_1752 ?_
    refine z_lcmpS O dL_law_1753 ?_
    refine z_if_eq 1759 O dL_law_1754 (by decide) ⟨by omega, by omega⟩ (fun _ => ?_) (fun h => absurd rfl h)
    refine z_goto 1818 O dL_law_1759 (by decide) ?_
    refine z_locs [2, 3, 4, 5, 6] rfl ?_
    exact K H2 r1 a1 n tx G fi ac dd (zCpy G kp 0 (4086 * (sv xs (jx + 1))) 4086) (zU ik (sv xs (jx + 1)) 1) ⟨ha1, hcm1.fr hf2 (fun s h => by show ¬ (_ ≤ _); omega), ⟨_, hM2⟩, ⟨_, hLA2⟩, kp_save hOK hN.2 hc⟩ (by unfold zGv at hgv; omega) (by unfold zGv at hgv; omega) _ _
  · obtain ⟨_, hx⟩ := hw.resolve_left (fun z => hc z.1)
    have hfr : zFr H r H1 r (fun _ => False) := hx.1.frr
    have hcm1 := hcm.fr hfr (fun _ _ h => h)
    have hM1 := hM.fr hfr (fun _ _ h => h)
    have hLA1 := hLA.fr hfr (fun h => h)
    obtain ⟨_, _, _, _, _, hMo, _⟩ := id hM1
    refine z_aload_n 4 O dL_law_1719 rfl ?_
    refine z_aload_n 2 O dL_law_1720 rfl ?_
    refine z_iload 1 O dL_law_1721 rfl ?_
    refine z_iconst 1 O dL_law_1723 (by decide +kernel) ?_
    refine z_iadd O dL_law_1724 ?_
    refine z_sld hS ⟨by omega, by omega⟩ (by omega) (by omega) O dL_law_1725 ?_
    refine z_Vim [.int (iI (sv xs (jx + 1)))] [] kM_L_192 O dL_law_1726 (c_X6_save hst hM1 hOK.1 (sv_R _ _)).szi rfl rfl hMo.1 (by decide) (Nat.le_of_ble_eq_true rfl) (by omega) (by omega) (Nat.le_of_ble_eq_true rfl) zNx (fun H2 hp2 hz2 => ?_)
    obtain ⟨⟨hf2, hc2⟩, hs1, hs2⟩ := hp2
    rw [if_neg hc]
    obtain ⟨_, hM2⟩ := hc2.resolve_right (fun z => hc z.1)
    obtain ⟨_, _, _, _, _, hMo2, _⟩ := id hM2
    have hLA2 := hLA1.fr hf2 (by show ¬ (_ ≤ _); omega)
    refine z_istore [(6, .int (iI (0))), (5, .int (iI (cSl (sv xs (jx + 1))))), (4, .int (iI (jx))), (0, .ref bs), (1, .ref (a 1200)), (2, .ref q), (3, .ref qo)] O dL_law_1729 (by decide) rfl ?_
    refine z_aload_n 5 O dL_law_1731 rfl ?_
    refine z_Vi [] [] kM_L_106 O dL_law_1732 (c_X6_thrown hst hMo2) rfl rfl hMo2.1 (by decide) (Nat.le_of_ble_eq_true rfl) (by omega) (by omega) (Nat.le_of_ble_eq_true rfl) zNx ?_
    refine z_iload 1 O dL_law_1735 rfl ?_
    refine z_icmp_eq 1742 O dL_law_1737 (by decide) hzc hzc (fun _ => ?_) (fun h => absurd rfl h)
    refine z_iload 1 O dL_law_1742 rfl ?_
    refine z_if_ne 1759 O dL_law_1744 (by decide) hzc (fun _ => ?_) (fun h => absurd h hc)
    refine z_goto 1818 O dL_law_1759 (by decide) ?_
    refine z_locs [2, 3, 4, 5, 6] rfl ?_
    exact K H2 r a n tx G fi ac dd kp ik ⟨rfl, hcm1.fr hf2 (fun s h => by show ¬ (_ ≤ _); omega), ⟨_, hM2⟩, ⟨_, hLA2⟩, hOK.keep hN.2⟩ (by have := hx.2.1; omega) (by have := hx.2.2; omega) _ _
theorem kM_L_193 : zMSW RL 193 yL_restore cL_restore 4 (some .int) [(0, 9, 12, 28), (0, 9, 15, 15)] 3 := ⟨(List.mem_of_getElem? (i := 37) (by decide +kernel)), (List.mem_of_getElem? (i := 906) (by decide +kernel)), by decide +kernel, by decide +kernel, by decide +kernel, (List.mem_of_getElem? (i := 904) (by decide +kernel)), (List.mem_of_getElem? (i := 905) (by decide +kernel))⟩
theorem kM_L_195 : zMV RL 195 yX6_restore cX6_restore 2 (some .int) 1 6 := ⟨⟨(List.mem_of_getElem? (i := 47) (by decide +kernel)), (List.mem_of_getElem? (i := 1292) (by decide +kernel)), by decide +kernel, by decide +kernel, by decide +kernel⟩, (List.mem_of_getElem? (i := 1289) (by decide +kernel)), (List.mem_of_getElem? (i := 1290) (by decide +kernel)), (List.mem_of_getElem? (i := 1291) (by decide +kernel)), ⟨_, rfl, rfl⟩⟩
theorem op_restore {x : zX} {bs Ls : Nat} {xs : Nat → Int32} {H : Heap} {r : zH} {a : Nat → Nat} {oa q : Nat} {Q : Nat → Nat} {qo : Nat} {n : Int} {tx G : Int → Int} {fi ac : Int} {dd : Nat → Int → Int} {kp ik : Int → Int} {N jx : Int} {aa bb : Nat} (hst : (zEn x).1.stackTraces = false) (O : zOk x RL cL_law 7 (some .boolean) "law" 12 478 601024 7293034) (hS : zScr x bs Ls xs) (Z : zLs (zEn x) H r a oa q Q qo n tx G fi ac dd kp ik N) (hN : 20 ≤ N ∧ N ≤ 538) (hj : 0 ≤ jx ∧ jx + 4 ≤ Ls ∧ Ls ≤ 2048) (h1 : aa + 13566 ≤ 601024) (h2 : bb + 277336 ≤ 7293034)
    (K : ∀ (H1 : Heap) (r1 : zH) (a1 : Nat → Nat) (n : Int) (tx G : Int → Int) (fi ac : Int) (dd : Nat → Int → Int) (kp ik : Int → Int), zLs (zEn x) H1 r1 a1 oa q Q qo n tx G fi ac dd kp ik (N + 1) → H1.size + zPs r ≤ H.size + zPs r1 + 70 → zSz H1 + 20 * zPs r ≤ zSz H + 20 * zPs r1 + 6700 → ∀ a9 b9 : Nat, zG x H1 a9 b9 1818 (zLv bs oa q qo jx) []) : zG x H aa bb 1762 (zLv bs oa q qo jx) [] := by
  obtain ⟨hoa, hcm, ⟨rf, hM⟩, ⟨u0, hLA⟩, hOK⟩ := Z
  subst hoa
  refine z_aload_n 2 O dL_law_1762 rfl ?_
  refine z_aload_n 1 O dL_law_1763 rfl ?_
  refine z_iload 0 O dL_law_1764 rfl ?_
  refine z_iconst 1 O dL_law_1766 (by decide +kernel) ?_
  refine z_iadd O dL_law_1767 ?_
  refine z_sld hS ⟨by omega, by omega⟩ (by omega) (by omega) O dL_law_1768 ?_
  refine z_aload_n 4 O dL_law_1769 rfl ?_
  have hzc : zR (cRe ik (sv xs (jx + 1))) := by unfold cRe; (repeat' split) <;> exact ⟨by omega, by omega⟩
  refine z_callH [.ref (a 1200), .int (iI (sv xs (jx + 1))), .ref qo] [] kM_L_193 O dL_law_1770 (c_L_restore hst hcm hOK (sv_R _ _) hLA) rfl rfl (by decide) (Nat.le_of_ble_eq_true rfl) (by omega) (by omega) (Nat.le_of_ble_eq_true rfl) (fun v9 H1 hp hz => ?_)
  obtain ⟨rfl, hw⟩ := hp
  refine z_istore [(5, .int (iI (cRe ik (sv xs (jx + 1))))), (4, .int (iI (jx))), (0, .ref bs), (1, .ref (a 1200)), (2, .ref q), (3, .ref qo)] O dL_law_1773 (by decide) rfl ?_
  by_cases hc : cRe ik (sv xs (jx + 1)) = 0
  · obtain ⟨_, r1, a1, ha1, hfr, hgv, hcm1, hLA1⟩ := hw.resolve_right (fun z => z.1 hc)
    have hM1 := hM.fr hfr (fun s h => by show ¬ (_ ≤ _); omega)
    obtain ⟨_, _, _, _, _, hMo, _⟩ := id hM1
    refine z_aload_n 4 O dL_law_1775 rfl ?_
    refine z_aload_n 2 O dL_law_1776 rfl ?_
    refine z_iload 1 O dL_law_1777 rfl ?_
    refine z_iconst 1 O dL_law_1779 (by decide +kernel) ?_
    refine z_iadd O dL_law_1780 ?_
    refine z_sld hS ⟨by omega, by omega⟩ (by omega) (by omega) O dL_law_1781 ?_
    refine z_Vim [.int (iI (sv xs (jx + 1)))] [] kM_L_195 O dL_law_1782 (c_X6_restore hst hM1 hOK.1 (sv_R _ _)).szi rfl rfl hMo.1 (by decide) (Nat.le_of_ble_eq_true rfl) (by omega) (by omega) (Nat.le_of_ble_eq_true rfl) zNx (fun H2 hp2 hz2 => ?_)
    obtain ⟨⟨hf2, hc2⟩, hs1, hs2⟩ := hp2
    rw [if_pos hc]
    obtain ⟨_, hM2⟩ := hc2.resolve_left (fun z => z.1 hc)
    obtain ⟨_, _, _, _, _, hMo2, _⟩ := id hM2
    have hLA2 := hLA1.fr hf2 (by show ¬ (_ ≤ _); omega)
    refine z_istore [(6, .int (iI ((zSum 16 (fun j => kp (4086 * (sv xs (jx + 1)) + j)))))), (5, .int (iI (cRe ik (sv xs (jx + 1))))), (4, .int (iI (jx))), (0, .ref bs), (1, .ref (a 1200)), (2, .ref q), (3, .ref qo)] O dL_law_1785 (by decide) rfl ?_
    refine z_aload_n 5 O dL_law_1787 rfl ?_
    refine z_Vi [] [] kM_L_106 O dL_law_1788 (c_X6_thrown hst hMo2) rfl rfl hMo2.1 (by decide) (Nat.le_of_ble_eq_true rfl) (by omega) (by omega) (Nat.le_of_ble_eq_true rfl) zNx ?_
    refine z_iload 1 O dL_law_1791 rfl ?_
    refine z_icmp_eq 1798 O dL_law_1793 (by decide) ⟨by omega, by omega⟩ hzc (fun _ => ?_) (fun h => absurd hc.symm h)
    refine z_iload 1 O dL_law_1798 rfl ?_
    refine z_if_ne 1815 O dL_law_1800 (by decide) hzc (fun h => absurd hc h) (fun _ => ?_)
    refine z_aload_n 6 O dL_law_1803 rfl ?_
    refine z_iconst 0 O dL_law_1804 (by decide +kernel) ?_
    refine z_lald O dL_law_1805 hLA2.1 ?_
    refine z_iload 0 O dL_law_1806 rfl ?_
    refine z_i2lRh O.h dL_law_1808 ?_
    refine z_lcmpS O dL_law_1809 ?_
    refine z_if_eq 1815 O dL_law_1810 (by decide) ⟨by omega, by omega⟩ (fun _ => ?_) (fun h => absurd rfl h)
    refine z_goto 1818 O dL_law_1815 (by decide) ?_
    refine z_locs [2, 3, 4, 5, 6] rfl ?_
    exact K H2 r1 a1 n tx (fun j => kp (4086 * (sv xs (jx + 1)) + j)) fi 0 dd kp ik ⟨ha1, hcm1.fr hf2 (fun s h => by show ¬ (_ ≤ _); omega), ⟨_, hM2⟩, ⟨_, hLA2⟩, kp_restore hOK hN.2 hc⟩ (by unfold zGv at hgv; omega) (by unfold zGv at hgv; omega) _ _
  · obtain ⟨_, hx⟩ := hw.resolve_left (fun z => hc z.1)
    have hfr : zFr H r H1 r (fun _ => False) := hx.1.frr
    have hcm1 := hcm.fr hfr (fun _ _ h => h)
    have hM1 := hM.fr hfr (fun _ _ h => h)
    have hLA1 := hLA.fr hfr (fun h => h)
    obtain ⟨_, _, _, _, _, hMo, _⟩ := id hM1
    refine z_aload_n 4 O dL_law_1775 rfl ?_
    refine z_aload_n 2 O dL_law_1776 rfl ?_
    refine z_iload 1 O dL_law_1777 rfl ?_
    refine z_iconst 1 O dL_law_1779 (by decide +kernel) ?_
    refine z_iadd O dL_law_1780 ?_
    refine z_sld hS ⟨by omega, by omega⟩ (by omega) (by omega) O dL_law_1781 ?_
    refine z_Vim [.int (iI (sv xs (jx + 1)))] [] kM_L_195 O dL_law_1782 (c_X6_restore hst hM1 hOK.1 (sv_R _ _)).szi rfl rfl hMo.1 (by decide) (Nat.le_of_ble_eq_true rfl) (by omega) (by omega) (Nat.le_of_ble_eq_true rfl) zNx (fun H2 hp2 hz2 => ?_)
    obtain ⟨⟨hf2, hc2⟩, hs1, hs2⟩ := hp2
    rw [if_neg hc]
    obtain ⟨_, hM2⟩ := hc2.resolve_right (fun z => hc z.1)
    obtain ⟨_, _, _, _, _, hMo2, _⟩ := id hM2
    have hLA2 := hLA1.fr hf2 (by show ¬ (_ ≤ _); omega)
    refine z_istore [(6, .int (iI (0))), (5, .int (iI (cRe ik (sv xs (jx + 1))))), (4, .int (iI (jx))), (0, .ref bs), (1, .ref (a 1200)), (2, .ref q), (3, .ref qo)] O dL_law_1785 (by decide) rfl ?_
    refine z_aload_n 5 O dL_law_1787 rfl ?_
    refine z_Vi [] [] kM_L_106 O dL_law_1788 (c_X6_thrown hst hMo2) rfl rfl hMo2.1 (by decide) (Nat.le_of_ble_eq_true rfl) (by omega) (by omega) (Nat.le_of_ble_eq_true rfl) zNx ?_
    refine z_iload 1 O dL_law_1791 rfl ?_
    refine z_icmp_eq 1798 O dL_law_1793 (by decide) hzc hzc (fun _ => ?_) (fun h => absurd rfl h)
    refine z_iload 1 O dL_law_1798 rfl ?_
    refine z_if_ne 1815 O dL_law_1800 (by decide) hzc (fun _ => ?_) (fun h => absurd h hc)
    refine z_goto 1818 O dL_law_1815 (by decide) ?_
    refine z_locs [2, 3, 4, 5, 6] rfl ?_
    exact K H2 r a n tx G fi ac dd kp ik ⟨rfl, hcm1.fr hf2 (fun s h => by show ¬ (_ ≤ _); omega), ⟨_, hM2⟩, ⟨_, hLA2⟩, hOK.keep hN.2⟩ (by have := hx.2.1; omega) (by have := hx.2.2; omega) _ _
