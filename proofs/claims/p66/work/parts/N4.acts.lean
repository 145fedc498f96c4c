set_option maxRecDepth 100000
set_option maxHeartbeats 3000000
/-! the law's turns -/
section
variable {L : Nat} {xs : Nat → Int32} {h g : St} {P C : PT} {a b : Nat}
section
variable {D S A T l : Nat}
theorem x_rubB (H : LW L xs h P (told P) a b) (hT : T < 5) (hl : l < P 0 7) (hA : P 9 2 < 20) : ∃ (g : St) (i : Nat), ((dSeq (dSetI 20 (dCall DL_draw (aI (aI (aR aN 0 (vR 0)) 1 (d2 o_iadd (cI 55) (vI 18))) 2 (dAI (vR 7) (d2 o_imul (cI 7) (vI 19)))))) (dSeq (dIf (dCI r_ne (dCallV 11 DX11_rub (aI (aI (aR aN 0 (vR 1)) 1 (vI 19)) 2 (vI 20))) (d2 o_iand (d2 o_ishr (dAI (vR 9) (d2 o_iadd (cI 3) (vI 19))) (vI 20)) (cI 1))) (dRet (cI 0)) dSkip) (dUA o_iand (vR 9) (d2 o_iadd (cI 3) (vI 19)) (d2 o_ixor (d2 o_ishl (cI 1) (vI 20)) (cI (-1)))))) : Sm Int32) (sI (sI (sI (sR (sR (sR (sR (sR (sI (sI (sR (sR (sR (sR (sR (sR (sR (sR (sR (sR fr0 0 1) 1 31) 2 122) 3 123) 4 124) 5 125) 6 126) 7 127) 8 128) 9 129) 10 (nI D)) 11 (nI S)) 12 130) 13 131) 14 132) 15 133) 16 134) 17 (nI A)) 18 (nI T)) 19 (nI l)) h = some (.inl 0, sI (sI (sI (sI (sR (sR (sR (sR (sR (sI (sI (sR (sR (sR (sR (sR (sR (sR (sR (sR (sR fr0 0 1) 1 31) 2 122) 3 123) 4 124) 5 125) 6 126) 7 127) 8 128) 9 129) 10 (nI D)) 11 (nI S)) 12 130) 13 131) 14 132) 15 133) 16 134) 17 (nI A)) 18 (nI T)) 19 (nI l)) 20 (nI i), g) ∧ LW L xs g (rubP P l i) (told (rubP P l i)) a b := by
  have hW := H.1.w
  have hb := hW.all
  have sl := hW.sl hl
  obtain ⟨i, ei⟩ : ∃ i, i = dw L xs (55 + T) (P 7 l) := ⟨_, rfl⟩
  have hi7 : i < P 7 l := by rw [ei]; exact dw_lt _ _ _ (by omega)
  have dr := x_draw H.2.1 (k := 55 + T) (n := P 7 l) (by omega) (by omega) (by omega)
  rw [← ei] at dr
  obtain ⟨g1, x, I⟩ := c_rub H.1 hl hi7 hA
  have x1 : DX11_rub (sI (sI (sR fr0 0 31) 1 (nI l)) 2 (nI i)) h = some (if (lf0 P l).testBit i = true then nI 1 else nI 0, g1) := x
  have c := I.lch
  have lr1 : LR g1 P (told P) := H.2.2.1.ch c (fun o h1 h2 z => by unfold lC at z; omega)
  have lr2 := lr1.rub hW (i := i) hl
  have lf := lf0_lt hW hl
  have l6 : lf0 P l < 64 := Nat.lt_of_lt_of_le lf (by
    have : 2 ^ P 7 l ≤ 2 ^ 6 := Nat.pow_le_pow_right (by decide) sl.2.2.1
    exact this)
  obtain ⟨-, -, -, ⟨wf, w1, w2⟩, -⟩ := H.2.2.1
  have kw := w1.1
  have w7 : hi h 127 (7 * l) = nI (P 7 l) := by rw [w1.2 _ (by omega), (w2 l hl).1]
  obtain ⟨-, -, -, -, -, ⟨ff, f1, f2⟩, -⟩ := lr1
  have kf := f1.1
  have f3 : hi g1 129 (3 + l) = nI (lf0 P l) := by rw [f1.2 _ (by omega), (f2 l hl).2]
  have kX : hk h 31 = (11, 0) := H.1.co.koX
  have a1 : o_ishr (nI (lf0 P l)) (nI i) = nI (lf0 P l / 2 ^ i) := q_ishr (by omega) (by omega)
  have a2 : nI (lf0 P l / 2 ^ i) &&& nI 1 = if (lf0 P l).testBit i = true then nI 1 else nI 0 := by
    rw [q_m1]
    by_cases y : (lf0 P l).testBit i = true
    · rw [if_pos y]
      rw [Nat.testBit_eq_decide_div_mod_eq, decide_eq_true_eq] at y
      rw [y]
    · rw [if_neg y]
      rw [Nat.testBit_eq_decide_div_mod_eq, decide_eq_true_eq] at y
      rw [show lf0 P l / 2 ^ i % 2 = 0 by omega]
  have pi : 2 ^ i < 2 ^ 6 := pow_lt (by omega)
  have a3 : o_ishl (nI 1) (nI i) = nI (2 ^ i) := by rw [q_ishl (by omega) (by omega), Nat.one_mul]
  have a4 := n_not (a := lf0 P l) (by omega) (2 ^ i)
  refine ⟨wI g1 129 (3 + l) (nI (clr (lf0 P l) (2 ^ i))), i, ?_, ?_⟩
  · obtain ⟨v, ev⟩ : ∃ v, v = (if (lf0 P l).testBit i = true then nI 1 else nI 0 : Int32) := ⟨_, rfl⟩
    rw [← ev] at x1 a2
    simp (maxSteps := 4000000) (disch := omega) only [ob_t, ob_n, ob_ite, e_cI, e_cL, e_cR, e_vI, e_vL, e_vR, e_d2, e_d2_a, e_d2_b, e_d2z, e_d2z_a, e_d2z_b, e_d1, e_d1_a, e_GI, e_GI_a, e_GL, e_GL_a, e_GR, e_GR_a, e_AI, e_AI_a, e_AI_b, e_AB, e_AB_a, e_AB_b, e_AZ, e_AZ_a, e_AZ_b, e_AL, e_AL_a, e_AL_b, e_AR, e_AR_a, e_AR_b, e_Len, e_Len_a, e_CI, e_CI_a, e_CI_b, e_CZ, e_CZ_a, e_And, e_kAnd, e_Or, e_kOr, e_Not, e_kNot, e_B, e_kB, e_T, e_kT, e_NN, e_kNN, e_NewA, e_NewA_a, e_NewC, e_kNewC, e_aN, e_aI, e_aI_a, e_aI_b, e_aL, e_aL_a, e_aL_b, e_aR, e_aR_a, e_aR_b, e_Call, e_kCall, e_CallV, e_kCallV, e_SetI, e_kSetI, e_SetL, e_kSetL, e_SetR, e_kSetR, e_Inc, e_Skip, e_Brk, e_Cnt, e_Ret, e_kRet, e_Ret0, e_Seq, e_kSeq0, e_kSeq1, e_kSeq2, e_kSeqR, e_If, e_kIf, e_Do, e_kDo, e_Sup, e_kN0, e_d3, e_k3a, e_k3b, e_k3c, e_P, e_kPa, e_kPb, e_UA, e_kUAa, e_kUAb, e_kUAc, e_UL, e_kULa, e_kULb, e_kULc, e_UF, e_kUFa, e_kUFb, e_Cp, e_kCp, e_Sw, e_kSwa, e_kSwb0, e_kSwb1, e_kSwbR, e_M1, e_kM1, e_MZ, e_kMZ, e_MN, e_kMN, e_Tv, e_kTv, e_Tc, e_kTc, e_lpS, e_kLp, e_kLpB0, e_kLpB1, e_kLpB2, e_kLpBR, e_kLpU, e_dwS, e_kDwB0, e_kDwC, f_II, f_LL, f_RR, f_IL, f_IR, f_LI, f_LR, f_RI, f_RL, o_iadd, o_isub, o_imul, o_iand, o_ior, o_ixor, o_ladd, o_lsub, o_lmul, o_land, o_lor, o_i2b, o_i2s, o_lneg, o_imax, o_imin, r_lt, r_le, r_gt, r_ge, r_eq, r_ne, q_lt, q_le, q_gt, q_ge, q_eq, q_ne, decide_eq_true_eq, idI, and_true, true_and, and_false, false_and, or_true, true_or, or_false, false_or, not_true_eq_false, not_false_eq_true, if_true, if_false, ite_self, Bool.not_true, Bool.not_false, Bool.false_eq_true, Bool.true_eq_false, decide_true, decide_false, ne_eq, reduceIte, Nat.reduceEqDiff, Option.some.injEq, Prod.mk.injEq, eq_self, n_inb, nI_clamp, w_hr, w_hk, w_hl, w_eq, w_ne, wl_hr, wl_hk, wl_hi, wl_eq, wl_ne, fa_lit, fa_litL, nI_add, pk_mul, nI_ltI, nI_leI, nI_eq, b01, b0, b1, Nat.reduceLeDiff, Nat.reduceAdd, Nat.reduceMul, Nat.reduceSub, Nat.lt_irrefl, Nat.reduceLT, f_ss, f_sR, f_sL, lc0, lc1, lc01, stI, stL, kw, w7, dr, kX, x1, kf, f3, a1, a2, a3, a4]
  · have cw : Ch (fun o => o = 129) g1 (wI g1 129 (3 + l) (nI (clr (lf0 P l) (2 ^ i)))) := Ch.w (D := fun o => o = 129) rfl _ _ _
    have r : ∀ {j k : Nat}, j < 9 → rubP P l i j k = P j k := fun q => rubP_lo _ _ _ _ (Or.inl q)
    obtain ⟨-, sc, -, au, n1, n2, n3, p0⟩ := H
    refine ⟨I.rb.lw (lw_ch cw (fun o ho z => by omega)), (sc.ch c (by unfold lC; omega)).ch cw (by omega), lr2, ?_, ?_, ?_, ?_, by rw [r (by decide)]; exact p0⟩
    · rw [r (by decide)]
      exact (au.ch c (by unfold lC; omega)).ch cw (by omega)
    · exact n1.sh c.1
    · show hn g1 ≤ a
      rw [c.1.2.2.1]; exact n2
    · show hs g1 ≤ b
      rw [c.1.2.2.2]; exact n3
theorem x_carB (H : LW L xs h P (told P) a b) (hT : T < 5) (hlt : l < P 0 7) (hA : P 9 2 < 20) (hC : P 9 1 < 16) (hK : 0 < P 0 6) (eD : D = P 0 1) : ∃ (g : St) (m w d c : Nat), ((dSeq (dSetI 20 (dAI (vR 4) (cI 5))) (dSeq (dSetI 21 (dCall DL_draw (aI (aI (aR aN 0 (vR 0)) 1 (d2 o_iadd (cI 55) (vI 18))) 2 (cI 1048576)))) (dSeq (d3 (stI 13 idI) (vR 8) (d2 o_imul (cI 4) (vI 20)) (d2z o_irem (vI 21) (dAI (vR 4) (cI 3)))) (dSeq (d3 (stI 13 idI) (vR 8) (d2 o_iadd (d2 o_imul (cI 4) (vI 20)) (cI 1)) (vI 19)) (dSeq (d3 (stI 13 idI) (vR 8) (d2 o_iadd (d2 o_imul (cI 4) (vI 20)) (cI 2)) (d2z o_irem (d2 o_ishr (vI 21) (cI 4)) (dAI (vR 4) (cI 2)))) (dSeq (d3 (stI 13 idI) (vR 8) (d2 o_iadd (d2 o_imul (cI 4) (vI 20)) (cI 3)) (d2z o_irem (d2 o_ishr (vI 21) (cI 8)) (vI 10))) (dSeq (dUA o_iadd (vR 4) (cI 5) (cI 1)) (dSeq (dDo (dCall DL_run (aR (aR (aR (aR (aR (aR (aR (aR (aR (aR (aR aN 0 (vR 4)) 1 (vR 5)) 2 (vR 6)) 3 (vR 7)) 4 (vR 8)) 5 (vR 9)) 6 (vR 12)) 7 (vR 13)) 8 (vR 14)) 9 (vR 15)) 10 (vR 16)))) (dIf (dCI r_ne (dCallV 11 DX11_carry (aI (aI (aI (aI (aR aN 0 (vR 1)) 1 (dAI (vR 8) (d2 o_imul (cI 4) (vI 20)))) 2 (vI 19)) 3 (dAI (vR 8) (d2 o_iadd (d2 o_imul (cI 4) (vI 20)) (cI 2)))) 4 (dAI (vR 8) (d2 o_iadd (d2 o_imul (cI 4) (vI 20)) (cI 3))))) (dT (dCZ q_eq (dAI (vR 15) (vI 20))) (cI 1) (cI 0))) (dRet (cI 0)) dSkip))))))))) : Sm Int32) (sI (sI (sI (sR (sR (sR (sR (sR (sI (sI (sR (sR (sR (sR (sR (sR (sR (sR (sR (sR fr0 0 1) 1 31) 2 122) 3 123) 4 124) 5 125) 6 126) 7 127) 8 128) 9 129) 10 (nI D)) 11 (nI S)) 12 130) 13 131) 14 132) 15 133) 16 134) 17 (nI A)) 18 (nI T)) 19 (nI l)) h = some (.inl 0, sI (sI (sI (sI (sI (sR (sR (sR (sR (sR (sI (sI (sR (sR (sR (sR (sR (sR (sR (sR (sR (sR fr0 0 1) 1 31) 2 122) 3 123) 4 124) 5 125) 6 126) 7 127) 8 128) 9 129) 10 (nI D)) 11 (nI S)) 12 130) 13 131) 14 132) 15 133) 16 134) 17 (nI A)) 18 (nI T)) 19 (nI l)) 20 (nI (P 9 1))) 21 (nI c), g) ∧ LW L xs g (carP P m l w d) (told (carP P m l w d)) (a + 2) (b + 6) := by
  have hW := H.1.w
  have hb := hW.all
  have sl := hW.sl hlt
  have p0 := H.2.2.2.2.2.2.2
  have hD : 0 < P 0 1 := hW.2.2.2.2.2.2.2.2.2.2.2.2.2.2.1 p0
  obtain ⟨c, ec⟩ : ∃ c, c = dw L xs (55 + T) 1048576 := ⟨_, rfl⟩
  have hc : c < 1048576 := by rw [ec]; exact dw_lt _ _ _ (by decide)
  have dr := x_draw H.2.1 (k := 55 + T) (n := 1048576) (by omega) (by decide) (by decide)
  rw [← ec] at dr
  have cd : ∀ k, c / 2 ^ k < 2 ^ 31 := fun k => Nat.lt_of_le_of_lt (Nat.div_le_self _ _) (by omega)
  obtain ⟨m, em⟩ : ∃ m, m = c % P 0 6 := ⟨_, rfl⟩
  have hm : m < P 0 6 := by rw [em]; exact Nat.mod_lt _ hK
  obtain ⟨w, ew⟩ : ∃ w, w = c / 2 ^ 4 % P 0 4 := ⟨_, rfl⟩
  have hw : w < P 0 4 := by rw [ew]; exact Nat.mod_lt _ (by omega)
  obtain ⟨d, ed⟩ : ∃ d, d = c / 2 ^ 8 % P 0 1 := ⟨_, rfl⟩
  have hd : d < P 0 1 := by rw [ed]; exact Nat.mod_lt _ hD
  have m1 : o_irem (nI c) (nI (P 0 6)) = nI m := by rw [em]; exact q_irem (by omega) (by omega) (by omega)
  have m2 : o_ishr (nI c) (nI 4) = nI (c / 2 ^ 4) := q_ishr (by decide) (by omega)
  have m3 : o_ishr (nI c) (nI 8) = nI (c / 2 ^ 8) := q_ishr (by decide) (by omega)
  have m5 : o_irem (nI (c / 2 ^ 4)) (nI (P 0 4)) = nI w := by rw [ew]; exact q_irem (cd _) (by omega) (by omega)
  have m6 : o_irem (nI (c / 2 ^ 8)) (nI D) = nI d := by rw [ed, eD]; exact q_irem (cd _) (by omega) (by omega)
  have zK : (P 0 6 = 0) = False := eq_false (by omega)
  have zH : (P 0 4 = 0) = False := eq_false (by omega)
  have zD : (D = 0) = False := eq_false (by omega)
  obtain ⟨n, en⟩ : ∃ n, n = P 9 1 := ⟨_, rfl⟩
  have lrc := H.2.2.1.car hW hC m l w d
  rw [← en] at lrc hC
  have hWc : WFP (carP P m l w d) := WFP_car hW hm hlt hw hd hA (by omega)
  obtain ⟨h2, eh⟩ : ∃ z, z = wI (wI (wI (wI (wI h 128 (4 * n) (nI m)) 128 (4 * n + 1) (nI l)) 128 (4 * n + 2) (nI w)) 128 (4 * n + 3) (nI d)) 124 5 (nI (n + 1)) := ⟨_, rfl⟩
  have c2 : Ch (fun o => o = 124 ∨ o = 128) h h2 := by rw [eh]; exact ((((Ch.w (D := fun o => o = 124 ∨ o = 128) (Or.inr rfl) _ _ _).tr (Ch.w (D := fun o => o = 124 ∨ o = 128) (Or.inr rfl) _ _ _)).tr (Ch.w (D := fun o => o = 124 ∨ o = 128) (Or.inr rfl) _ _ _)).tr (Ch.w (D := fun o => o = 124 ∨ o = 128) (Or.inr rfl) _ _ _)).tr (Ch.w (D := fun o => o = 124 ∨ o = 128) (Or.inl rfl) _ _ _)
  obtain ⟨i0, sc, lr0, au, n1, n2, n3, -⟩ := H
  obtain ⟨g3, x3, lr3, pg, wy, rk⟩ := x_lrun hWc (told_w hWc) rfl (show LR h2 (carP P m l w d) (told (carP P m l w d)) by rw [eh]; exact lrc) (by rw [c2.1.2.2.1]; exact n1.1)
  have e91 : carP P m l w d 9 1 = n + 1 := by
    unfold carP
    rw [up_o _ _ (by omega), up_eq, en]
  have rkC : ∀ o, o < 130 → o ≠ 124 → o ≠ 128 → hk g3 o = hk h o ∧ (∀ k, hi g3 o k = hi h o k) ∧ (∀ k, hl g3 o k = hl h o k) ∧ ∀ k, hr g3 o k = hr h o k := fun o ho o1 o2 => by
    obtain ⟨q1, q2, q3, q4⟩ := rk.1 o ho
    have d2 := c2.2 o (by omega)
    refine ⟨by rw [q1, c2.1.2.1], fun k => by rw [q2, d2.1], fun k => by rw [q3, d2.2], fun k => by rw [q4, c2.1.1]⟩
  have I3 : Inv g3 g3 P := by
    refine Inv.lw (h := h) i0 (fun o ho => ?_)
    obtain ⟨q1, q2, q3, q4⟩ := rkC o (by omega) (by omega) (by omega)
    exact ⟨q1, q2, q3, fun _ => q4⟩
  obtain ⟨g4, x, I4⟩ := c_carry I3 hm hlt hw hd hA (by omega)
  have y3 : hi g3 133 n = nI (runN (carP P m l w d) (told (carP P m l w d)) (P 0 1) 6 n) := by
    have := wy n (by rw [e91]; omega)
    rw [carP_lo _ _ _ _ _ _ (Or.inl (by decide))] at this
    exact this
  obtain ⟨ω, eω⟩ : ∃ ω, ω = runN (carP P m l w d) (told (carP P m l w d)) (P 0 1) 6 n := ⟨_, rfl⟩
  have x4 : DX11_carry (sI (sI (sI (sI (sR fr0 0 31) 1 (nI m)) 2 (nI l)) 3 (nI w)) 4 (nI d)) g3 = some (if ω = 0 then nI 1 else nI 0, g4) := by
    rw [eω, en]
    exact x
  rw [← eω] at y3
  have hω : ω < 2 ^ 31 := by
    have t6 : runN (carP P m l w d) (told (carP P m l w d)) (P 0 1) 6 n ≤ 5 := td6 hWc (P 0 1) (k := n) (by omega)
    rw [← eω] at t6
    omega
  have c4 := I4.lch
  have lr4 : LR g4 (carP P m l w d) (told (carP P m l w d)) := lr3.ch c4 (fun o h1 h2 z => by unfold lC at z; omega)
  refine ⟨g4, m, w, d, c, ?_, ?_⟩
  · obtain ⟨⟨tf, t1, t2⟩, -, -, -, ⟨qf, q1, q2⟩, -⟩ := lr0
    have kt := t1.1
    have kq := q1.1
    have v2 : hi h 124 2 = nI (P 0 4) := by rw [t1.2 2 (by decide), t2.2.2.1]
    have v3 : hi h 124 3 = nI (P 0 6) := by rw [t1.2 3 (by decide), t2.2.2.2.1]
    have v5 : hi h 124 5 = nI n := by rw [t1.2 5 (by decide), t2.2.2.2.2.2.1, en]
    obtain ⟨-, -, -, -, ⟨qf', q1', q2'⟩, -, ⟨-, -, -, k133, -⟩, -⟩ := lr3
    have kq' := q1'.1
    have qq := q2' n (by rw [e91]; omega)
    have r0 : hi g3 128 (4 * n) = nI m := by rw [(rk.1 128 (by decide)).2.1, eh, w_ne (by omega), w_ne (by omega), w_ne (by omega), w_ne (by omega), w_eq]
    have r2 : hi g3 128 (4 * n + 2) = nI w := by rw [(rk.1 128 (by decide)).2.1, eh, w_ne (by omega), w_ne (by omega), w_eq]
    have r3 : hi g3 128 (4 * n + 3) = nI d := by rw [(rk.1 128 (by decide)).2.1, eh, w_ne (by omega), w_eq]
    have k4 : hk g4 133 = (13, 16) := lr4.2.2.2.2.2.2.1.2.2.2.1
    have y4 : hi g4 133 n = nI ω := by rw [(c4.2 133 (by unfold lC; omega)).1]; exact y3
    have kX : hk g3 31 = (11, 0) := I3.co.koX
    rw [← en]
    by_cases z : ω = 0
    · rw [if_pos z] at x4
      rw [z] at y4
      have z' : (nI 0 = nI 0) = True := eq_self _
      simp (maxSteps := 4000000) (disch := omega) only [ob_t, ob_n, ob_ite, e_cI, e_cL, e_cR, e_vI, e_vL, e_vR, e_d2, e_d2_a, e_d2_b, e_d2z, e_d2z_a, e_d2z_b, e_d1, e_d1_a, e_GI, e_GI_a, e_GL, e_GL_a, e_GR, e_GR_a, e_AI, e_AI_a, e_AI_b, e_AB, e_AB_a, e_AB_b, e_AZ, e_AZ_a, e_AZ_b, e_AL, e_AL_a, e_AL_b, e_AR, e_AR_a, e_AR_b, e_Len, e_Len_a, e_CI, e_CI_a, e_CI_b, e_CZ, e_CZ_a, e_And, e_kAnd, e_Or, e_kOr, e_Not, e_kNot, e_B, e_kB, e_T, e_kT, e_NN, e_kNN, e_NewA, e_NewA_a, e_NewC, e_kNewC, e_aN, e_aI, e_aI_a, e_aI_b, e_aL, e_aL_a, e_aL_b, e_aR, e_aR_a, e_aR_b, e_Call, e_kCall, e_CallV, e_kCallV, e_SetI, e_kSetI, e_SetL, e_kSetL, e_SetR, e_kSetR, e_Inc, e_Skip, e_Brk, e_Cnt, e_Ret, e_kRet, e_Ret0, e_Seq, e_kSeq0, e_kSeq1, e_kSeq2, e_kSeqR, e_If, e_kIf, e_Do, e_kDo, e_Sup, e_kN0, e_d3, e_k3a, e_k3b, e_k3c, e_P, e_kPa, e_kPb, e_UA, e_kUAa, e_kUAb, e_kUAc, e_UL, e_kULa, e_kULb, e_kULc, e_UF, e_kUFa, e_kUFb, e_Cp, e_kCp, e_Sw, e_kSwa, e_kSwb0, e_kSwb1, e_kSwbR, e_M1, e_kM1, e_MZ, e_kMZ, e_MN, e_kMN, e_Tv, e_kTv, e_Tc, e_kTc, e_lpS, e_kLp, e_kLpB0, e_kLpB1, e_kLpB2, e_kLpBR, e_kLpU, e_dwS, e_kDwB0, e_kDwC, f_II, f_LL, f_RR, f_IL, f_IR, f_LI, f_LR, f_RI, f_RL, o_iadd, o_isub, o_imul, o_iand, o_ior, o_ixor, o_ladd, o_lsub, o_lmul, o_land, o_lor, o_i2b, o_i2s, o_lneg, o_imax, o_imin, r_lt, r_le, r_gt, r_ge, r_eq, r_ne, q_lt, q_le, q_gt, q_ge, q_eq, q_ne, decide_eq_true_eq, idI, and_true, true_and, and_false, false_and, or_true, true_or, or_false, false_or, not_true_eq_false, not_false_eq_true, if_true, if_false, ite_self, Bool.not_true, Bool.not_false, Bool.false_eq_true, Bool.true_eq_false, decide_true, decide_false, ne_eq, reduceIte, Nat.reduceEqDiff, Option.some.injEq, Prod.mk.injEq, eq_self, n_inb, nI_clamp, w_hr, w_hk, w_hl, w_eq, w_ne, wl_hr, wl_hk, wl_hi, wl_eq, wl_ne, fa_lit, fa_litL, nI_add, pk_mul, nI_ltI, nI_leI, nI_eq, b01, b0, b1, Nat.reduceLeDiff, Nat.reduceAdd, Nat.reduceMul, Nat.reduceSub, Nat.lt_irrefl, Nat.reduceLT, f_ss, f_sR, f_sL, lc0, lc1, lc01, stI, stL, kt, kq, v2, v3, v5, hC, dr, m1, m2, m3, m5, m6, zK, zH, zD, ← eh, x3, kq', r0, r2, r3, kX, x4, k4, y4]
    · rw [if_neg z] at x4
      have z' : (nI ω = nI 0) = False := by rw [nI_eq (by omega) (by decide)]; exact eq_false z
      simp (maxSteps := 4000000) (disch := omega) only [ob_t, ob_n, ob_ite, e_cI, e_cL, e_cR, e_vI, e_vL, e_vR, e_d2, e_d2_a, e_d2_b, e_d2z, e_d2z_a, e_d2z_b, e_d1, e_d1_a, e_GI, e_GI_a, e_GL, e_GL_a, e_GR, e_GR_a, e_AI, e_AI_a, e_AI_b, e_AB, e_AB_a, e_AB_b, e_AZ, e_AZ_a, e_AZ_b, e_AL, e_AL_a, e_AL_b, e_AR, e_AR_a, e_AR_b, e_Len, e_Len_a, e_CI, e_CI_a, e_CI_b, e_CZ, e_CZ_a, e_And, e_kAnd, e_Or, e_kOr, e_Not, e_kNot, e_B, e_kB, e_T, e_kT, e_NN, e_kNN, e_NewA, e_NewA_a, e_NewC, e_kNewC, e_aN, e_aI, e_aI_a, e_aI_b, e_aL, e_aL_a, e_aL_b, e_aR, e_aR_a, e_aR_b, e_Call, e_kCall, e_CallV, e_kCallV, e_SetI, e_kSetI, e_SetL, e_kSetL, e_SetR, e_kSetR, e_Inc, e_Skip, e_Brk, e_Cnt, e_Ret, e_kRet, e_Ret0, e_Seq, e_kSeq0, e_kSeq1, e_kSeq2, e_kSeqR, e_If, e_kIf, e_Do, e_kDo, e_Sup, e_kN0, e_d3, e_k3a, e_k3b, e_k3c, e_P, e_kPa, e_kPb, e_UA, e_kUAa, e_kUAb, e_kUAc, e_UL, e_kULa, e_kULb, e_kULc, e_UF, e_kUFa, e_kUFb, e_Cp, e_kCp, e_Sw, e_kSwa, e_kSwb0, e_kSwb1, e_kSwbR, e_M1, e_kM1, e_MZ, e_kMZ, e_MN, e_kMN, e_Tv, e_kTv, e_Tc, e_kTc, e_lpS, e_kLp, e_kLpB0, e_kLpB1, e_kLpB2, e_kLpBR, e_kLpU, e_dwS, e_kDwB0, e_kDwC, f_II, f_LL, f_RR, f_IL, f_IR, f_LI, f_LR, f_RI, f_RL, o_iadd, o_isub, o_imul, o_iand, o_ior, o_ixor, o_ladd, o_lsub, o_lmul, o_land, o_lor, o_i2b, o_i2s, o_lneg, o_imax, o_imin, r_lt, r_le, r_gt, r_ge, r_eq, r_ne, q_lt, q_le, q_gt, q_ge, q_eq, q_ne, decide_eq_true_eq, idI, and_true, true_and, and_false, false_and, or_true, true_or, or_false, false_or, not_true_eq_false, not_false_eq_true, if_true, if_false, ite_self, Bool.not_true, Bool.not_false, Bool.false_eq_true, Bool.true_eq_false, decide_true, decide_false, ne_eq, reduceIte, Nat.reduceEqDiff, Option.some.injEq, Prod.mk.injEq, eq_self, n_inb, nI_clamp, w_hr, w_hk, w_hl, w_eq, w_ne, wl_hr, wl_hk, wl_hi, wl_eq, wl_ne, fa_lit, fa_litL, nI_add, pk_mul, nI_ltI, nI_leI, nI_eq, b01, b0, b1, Nat.reduceLeDiff, Nat.reduceAdd, Nat.reduceMul, Nat.reduceSub, Nat.lt_irrefl, Nat.reduceLT, f_ss, f_sR, f_sL, lc0, lc1, lc01, stI, stL, kt, kq, v2, v3, v5, hC, dr, m1, m2, m3, m5, m6, zK, zH, zD, ← eh, x3, kq', r0, r2, r3, kX, x4, k4, y4, z']
  · have r : ∀ {j k : Nat}, j < 9 → carP P m l w d j k = P j k := fun q => carP_lo _ _ _ _ _ _ (Or.inl q)
    refine ⟨I4.rb, ⟨?_, fun k => ?_, sc.2.2⟩, lr4, ⟨?_, fun k hk1 => ?_⟩, ?_, ?_, ?_, by rw [r (by decide)]; exact p0⟩
    · rw [c4.1.2.1, (rkC 1 (by decide) (by decide) (by decide)).1]; exact sc.1
    · rw [(c4.2 1 (by unfold lC; omega)).1, (rkC 1 (by decide) (by decide) (by decide)).2.1]; exact sc.2.1 k
    · rw [c4.1.2.1, (rkC 123 (by decide) (by decide) (by decide)).1]; exact au.1
    · rw [(c4.2 123 (by unfold lC; omega)).1, (rkC 123 (by decide) (by decide) (by decide)).2.1, r (by decide)]; exact au.2 k hk1
    · exact ((n1.sh c2.1).rk rk).sh c4.1
    · rw [c4.1.2.2.1, rk.2.1, c2.1.2.2.1]; omega
    · rw [c4.1.2.2.2, rk.2.2, c2.1.2.2.2]; omega
end
end
