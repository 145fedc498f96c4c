set_option maxRecDepth 100000
set_option maxHeartbeats 4000000
/-! the law: its end; all of it -/
section
variable {L : Nat} {xs : Nat → Int32} {h g : St} {P C C' : PT} {a b : Nat}
theorem x_tail {D S n : Nat} (H : LW L xs h P (told P) a b) (eD : D = P 0 1) (eS : S = P 0 7) (en : n = P 9 2) : ∃ (f' : Fr) (g' : St), ((dSeq (dSetL 18 (d1 o_i2l (d2 o_iand (dCall DL_cell (aI (aR aN 0 (vR 0)) 1 (cI 61))) (cI 1073741823)))) (dSeq (dSetI 20 (d1 o_l2i (vL 18))) (dSeq (dSeq (dSetI 21 (cI 0)) Llaw_13) (dSeq (dDo (dCall DL_run (aR (aR (aR (aR (aR (aR (aR (aR (aR (aR (aR aN 0 (vR 4)) 1 (vR 5)) 2 (vR 6)) 3 (vR 7)) 4 (vR 8)) 5 (vR 9)) 6 (vR 12)) 7 (vR 13)) 8 (vR 14)) 9 (vR 15)) 10 (vR 16)))) (dSeq (dSetI 21 (cI 0)) (dSeq (dSeq (dSetI 22 (cI 0)) Llaw_14) (dSeq (dIf (dOr (dCI r_ne (dCallV 11 DX11_drawn (aI (aI (aR aN 0 (vR 1)) 1 (vI 20)) 2 (cI 0))) (dAI (vR 4) (cI 6))) (dCI r_ne (dCallV 11 DX11_drawn (aI (aI (aR aN 0 (vR 1)) 1 (vI 20)) 2 (cI 1))) (vI 21))) (dRet (cI 0)) dSkip) (dSeq (dSetI 22 (dCallV 11 DX11_dones (aR aN 0 (vR 1)))) (dRet (dB (dAnd (dAnd (dAnd (dAnd (dCZ q_eq (dCallV 11 DX11_image (aI (aR aN 0 (vR 1)) 1 (cI 2)))) (dCI r_eq (dCallV 11 DX11_anew (aR aN 0 (vR 1))) (vI 17))) (dCZ q_eq (dCallV 11 DX11_back (aI (aR aN 0 (vR 1)) 1 (cI 2))))) (dCI r_eq (dCallV 11 DX11_count (aI (aR aN 0 (vR 1)) 1 (cI 8))) (vI 17))) (dCI r_eq (dCallV 11 DX11_dones (aR aN 0 (vR 1))) (vI 22))))))))))))) : Sm Int32) (sI (sI (sR (sR (sR (sR (sR (sI (sI (sR (sR (sR (sR (sR (sR (sR (sR (sR (sR fr0 0 1) 1 31) 2 122) 3 123) 4 124) 5 125) 6 126) 7 127) 8 128) 9 129) 10 (nI D)) 11 (nI S)) 12 130) 13 131) 14 132) 15 133) 16 134) 17 (nI n)) 18 (nI S)) h = some (.inr (nI 1), f', g') ∧ hn g' ≤ a + 18 ∧ hs g' ≤ b + 266 := by
  have hW := H.1.w
  have hb := hW.all
  have p0 := H.2.2.2.2.2.2.2
  obtain ⟨u, eu⟩ : ∃ u, clX L xs 61 = nI u := ⟨_, n_bv _⟩
  have cl : DL_cell (sI (sR fr0 0 1) 1 (nI 61)) h = some (nI u, h) := by
    rw [← eu]
    exact x_cellL H.2.1 (by decide)
  obtain ⟨v, ev⟩ : ∃ v, v = u % 2 ^ 30 := ⟨_, rfl⟩
  have m1 : nI u &&& nI 1073741823 = nI v := by rw [ev]; exact fa_mask u 30
  have hv : v < 2 ^ 30 := by rw [ev]; exact Nat.mod_lt _ (by decide)
  have i1 : o_i2l (nI v) = lN v := ol_i2l (by omega)
  have i2 : o_l2i (lN v) = nI v := q_l2i v
  obtain ⟨g1, C1, y, L1, H1, y0, y1, y2, y3, y4, y5⟩ := x_l13 (D := D) (S := S) (A := n) (v := v) (x := lN v) (E := nI S) H eD
  obtain ⟨r, er⟩ : ∃ r, r = raN P (lN v) D := ⟨_, rfl⟩
  rw [← er] at y3
  have hr : r < 4096 := by
    have := raN_lt P (lN v) D
    have p12 : 2 ^ D ≤ 2 ^ 12 := Nat.pow_le_pow_right (by decide) (by omega)
    omega
  have H1' : LW L xs g1 P (whT P 3 r) a b := by
    refine H1.cc (fun tf ⟨t0, t1, t2, t3, t4, t5, t6, t7⟩ => ⟨t0, ?_, t2, t3, t4, t5, ?_, ?_⟩) ?_ ?_
    · rw [t1, y0]; rfl
    · rw [t6, y3]; rfl
    · rw [t7, y2]; rfl
    · rw [y4]; rfl
    · rw [y5]; rfl
  have hX : WFX P (whT P 3 r) := WFX_wh hW Z0 (Or.inr (Or.inr (Or.inr ⟨rfl, hr⟩)))
  obtain ⟨g2, x2, H2, G2, -⟩ := H1'.run hX rfl
  have L2 : Llaw_14 (sI (sI (sI (sL (sI (sR (sR (sR (sR (sR (sI (sI (sR (sR (sR (sR (sR (sR (sR (sR (sR (sR fr0 0 1) 1 31) 2 122) 3 123) 4 124) 5 125) 6 126) 7 127) 8 128) 9 129) 10 (nI D)) 11 (nI S)) 12 130) 13 131) 14 132) 15 133) 16 134) 17 (nI n)) 18 y) 20 (nI v)) 21 (nI 0)) 22 (nI 0)) g2 = some (.inl 0, sI (sI (sI (sL (sI (sR (sR (sR (sR (sR (sI (sI (sR (sR (sR (sR (sR (sR (sR (sR (sR (sR fr0 0 1) 1 31) 2 122) 3 123) 4 124) 5 125) 6 126) 7 127) 8 128) 9 129) 10 (nI D)) 11 (nI S)) 12 130) 13 131) 14 132) 15 133) 16 134) 17 (nI n)) 18 y) 20 (nI v)) 21 (nI (wsN P r S))) 22 (nI S), g2) := (x_l14 (D := D) (S := S) (A := n) H2 G2 rfl eD hr).resolve_right (fun q => q eS)
  have jd0 : DX11_drawn (sI (sI (sR fr0 0 31) 1 (nI v)) 2 (nI 0)) g2 = some (nI r, g2) := by
    have := c_drawn0 H2.1 p0 (v := v) (by omega)
    rw [i1, ← eD, ← er] at this
    exact this
  have tab : hk g2 124 = (13, 8) ∧ hi g2 124 6 = nI r := by
    obtain ⟨⟨tf, t1, t2⟩, -⟩ := H2.2.2.1
    exact ⟨t1.1, by rw [t1.2 6 (by decide), t2.2.2.2.2.2.2.1]; rfl⟩
  obtain ⟨kt, v6⟩ := tab
  obtain ⟨g3, q3, I3⟩ := c_drawn1 H2.1 p0 (v := v) (by omega)
  have jd1 : DX11_drawn (sI (sI (sR fr0 0 31) 1 (nI v)) 2 (nI 1)) g2 = some (nI (wsN P r S), g3) := by
    rw [i1, ← eD, ← er, ← eS] at q3
    exact q3
  have H3 := H2.call I3
  obtain ⟨g4, q4, I4⟩ := c_dones H3.1 p0
  have H4 := H3.call I4
  obtain ⟨dn, edn⟩ : ∃ dn, dn = dnN (tdN P (P 0 1)) (P 9 1) := ⟨_, rfl⟩
  rw [← edn] at q4
  have jd4 : DX11_dones (sR fr0 0 31) g3 = some (nI dn, g4) := q4
  obtain ⟨n135, n67⟩ := H4.2.2.2.2.1
  obtain ⟨g5, q5, I5, pg5, hr5, hn5, hs5⟩ := c_image H4.1 n67 (by omega)
  have jd5 : DX11_image (sI (sR fr0 0 31) 1 (nI 2)) g4 = some (nI 0, g5) := q5
  obtain ⟨g6, q6, I6⟩ := c_anew I5 p0
  have jd6 : DX11_anew (sR fr0 0 31) g5 = some (nI n, g6) := by rw [en]; exact q6
  obtain ⟨g7, q7, I7⟩ := c_back I6 (q := hn g4) (by rw [I6.cn.1.1]; exact hr5) (by omega) (pg5.cn I6.cn (by omega))
  have jd7 : DX11_back (sI (sR fr0 0 31) 1 (nI 2)) g6 = some (nI 0, g7) := q7
  have jd8 : DX11_count (sI (sR fr0 0 31) 1 (nI 8)) g7 = some (nI n, g7) := by rw [en]; exact c_count I7
  obtain ⟨g9, q9, I9⟩ := c_dones I7 p0
  rw [← edn] at q9
  have jd9 : DX11_dones (sR fr0 0 31) g7 = some (nI dn, g9) := q9
  have k2 : hk g2 31 = (11, 0) := H2.1.co.koX
  have k3 : hk g3 31 = (11, 0) := H3.1.co.koX
  have k4 : hk g4 31 = (11, 0) := H4.1.co.koX
  have k5 : hk g5 31 = (11, 0) := I5.co.koX
  have k6 : hk g6 31 = (11, 0) := I6.co.koX
  have k7 : hk g7 31 = (11, 0) := I7.co.koX
  have z0 : (nI 0 = nI 0) = True := eq_self _
  obtain ⟨res, hres⟩ : ∃ res, ((dSeq (dSetL 18 (d1 o_i2l (d2 o_iand (dCall DL_cell (aI (aR aN 0 (vR 0)) 1 (cI 61))) (cI 1073741823)))) (dSeq (dSetI 20 (d1 o_l2i (vL 18))) (dSeq (dSeq (dSetI 21 (cI 0)) Llaw_13) (dSeq (dDo (dCall DL_run (aR (aR (aR (aR (aR (aR (aR (aR (aR (aR (aR aN 0 (vR 4)) 1 (vR 5)) 2 (vR 6)) 3 (vR 7)) 4 (vR 8)) 5 (vR 9)) 6 (vR 12)) 7 (vR 13)) 8 (vR 14)) 9 (vR 15)) 10 (vR 16)))) (dSeq (dSetI 21 (cI 0)) (dSeq (dSeq (dSetI 22 (cI 0)) Llaw_14) (dSeq (dIf (dOr (dCI r_ne (dCallV 11 DX11_drawn (aI (aI (aR aN 0 (vR 1)) 1 (vI 20)) 2 (cI 0))) (dAI (vR 4) (cI 6))) (dCI r_ne (dCallV 11 DX11_drawn (aI (aI (aR aN 0 (vR 1)) 1 (vI 20)) 2 (cI 1))) (vI 21))) (dRet (cI 0)) dSkip) (dSeq (dSetI 22 (dCallV 11 DX11_dones (aR aN 0 (vR 1)))) (dRet (dB (dAnd (dAnd (dAnd (dAnd (dCZ q_eq (dCallV 11 DX11_image (aI (aR aN 0 (vR 1)) 1 (cI 2)))) (dCI r_eq (dCallV 11 DX11_anew (aR aN 0 (vR 1))) (vI 17))) (dCZ q_eq (dCallV 11 DX11_back (aI (aR aN 0 (vR 1)) 1 (cI 2))))) (dCI r_eq (dCallV 11 DX11_count (aI (aR aN 0 (vR 1)) 1 (cI 8))) (vI 17))) (dCI r_eq (dCallV 11 DX11_dones (aR aN 0 (vR 1))) (vI 22))))))))))))) : Sm Int32) (sI (sI (sR (sR (sR (sR (sR (sI (sI (sR (sR (sR (sR (sR (sR (sR (sR (sR (sR fr0 0 1) 1 31) 2 122) 3 123) 4 124) 5 125) 6 126) 7 127) 8 128) 9 129) 10 (nI D)) 11 (nI S)) 12 130) 13 131) 14 132) 15 133) 16 134) 17 (nI n)) 18 (nI S)) h = res := ⟨_, rfl⟩
  have h0 := hres
  simp (maxSteps := 4000000) (disch := omega) only [ob_t, ob_n, ob_ite, e_cI, e_cL, e_cR, e_vI, e_vL, e_vR, e_d2, e_d2_a, e_d2_b, e_d2z, e_d2z_a, e_d2z_b, e_d1, e_d1_a, e_GI, e_GI_a, e_GL, e_GL_a, e_GR, e_GR_a, e_AI, e_AI_a, e_AI_b, e_AB, e_AB_a, e_AB_b, e_AZ, e_AZ_a, e_AZ_b, e_AL, e_AL_a, e_AL_b, e_AR, e_AR_a, e_AR_b, e_Len, e_Len_a, e_CI, e_CI_a, e_CI_b, e_CZ, e_CZ_a, e_And, e_kAnd, e_Or, e_kOr, e_Not, e_kNot, e_B, e_kB, e_T, e_kT, e_NN, e_kNN, e_NewA, e_NewA_a, e_NewC, e_kNewC, e_aN, e_aI, e_aI_a, e_aI_b, e_aL, e_aL_a, e_aL_b, e_aR, e_aR_a, e_aR_b, e_Call, e_kCall, e_CallV, e_kCallV, e_SetI, e_kSetI, e_SetL, e_kSetL, e_SetR, e_kSetR, e_Inc, e_Skip, e_Brk, e_Cnt, e_Ret, e_kRet, e_Ret0, e_Seq, e_kSeq0, e_kSeq1, e_kSeq2, e_kSeqR, e_If, e_kIf, e_Do, e_kDo, e_Sup, e_kN0, e_d3, e_k3a, e_k3b, e_k3c, e_P, e_kPa, e_kPb, e_UA, e_kUAa, e_kUAb, e_kUAc, e_UL, e_kULa, e_kULb, e_kULc, e_UF, e_kUFa, e_kUFb, e_Cp, e_kCp, e_Sw, e_kSwa, e_kSwb0, e_kSwb1, e_kSwbR, e_M1, e_kM1, e_MZ, e_kMZ, e_MN, e_kMN, e_Tv, e_kTv, e_Tc, e_kTc, e_lpS, e_kLp, e_kLpB0, e_kLpB1, e_kLpB2, e_kLpBR, e_kLpU, e_dwS, e_kDwB0, e_kDwC, f_II, f_LL, f_RR, f_IL, f_IR, f_LI, f_LR, f_RI, f_RL, o_iadd, o_isub, o_imul, o_iand, o_ior, o_ixor, o_ladd, o_lsub, o_lmul, o_land, o_lor, o_i2b, o_i2s, o_lneg, o_imax, o_imin, r_lt, r_le, r_gt, r_ge, r_eq, r_ne, q_lt, q_le, q_gt, q_ge, q_eq, q_ne, decide_eq_true_eq, idI, and_true, true_and, and_false, false_and, or_true, true_or, or_false, false_or, not_true_eq_false, not_false_eq_true, if_true, if_false, ite_self, Bool.not_true, Bool.not_false, Bool.false_eq_true, Bool.true_eq_false, decide_true, decide_false, ne_eq, reduceIte, Nat.reduceEqDiff, Option.some.injEq, Prod.mk.injEq, eq_self, n_inb, nI_clamp, w_hr, w_hk, w_hl, w_eq, w_ne, wl_hr, wl_hk, wl_hi, wl_eq, wl_ne, fa_lit, fa_litL, nI_add, pk_mul, nI_ltI, nI_leI, nI_eq, b01, b0, b1, Nat.reduceLeDiff, Nat.reduceAdd, Nat.reduceMul, Nat.reduceSub, Nat.lt_irrefl, Nat.reduceLT, f_ss, f_sR, f_sL, lc0, lc1, lc01, stI, stL, cl, m1, i1, i2, L1, x2, L2, k2, jd0, kt, v6, jd1, k3, jd4, k4, jd5, k5, jd6, k6, jd7, k7, jd8, jd9, z0] at hres
  refine ⟨_, g9, h0.trans hres.symm, ?_, ?_⟩
  · have e1 : hn g9 = hn g5 := by rw [I9.cn.1.2.2.1]
    have := H4.2.2.2.2.2.1
    rw [e1, hn5]
    omega
  · have e1 : hs g9 = hs g5 := by rw [I9.cn.1.2.2.2]
    have := H4.2.2.2.2.2.2.1
    rw [e1, hs5]
    omega
end
