set_option maxRecDepth 100000
set_option maxHeartbeats 2000000
section
variable {L : Nat} {xs : Nat → Int32} {h g : St} {P C : PT} {a b : Nat}
variable {d D S : Nat} {A B : Int32}
theorem x_l3 (H : LW L xs h P (told P) a b) (G : PGs h P (told P)) (hd : d ≤ P 0 1) : ∃ g, Llaw_3 (sI (sI (sI (sI (sR (sR (sR (sR (sR (sI (sI (sR (sR (sR (sR (sR (sR (sR (sR (sR (sR fr0 0 1) 1 31) 2 122) 3 123) 4 124) 5 125) 6 126) 7 127) 8 128) 9 129) 10 (nI D)) 11 (nI (P 0 7))) 12 130) 13 131) 14 132) 15 133) 16 134) 17 A) 18 B) 19 (nI d)) 20 (nI 0)) h = some (.inl 0, sI (sI (sI (sI (sR (sR (sR (sR (sR (sI (sI (sR (sR (sR (sR (sR (sR (sR (sR (sR (sR fr0 0 1) 1 31) 2 122) 3 123) 4 124) 5 125) 6 126) 7 127) 8 128) 9 129) 10 (nI D)) 11 (nI (P 0 7))) 12 130) 13 131) 14 132) 15 133) 16 134) 17 A) 18 B) 19 (nI d)) 20 (nI (P 0 7)), g) ∧ LW L xs g P (told P) a b ∧ PGs g P (told P) := by
  unfold Llaw_3
  refine loop_g (fun k => sI (sI (sI (sI (sR (sR (sR (sR (sR (sI (sI (sR (sR (sR (sR (sR (sR (sR (sR (sR (sR fr0 0 1) 1 31) 2 122) 3 123) 4 124) 5 125) 6 126) 7 127) 8 128) 9 129) 10 (nI D)) 11 (nI (P 0 7))) 12 130) 13 131) 14 132) 15 133) 16 134) 17 A) 18 B) 19 (nI d)) 20 (nI k)) (fun k g => LW L xs g P (told P) a b ∧ PGs g P (told P)) (P 0 7) rfl ⟨H, G⟩ (fun k g hk1 hI => ?_) (fun g hI => ?_)
  · obtain ⟨H1, G1⟩ := hI
    have hb := H1.1.w.all
    have p0 := H1.2.2.2.2.2.2.2
    obtain ⟨g1, x, I1⟩ := c_lies H1.1 p0 hk1 hd
    have x1 : DX11_lies (sI (sI (sR fr0 0 31) 1 (nI k)) 2 (nI d)) g = some (nI (runN P (told P) d 2 k), g1) := x
    have H2 := H1.call I1
    have G2 := G1.call I1
    obtain ⟨g2, x, I2⟩ := c_left H2.1 p0 hk1 hd
    have x2 : DX11_left (sI (sI (sR fr0 0 31) 1 (nI k)) 2 (nI d)) g1 = some (nI (runN P (told P) d 3 k), g2) := x
    have H3 := H2.call I2
    have G3 := G2.call I2
    obtain ⟨g3, x, I3⟩ := c_heard H3.1 p0 hk1 hd
    have x3 : DX11_heard (sI (sI (sR fr0 0 31) 1 (nI k)) 2 (nI d)) g2 = some (nI (heard P (runN P (told P) d) k), g3) := x
    have H4 := H3.call I3
    have G4 := G3.call I3
    obtain ⟨g4, x4, H5, G5⟩ := x_l2 (D := D) (S := P 0 7) (A := A) (B := B) H4 G4 hd hk1
    refine ⟨g4, ?_, H5, G5⟩
    obtain ⟨-, -, -, -, -, -, ⟨-, k131a, -⟩, -⟩ := H2.2.2.1
    obtain ⟨-, -, -, -, -, -, ⟨-, k131b, -⟩, -⟩ := H3.2.2.1
    obtain ⟨⟨tf, t1, t2⟩, -, -, -, -, -, ⟨-, -, k132, -⟩, -⟩ := H4.2.2.1
    have kX1 : hk g 31 = (11, 0) := H1.1.co.koX
    have kX2 : hk g1 31 = (11, 0) := H2.1.co.koX
    have kX3 : hk g2 31 = (11, 0) := H3.1.co.koX
    obtain ⟨-, ⟨m, m1, m2, m3⟩, -⟩ := G2.1 d hd
    have a1 := x_lies (h := g1) m (s := k) (by omega) (by omega)
    rw [show m / 2 ^ (10 * k) % 16 = runN P (told P) d 2 k from (m3 k hk1).1] at a1
    obtain ⟨-, ⟨u, u1, u2, u3⟩, -⟩ := G3.1 d hd
    have a2 := x_left (h := g2) u (s := k) (by omega) (by omega)
    rw [show u / 2 ^ (10 * k + 4) % 64 = runN P (told P) d 3 k from (u3 k hk1).2] at a2
    obtain ⟨-, -, q⟩ := G4.1 d hd
    obtain ⟨w, w1, w2, w3⟩ := q k hk1
    have a3 : DL_heard (sL (sR fr0 0 124) 1 (lN w)) g3 = some (nI (heard P (runN P (told P) d) k), g3) := x_hrd (T := runN P (told P) d) (s := k) t1 t2.2.2.1 hb.2.2.2.1 (by omega) (fun x hx => w3 x (by omega))
    have i39 : 3 * d + k < 39 := by omega
    simp (maxSteps := 4000000) (disch := omega) only [ob_t, ob_n, ob_ite, e_cI, e_cL, e_cR, e_vI, e_vL, e_vR, e_d2, e_d2_a, e_d2_b, e_d2z, e_d2z_a, e_d2z_b, e_d1, e_d1_a, e_GI, e_GI_a, e_GL, e_GL_a, e_GR, e_GR_a, e_AI, e_AI_a, e_AI_b, e_AB, e_AB_a, e_AB_b, e_AZ, e_AZ_a, e_AZ_b, e_AL, e_AL_a, e_AL_b, e_AR, e_AR_a, e_AR_b, e_Len, e_Len_a, e_CI, e_CI_a, e_CI_b, e_CZ, e_CZ_a, e_And, e_kAnd, e_Or, e_kOr, e_Not, e_kNot, e_B, e_kB, e_T, e_kT, e_NN, e_kNN, e_NewA, e_NewA_a, e_NewC, e_kNewC, e_aN, e_aI, e_aI_a, e_aI_b, e_aL, e_aL_a, e_aL_b, e_aR, e_aR_a, e_aR_b, e_Call, e_kCall, e_CallV, e_kCallV, e_SetI, e_kSetI, e_SetL, e_kSetL, e_SetR, e_kSetR, e_Inc, e_Skip, e_Brk, e_Cnt, e_Ret, e_kRet, e_Ret0, e_Seq, e_kSeq0, e_kSeq1, e_kSeq2, e_kSeqR, e_If, e_kIf, e_Do, e_kDo, e_Sup, e_kN0, e_d3, e_k3a, e_k3b, e_k3c, e_P, e_kPa, e_kPb, e_UA, e_kUAa, e_kUAb, e_kUAc, e_UL, e_kULa, e_kULb, e_kULc, e_UF, e_kUFa, e_kUFb, e_Cp, e_kCp, e_Sw, e_kSwa, e_kSwb0, e_kSwb1, e_kSwbR, e_M1, e_kM1, e_MZ, e_kMZ, e_MN, e_kMN, e_Tv, e_kTv, e_Tc, e_kTc, e_lpS, e_kLp, e_kLpB0, e_kLpB1, e_kLpB2, e_kLpBR, e_kLpU, e_dwS, e_kDwB0, e_kDwC, f_II, f_LL, f_RR, f_IL, f_IR, f_LI, f_LR, f_RI, f_RL, o_iadd, o_isub, o_imul, o_iand, o_ior, o_ixor, o_ladd, o_lsub, o_lmul, o_land, o_lor, o_i2b, o_i2s, o_lneg, o_imax, o_imin, r_lt, r_le, r_gt, r_ge, r_eq, r_ne, q_lt, q_le, q_gt, q_ge, q_eq, q_ne, decide_eq_true_eq, idI, and_true, true_and, and_false, false_and, or_true, true_or, or_false, false_or, not_true_eq_false, not_false_eq_true, if_true, if_false, ite_self, Bool.not_true, Bool.not_false, Bool.false_eq_true, Bool.true_eq_false, decide_true, decide_false, ne_eq, reduceIte, Nat.reduceEqDiff, Option.some.injEq, Prod.mk.injEq, eq_self, n_inb, nI_clamp, w_hr, w_hk, w_hl, w_eq, w_ne, wl_hr, wl_hk, wl_hi, wl_eq, wl_ne, fa_lit, fa_litL, nI_add, pk_mul, nI_ltI, nI_leI, nI_eq, b01, b0, b1, Nat.reduceLeDiff, Nat.reduceAdd, Nat.reduceMul, Nat.reduceSub, Nat.lt_irrefl, Nat.reduceLT, f_ss, f_sR, f_sL, lc0, lc1, lc01, stI, stL, hk1, kX1, kX2, kX3, x1, x2, x3, k131a, k131b, k132, m1, a1, u1, a2, w1, a3, i39, x4]
  · have hb := hI.1.1.w.all
    refine lp_out ?_
    simp (maxSteps := 4000000) (disch := omega) only [ob_t, ob_n, ob_ite, e_cI, e_cL, e_cR, e_vI, e_vL, e_vR, e_d2, e_d2_a, e_d2_b, e_d2z, e_d2z_a, e_d2z_b, e_d1, e_d1_a, e_GI, e_GI_a, e_GL, e_GL_a, e_GR, e_GR_a, e_AI, e_AI_a, e_AI_b, e_AB, e_AB_a, e_AB_b, e_AZ, e_AZ_a, e_AZ_b, e_AL, e_AL_a, e_AL_b, e_AR, e_AR_a, e_AR_b, e_Len, e_Len_a, e_CI, e_CI_a, e_CI_b, e_CZ, e_CZ_a, e_And, e_kAnd, e_Or, e_kOr, e_Not, e_kNot, e_B, e_kB, e_T, e_kT, e_NN, e_kNN, e_NewA, e_NewA_a, e_NewC, e_kNewC, e_aN, e_aI, e_aI_a, e_aI_b, e_aL, e_aL_a, e_aL_b, e_aR, e_aR_a, e_aR_b, e_Call, e_kCall, e_CallV, e_kCallV, e_SetI, e_kSetI, e_SetL, e_kSetL, e_SetR, e_kSetR, e_Inc, e_Skip, e_Brk, e_Cnt, e_Ret, e_kRet, e_Ret0, e_Seq, e_kSeq0, e_kSeq1, e_kSeq2, e_kSeqR, e_If, e_kIf, e_Do, e_kDo, e_Sup, e_kN0, e_d3, e_k3a, e_k3b, e_k3c, e_P, e_kPa, e_kPb, e_UA, e_kUAa, e_kUAb, e_kUAc, e_UL, e_kULa, e_kULb, e_kULc, e_UF, e_kUFa, e_kUFb, e_Cp, e_kCp, e_Sw, e_kSwa, e_kSwb0, e_kSwb1, e_kSwbR, e_M1, e_kM1, e_MZ, e_kMZ, e_MN, e_kMN, e_Tv, e_kTv, e_Tc, e_kTc, e_lpS, e_kLp, e_kLpB0, e_kLpB1, e_kLpB2, e_kLpBR, e_kLpU, e_dwS, e_kDwB0, e_kDwC, f_II, f_LL, f_RR, f_IL, f_IR, f_LI, f_LR, f_RI, f_RL, o_iadd, o_isub, o_imul, o_iand, o_ior, o_ixor, o_ladd, o_lsub, o_lmul, o_land, o_lor, o_i2b, o_i2s, o_lneg, o_imax, o_imin, r_lt, r_le, r_gt, r_ge, r_eq, r_ne, q_lt, q_le, q_gt, q_ge, q_eq, q_ne, decide_eq_true_eq, idI, and_true, true_and, and_false, false_and, or_true, true_or, or_false, false_or, not_true_eq_false, not_false_eq_true, if_true, if_false, ite_self, Bool.not_true, Bool.not_false, Bool.false_eq_true, Bool.true_eq_false, decide_true, decide_false, ne_eq, reduceIte, Nat.reduceEqDiff, Option.some.injEq, Prod.mk.injEq, eq_self, n_inb, nI_clamp, w_hr, w_hk, w_hl, w_eq, w_ne, wl_hr, wl_hk, wl_hi, wl_eq, wl_ne, fa_lit, fa_litL, nI_add, pk_mul, nI_ltI, nI_leI, nI_eq, b01, b0, b1, Nat.reduceLeDiff, Nat.reduceAdd, Nat.reduceMul, Nat.reduceSub, Nat.lt_irrefl, Nat.reduceLT, f_ss, f_sR, f_sL, lc0, lc1, lc01, stI, stL, ]
end
