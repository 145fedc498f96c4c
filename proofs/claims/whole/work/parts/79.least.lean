set_option maxRecDepth 100000
set_option maxHeartbeats 1000000
section
variable {h : St} {p q : Nat} {P : PT} {D : Nat → Nat}
theorem x_lc1 (hq : hk h q = (4, 0)) (hq0 : hr h q 0 = q + 1) (hk1 : hk h (q + 1) = (13, 8)) (hR : CR h (q + 1) D) (hG : PG h p P) (hd : ∀ j, j < 16 → ¬ p + j = q + 1) (hM : ∀ k, D k ≤ 10000) {a b t : Int32} (w5 : Int32) : ∃ g, LX4_leastClimb_1 (sI (sI (sI (sI (sR (sR fr0 0 q) 1 p) 2 a) 3 b) 4 t) 5 (nI 0)) h = some (.inl 0, sI (sI (sI (sI (sR (sR fr0 0 q) 1 p) 2 a) 3 b) 4 t) 5 (nI (P 0 5)), g) ∧ CR g (q + 1) (rdN P D (P 0 5)) ∧ Ch (fun o => o = q + 1) h g := by
  have hW := hG.w
  have hb := hW.all
  have hw := hW.2.2.2.2.2.2.2.2.2.2.2.2.2.2.2.2.1
  unfold LX4_leastClimb_1
  refine loop_g (fun k => sI (sI (sI (sI (sR (sR fr0 0 q) 1 p) 2 a) 3 b) 4 t) 5 (nI k)) (fun k g => CR g (q + 1) (rdN P D k) ∧ Ch (fun o => o = q + 1) h g) (P 0 5) rfl ⟨hR, Ch.rf _ h⟩ (fun k g hkk hI => ?_) (fun g hI => ?_)
  · obtain ⟨hRg, hc⟩ := hI
    have hGg := hG.ch hc hd
    have hP := hGg.s
    have e1 := hGg.r.sc (k := 5) (by decide)
    have e2 := RP.wfrom hGg.s hGg.r hGg.w hkk
    have e3 := RP.wto hGg.s hGg.r hGg.w hkk
    have h1 := hw k hkk
    have bd := rdN_bd hW hM k (by omega)
    obtain ⟨g1, a1, b1, c1⟩ := x_improve (by rw [hc.1.2.1]; exact hq) (by rw [hc.1.1]; exact hq0) (by rw [hc.1.2.1]; exact hk1) hRg hGg h1.1 h1.2.1 (fun i _ => by have := bd i; omega)
    have hc1 := hc.tr c1
    have hG1 := hG.ch hc1 hd
    have e4 := RP.wfrom hG1.s hG1.r hG1.w hkk
    have e5 := RP.wto hG1.s hG1.r hG1.w hkk
    have bd1 := imp_bd (x := P 2 k) hW h1.2.1 bd
    obtain ⟨g2, a2, b2, c2⟩ := x_improve (by rw [hc1.1.2.1]; exact hq) (by rw [hc1.1.1]; exact hq0) (by rw [hc1.1.2.1]; exact hk1) b1 hG1 h1.2.1 h1.1 (fun i _ => by have := bd1 i; omega)
    refine ⟨g2, ?_, b2, hc1.tr c2⟩
    simp (disch := omega) only [ob_t, ob_n, ob_ite, e_cI, e_cL, e_cR, e_vI, e_vL, e_vR, e_d2, e_d2_a, e_d2_b, e_d2z, e_d2z_a, e_d2z_b, e_d1, e_d1_a, e_GI, e_GI_a, e_GL, e_GL_a, e_GR, e_GR_a, e_AI, e_AI_a, e_AI_b, e_AB, e_AB_a, e_AB_b, e_AZ, e_AZ_a, e_AZ_b, e_AL, e_AL_a, e_AL_b, e_AR, e_AR_a, e_AR_b, e_Len, e_Len_a, e_CI, e_CI_a, e_CI_b, e_CZ, e_CZ_a, e_And, e_kAnd, e_Or, e_kOr, e_Not, e_kNot, e_B, e_kB, e_T, e_kT, e_NN, e_kNN, e_NewA, e_NewA_a, e_NewC, e_kNewC, e_aN, e_aI, e_aI_a, e_aI_b, e_aL, e_aL_a, e_aL_b, e_aR, e_aR_a, e_aR_b, e_Call, e_kCall, e_CallV, e_kCallV, e_SetI, e_kSetI, e_SetL, e_kSetL, e_SetR, e_kSetR, e_Inc, e_Skip, e_Brk, e_Cnt, e_Ret, e_kRet, e_Ret0, e_Seq, e_kSeq0, e_kSeq1, e_kSeq2, e_kSeqR, e_If, e_kIf, e_Do, e_kDo, e_Sup, e_kN0, e_d3, e_k3a, e_k3b, e_k3c, e_P, e_kPa, e_kPb, e_UA, e_kUAa, e_kUAb, e_kUAc, e_UL, e_kULa, e_kULb, e_kULc, e_UF, e_kUFa, e_kUFb, e_Cp, e_kCp, e_Sw, e_kSwa, e_kSwb0, e_kSwb1, e_kSwbR, e_M1, e_kM1, e_MZ, e_kMZ, e_MN, e_kMN, e_Tv, e_kTv, e_Tc, e_kTc, e_lpS, e_kLp, e_kLpB0, e_kLpB1, e_kLpB2, e_kLpBR, e_kLpU, e_dwS, e_kDwB0, e_kDwC, f_II, f_LL, f_RR, f_IL, f_IR, f_LI, f_LR, f_RI, f_RL, o_iadd, o_isub, o_imul, o_iand, o_ior, o_ixor, o_ladd, o_lsub, o_lmul, o_land, o_lor, o_ishl, o_ishr, o_iushr, o_lshl, o_lcmp, o_i2l, o_l2i, o_i2b, o_i2s, o_lneg, o_imax, o_imin, o_idiv, o_irem, o_ldiv, o_lrem, r_lt, r_le, r_gt, r_ge, r_eq, r_ne, q_lt, q_le, q_gt, q_ge, q_eq, q_ne, decide_eq_true_eq, idI, and_true, true_and, and_false, false_and, or_true, true_or, or_false, false_or, not_true_eq_false, not_false_eq_true, if_true, if_false, ite_self, Bool.not_true, Bool.not_false, Bool.false_eq_true, Bool.true_eq_false, decide_true, decide_false, ne_eq, reduceIte, Nat.reduceEqDiff, Option.some.injEq, Prod.mk.injEq, eq_self, fa_lit, nI_add, pk_mul, nI_ltI, nI_leI, nI_eq, b01, b0, b1, x_hasBit, Nat.reduceLeDiff, Nat.reduceAdd, Nat.reduceMul, Nat.reduceSub, Nat.lt_irrefl, Nat.reduceLT, hP.k, hP.k9, hP.r8, hP.r9, hP.r10, hP.r11, hP.r12, hP.r13, hP.r14, hP.r15, hP.r16, hP.c3, hP.c4, hP.c5, hP.c6, hP.c7, hP.c8, e1, e2, e3, e4, e5, hkk, a1, a2, hc.1.1, hc.1.2.1, hq, c1.1.1, c1.1.2.1]
  · obtain ⟨hRg, hc⟩ := hI
    have hGg := hG.ch hc hd
    have hP := hGg.s
    have e1 := hGg.r.sc (k := 5) (by decide)
    simp (disch := omega) only [ob_t, ob_n, ob_ite, e_cI, e_cL, e_cR, e_vI, e_vL, e_vR, e_d2, e_d2_a, e_d2_b, e_d2z, e_d2z_a, e_d2z_b, e_d1, e_d1_a, e_GI, e_GI_a, e_GL, e_GL_a, e_GR, e_GR_a, e_AI, e_AI_a, e_AI_b, e_AB, e_AB_a, e_AB_b, e_AZ, e_AZ_a, e_AZ_b, e_AL, e_AL_a, e_AL_b, e_AR, e_AR_a, e_AR_b, e_Len, e_Len_a, e_CI, e_CI_a, e_CI_b, e_CZ, e_CZ_a, e_And, e_kAnd, e_Or, e_kOr, e_Not, e_kNot, e_B, e_kB, e_T, e_kT, e_NN, e_kNN, e_NewA, e_NewA_a, e_NewC, e_kNewC, e_aN, e_aI, e_aI_a, e_aI_b, e_aL, e_aL_a, e_aL_b, e_aR, e_aR_a, e_aR_b, e_Call, e_kCall, e_CallV, e_kCallV, e_SetI, e_kSetI, e_SetL, e_kSetL, e_SetR, e_kSetR, e_Inc, e_Skip, e_Brk, e_Cnt, e_Ret, e_kRet, e_Ret0, e_Seq, e_kSeq0, e_kSeq1, e_kSeq2, e_kSeqR, e_If, e_kIf, e_Do, e_kDo, e_Sup, e_kN0, e_d3, e_k3a, e_k3b, e_k3c, e_P, e_kPa, e_kPb, e_UA, e_kUAa, e_kUAb, e_kUAc, e_UL, e_kULa, e_kULb, e_kULc, e_UF, e_kUFa, e_kUFb, e_Cp, e_kCp, e_Sw, e_kSwa, e_kSwb0, e_kSwb1, e_kSwbR, e_M1, e_kM1, e_MZ, e_kMZ, e_MN, e_kMN, e_Tv, e_kTv, e_Tc, e_kTc, e_lpS, e_kLp, e_kLpB0, e_kLpB1, e_kLpB2, e_kLpBR, e_kLpU, e_dwS, e_kDwB0, e_kDwC, f_II, f_LL, f_RR, f_IL, f_IR, f_LI, f_LR, f_RI, f_RL, o_iadd, o_isub, o_imul, o_iand, o_ior, o_ixor, o_ladd, o_lsub, o_lmul, o_land, o_lor, o_ishl, o_ishr, o_iushr, o_lshl, o_lcmp, o_i2l, o_l2i, o_i2b, o_i2s, o_lneg, o_imax, o_imin, o_idiv, o_irem, o_ldiv, o_lrem, r_lt, r_le, r_gt, r_ge, r_eq, r_ne, q_lt, q_le, q_gt, q_ge, q_eq, q_ne, decide_eq_true_eq, idI, and_true, true_and, and_false, false_and, or_true, true_or, or_false, false_or, not_true_eq_false, not_false_eq_true, if_true, if_false, ite_self, Bool.not_true, Bool.not_false, Bool.false_eq_true, Bool.true_eq_false, decide_true, decide_false, ne_eq, reduceIte, Nat.reduceEqDiff, Option.some.injEq, Prod.mk.injEq, eq_self, fa_lit, nI_add, pk_mul, nI_ltI, nI_leI, nI_eq, b01, b0, b1, x_hasBit, Nat.reduceLeDiff, Nat.reduceAdd, Nat.reduceMul, Nat.reduceSub, Nat.lt_irrefl, Nat.reduceLT, hP.k, hP.k9, hP.r8, hP.r9, hP.r10, hP.r11, hP.r12, hP.r13, hP.r14, hP.r15, hP.r16, hP.c3, hP.c4, hP.c5, hP.c6, hP.c7, hP.c8, e1]
end
