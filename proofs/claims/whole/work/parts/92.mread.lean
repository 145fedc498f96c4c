set_option maxRecDepth 100000
set_option maxHeartbeats 1000000
/-! the model's reads of the Port in slot 0 -/
def MG (h : St) (m : Nat) (P : PT) : Prop := MS h m ∧ MP h m 0 P ∧ WFP P
section
variable {h : St} {m : Nat} {P : PT}
theorem MG.s (H : MG h m P) : MS h m := H.1
theorem MG.p (H : MG h m P) : MP h m 0 P := H.2.1
theorem MG.w (H : MG h m P) : WFP P := H.2.2
theorem MG.has (H : MG h m P) {w : Nat} (hw : w < 9) : hi h (m + 7) w = nI (hsP P w) := by
  have := H.2.1.2.1 w hw
  rw [show 9 * 0 + w = w by omega] at this
  exact this
theorem m_houses (H : MG h m P) : DX12_houses (sR fr0 0 m) h = some (nI (P 0 4), h) := by
  have hM := H.s
  have e1 : hi h (m + 7) 3 = nI (P 0 4) := H.has (by decide)
  simp (disch := omega) only [DX12_houses, BX12_houses, ob_t, ob_n, ob_ite, e_cI, e_cL, e_cR, e_vI, e_vL, e_vR, e_d2, e_d2_a, e_d2_b, e_d2z, e_d2z_a, e_d2z_b, e_d1, e_d1_a, e_GI, e_GI_a, e_GL, e_GL_a, e_GR, e_GR_a, e_AI, e_AI_a, e_AI_b, e_AB, e_AB_a, e_AB_b, e_AZ, e_AZ_a, e_AZ_b, e_AL, e_AL_a, e_AL_b, e_AR, e_AR_a, e_AR_b, e_Len, e_Len_a, e_CI, e_CI_a, e_CI_b, e_CZ, e_CZ_a, e_And, e_kAnd, e_Or, e_kOr, e_Not, e_kNot, e_B, e_kB, e_T, e_kT, e_NN, e_kNN, e_NewA, e_NewA_a, e_NewC, e_kNewC, e_aN, e_aI, e_aI_a, e_aI_b, e_aL, e_aL_a, e_aL_b, e_aR, e_aR_a, e_aR_b, e_Call, e_kCall, e_CallV, e_kCallV, e_SetI, e_kSetI, e_SetL, e_kSetL, e_SetR, e_kSetR, e_Inc, e_Skip, e_Brk, e_Cnt, e_Ret, e_kRet, e_Ret0, e_Seq, e_kSeq0, e_kSeq1, e_kSeq2, e_kSeqR, e_If, e_kIf, e_Do, e_kDo, e_Sup, e_kN0, e_d3, e_k3a, e_k3b, e_k3c, e_P, e_kPa, e_kPb, e_UA, e_kUAa, e_kUAb, e_kUAc, e_UL, e_kULa, e_kULb, e_kULc, e_UF, e_kUFa, e_kUFb, e_Cp, e_kCp, e_Sw, e_kSwa, e_kSwb0, e_kSwb1, e_kSwbR, e_M1, e_kM1, e_MZ, e_kMZ, e_MN, e_kMN, e_Tv, e_kTv, e_Tc, e_kTc, e_lpS, e_kLp, e_kLpB0, e_kLpB1, e_kLpB2, e_kLpBR, e_kLpU, e_dwS, e_kDwB0, e_kDwC, f_II, f_LL, f_RR, f_IL, f_IR, f_LI, f_LR, f_RI, f_RL, o_iadd, o_isub, o_imul, o_iand, o_ior, o_ixor, o_ladd, o_lsub, o_lmul, o_land, o_lor, o_ishl, o_ishr, o_iushr, o_lshl, o_lcmp, o_i2l, o_l2i, o_i2b, o_i2s, o_lneg, o_imax, o_imin, o_idiv, o_irem, o_ldiv, o_lrem, r_lt, r_le, r_gt, r_ge, r_eq, r_ne, q_lt, q_le, q_gt, q_ge, q_eq, q_ne, decide_eq_true_eq, idI, and_true, true_and, and_false, false_and, or_true, true_or, or_false, false_or, not_true_eq_false, not_false_eq_true, if_true, if_false, ite_self, Bool.not_true, Bool.not_false, Bool.false_eq_true, Bool.true_eq_false, decide_true, decide_false, ne_eq, reduceIte, Nat.reduceEqDiff, Option.some.injEq, Prod.mk.injEq, eq_self, fa_lit, nI_add, pk_mul, nI_ltI, nI_leI, nI_eq, b01, b0, b1, x_hasBit, Nat.reduceLeDiff, Nat.reduceAdd, Nat.reduceMul, Nat.reduceSub, Nat.lt_irrefl, Nat.reduceLT, n_inb, nI_clamp, w_hr, w_hk, w_hl, w_eq, w_ne, wl_hr, wl_hk, wl_hi, wl_eq, wl_ne, hM.k, hM.k1, hM.k2, hM.k3, hM.k4, hM.k5, hM.k6, hM.k7, hM.k8, hM.k9, hM.k10, hM.k11, hM.k12, hM.k13, hM.k14, hM.k15, hM.k16, hM.k17, hM.k18, hM.k19, hM.k20, hM.k21, hM.k22, hM.k23, hM.k24, hM.k25, hM.k26, hM.k27, hM.k28, hM.k29, hM.k30, hM.k31, hM.k32, hM.k33, hM.k34, hM.k35, hM.r1, hM.r2, hM.r3, hM.r4, hM.r5, hM.r16, hM.r17, hM.r18, hM.r19, hM.r20, hM.r21, hM.r22, hM.r23, hM.r24, hM.r25, hM.r26, hM.r31, hM.r32, hM.r33, hM.r34, hM.r35, hM.r36, hM.r37, hM.r38, hM.r39, hM.r40, hM.r41, hM.r42, hM.r43, hM.r44, hM.r47, hM.r48, hM.r49, hM.r50, hM.r54, e1]
end
