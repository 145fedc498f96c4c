set_option maxRecDepth 100000
set_option maxHeartbeats 1000000
/-! the text of a PORT: the class reads a LINE into its draft, on: a SLATE; any LINE -/
section
variable {B : Nat → Int32} {n p : Nat} {h g : St} {P : PT}
def slF (s w : Nat) : Fr := sI (sI (sR (sR (sR fr0 0 34) 1 32) 2 oQ) 3 (nI s)) 4 (nI w)
def slC (f : Fr) : Fr := sI (sI (sR (sR (sR fr0 0 (gR f 0)) 1 (gR f 1)) 2 (gR f 2)) 3 (gI f 3)) 4 (gI f 4)
noncomputable def slCd : Cd := dAnd (dAnd (dCZ q_eq (dGI 6 0 (vR 0))) (dCI r_le (vI 4) (cI 6))) (dOr (dCZ q_eq (vI 4)) (dCZ q_ne (dCallV 9 DX9_isAt (aR (aR aN 0 (vR 1)) 1 (cR 14)))))
noncomputable def slB : Sm Int32 := dSeq (dIf (dNot (dCZ q_ne (dCallV 6 DX6_hasRoom (aI (aI (aR (aR aN 0 (vR 0)) 1 (vR 1)) 2 (vI 4)) 3 (cI 6))))) (dRet (cI 0)) dSkip) (dSeq (dDo (dCall DX11_put (aI (aI (aR aN 0 (dGR 5 15 (vR 2))) 1 (d2 o_iadd (d2 o_imul (vI 3) (cI 6)) (vI 4))) 2 (dCallV 6 DX6_readAmount (aI (aI (aR (aR (aR aN 0 (vR 0)) 1 (vR 1)) 2 (cR 14)) 3 (cI 1)) 4 (cI 30)))))) (dInc 4 1))
theorem sl_in (H : CRd B n p h) {s w : Nat} (hw : w ≤ 6) (hin : w = 0 ∨ isW B n p 11 = true) : slCd (slF s w) h = some (true, h) := by
  have hO := H.1.1.1
  have f0 := H.2.2.1
  have e1 : (nI w ≤ nI 6) = True := by rw [nI_leI (by omega) (by decide)]; exact eq_true hw
  have x1 := c_isAt H.1 H.2.1 (j := 11) (i := 14) (by decide) rfl
  unfold slCd slF
  by_cases z : w = 0
  · have e2 : (nI w = nI 0) = True := eq_true (by rw [z])
    simp (disch := omega) only [nI_n10, ob_t, ob_n, ob_ite, e_cI, e_cL, e_cR, e_vI, e_vL, e_vR, e_d2, e_d2_a, e_d2_b, e_d2z, e_d2z_a, e_d2z_b, e_d1, e_d1_a, e_GI, e_GI_a, e_GL, e_GL_a, e_GR, e_GR_a, e_AI, e_AI_a, e_AI_b, e_AB, e_AB_a, e_AB_b, e_AZ, e_AZ_a, e_AZ_b, e_AL, e_AL_a, e_AL_b, e_AR, e_AR_a, e_AR_b, e_Len, e_Len_a, e_CI, e_CI_a, e_CI_b, e_CZ, e_CZ_a, e_And, e_kAnd, e_Or, e_kOr, e_Not, e_kNot, e_B, e_kB, e_T, e_kT, e_NN, e_kNN, e_NewA, e_NewA_a, e_NewC, e_kNewC, e_aN, e_aI, e_aI_a, e_aI_b, e_aL, e_aL_a, e_aL_b, e_aR, e_aR_a, e_aR_b, e_Call, e_kCall, e_CallV, e_kCallV, e_SetI, e_kSetI, e_SetL, e_kSetL, e_SetR, e_kSetR, e_Inc, e_Skip, e_Brk, e_Cnt, e_Ret, e_kRet, e_Ret0, e_Seq, e_kSeq0, e_kSeq1, e_kSeq2, e_kSeqR, e_If, e_kIf, e_Do, e_kDo, e_Sup, e_kN0, e_d3, e_k3a, e_k3b, e_k3c, e_P, e_kPa, e_kPb, e_UA, e_kUAa, e_kUAb, e_kUAc, e_UL, e_kULa, e_kULb, e_kULc, e_UF, e_kUFa, e_kUFb, e_Cp, e_kCp, e_Sw, e_kSwa, e_kSwb0, e_kSwb1, e_kSwbR, e_M1, e_kM1, e_MZ, e_kMZ, e_MN, e_kMN, e_Tv, e_kTv, e_Tc, e_kTc, e_lpS, e_kLp, e_kLpB0, e_kLpB1, e_kLpB2, e_kLpBR, e_kLpU, e_dwS, e_kDwB0, e_kDwC, f_II, f_LL, f_RR, f_IL, f_IR, f_LI, f_LR, f_RI, f_RL, and_true, true_and, and_false, false_and, or_true, true_or, or_false, false_or, not_true_eq_false, not_false_eq_true, if_true, if_false, ite_self, Bool.not_true, Bool.not_false, Bool.false_eq_true, Bool.true_eq_false, decide_true, decide_false, ne_eq, reduceIte, Nat.reduceEqDiff, Option.some.injEq, Prod.mk.injEq, eq_self, r_lt, r_le, r_gt, r_ge, r_eq, r_ne, q_lt, q_le, q_gt, q_ge, q_eq, q_ne, decide_eq_true_eq, b01, b0, b1, o_iadd, o_imul, n_inb, nI_clamp, w_hr, w_hk, w_hl, w_eq, w_ne, wl_hr, wl_hk, wl_hi, wl_eq, wl_ne, stI, fI, f_ss, f_sR, f_sL, lc0, lc1, lc01, fa_lit, hO.k34, f0, e1, e2]
  · have e2 : (nI w = nI 0) = False := by rw [nI_eq (by omega) (by decide)]; exact eq_false z
    rw [if_pos (hin.resolve_left z)] at x1
    simp (disch := omega) only [nI_n10, ob_t, ob_n, ob_ite, e_cI, e_cL, e_cR, e_vI, e_vL, e_vR, e_d2, e_d2_a, e_d2_b, e_d2z, e_d2z_a, e_d2z_b, e_d1, e_d1_a, e_GI, e_GI_a, e_GL, e_GL_a, e_GR, e_GR_a, e_AI, e_AI_a, e_AI_b, e_AB, e_AB_a, e_AB_b, e_AZ, e_AZ_a, e_AZ_b, e_AL, e_AL_a, e_AL_b, e_AR, e_AR_a, e_AR_b, e_Len, e_Len_a, e_CI, e_CI_a, e_CI_b, e_CZ, e_CZ_a, e_And, e_kAnd, e_Or, e_kOr, e_Not, e_kNot, e_B, e_kB, e_T, e_kT, e_NN, e_kNN, e_NewA, e_NewA_a, e_NewC, e_kNewC, e_aN, e_aI, e_aI_a, e_aI_b, e_aL, e_aL_a, e_aL_b, e_aR, e_aR_a, e_aR_b, e_Call, e_kCall, e_CallV, e_kCallV, e_SetI, e_kSetI, e_SetL, e_kSetL, e_SetR, e_kSetR, e_Inc, e_Skip, e_Brk, e_Cnt, e_Ret, e_kRet, e_Ret0, e_Seq, e_kSeq0, e_kSeq1, e_kSeq2, e_kSeqR, e_If, e_kIf, e_Do, e_kDo, e_Sup, e_kN0, e_d3, e_k3a, e_k3b, e_k3c, e_P, e_kPa, e_kPb, e_UA, e_kUAa, e_kUAb, e_kUAc, e_UL, e_kULa, e_kULb, e_kULc, e_UF, e_kUFa, e_kUFb, e_Cp, e_kCp, e_Sw, e_kSwa, e_kSwb0, e_kSwb1, e_kSwbR, e_M1, e_kM1, e_MZ, e_kMZ, e_MN, e_kMN, e_Tv, e_kTv, e_Tc, e_kTc, e_lpS, e_kLp, e_kLpB0, e_kLpB1, e_kLpB2, e_kLpBR, e_kLpU, e_dwS, e_kDwB0, e_kDwC, f_II, f_LL, f_RR, f_IL, f_IR, f_LI, f_LR, f_RI, f_RL, and_true, true_and, and_false, false_and, or_true, true_or, or_false, false_or, not_true_eq_false, not_false_eq_true, if_true, if_false, ite_self, Bool.not_true, Bool.not_false, Bool.false_eq_true, Bool.true_eq_false, decide_true, decide_false, ne_eq, reduceIte, Nat.reduceEqDiff, Option.some.injEq, Prod.mk.injEq, eq_self, r_lt, r_le, r_gt, r_ge, r_eq, r_ne, q_lt, q_le, q_gt, q_ge, q_eq, q_ne, decide_eq_true_eq, b01, b0, b1, o_iadd, o_imul, n_inb, nI_clamp, w_hr, w_hk, w_hl, w_eq, w_ne, wl_hr, wl_hk, wl_hi, wl_eq, wl_ne, stI, fI, f_ss, f_sR, f_sL, lc0, lc1, lc01, fa_lit, hO.k34, hO.k32, f0, e1, e2, x1]
theorem sl_out (H : CRd B n p h) {s w : Nat} (hw : w ≤ 6) (hw0 : w ≠ 0) (hin : ¬ isW B n p 11 = true) : slCd (slF s w) h = some (false, h) := by
  have hO := H.1.1.1
  have f0 := H.2.2.1
  have e1 : (nI w ≤ nI 6) = True := by rw [nI_leI (by omega) (by decide)]; exact eq_true hw
  have x1 := c_isAt H.1 H.2.1 (j := 11) (i := 14) (by decide) rfl
  have e2 : (nI w = nI 0) = False := by rw [nI_eq (by omega) (by decide)]; exact eq_false hw0
  unfold slCd slF
  rw [if_neg hin] at x1
  simp (disch := omega) only [nI_n10, ob_t, ob_n, ob_ite, e_cI, e_cL, e_cR, e_vI, e_vL, e_vR, e_d2, e_d2_a, e_d2_b, e_d2z, e_d2z_a, e_d2z_b, e_d1, e_d1_a, e_GI, e_GI_a, e_GL, e_GL_a, e_GR, e_GR_a, e_AI, e_AI_a, e_AI_b, e_AB, e_AB_a, e_AB_b, e_AZ, e_AZ_a, e_AZ_b, e_AL, e_AL_a, e_AL_b, e_AR, e_AR_a, e_AR_b, e_Len, e_Len_a, e_CI, e_CI_a, e_CI_b, e_CZ, e_CZ_a, e_And, e_kAnd, e_Or, e_kOr, e_Not, e_kNot, e_B, e_kB, e_T, e_kT, e_NN, e_kNN, e_NewA, e_NewA_a, e_NewC, e_kNewC, e_aN, e_aI, e_aI_a, e_aI_b, e_aL, e_aL_a, e_aL_b, e_aR, e_aR_a, e_aR_b, e_Call, e_kCall, e_CallV, e_kCallV, e_SetI, e_kSetI, e_SetL, e_kSetL, e_SetR, e_kSetR, e_Inc, e_Skip, e_Brk, e_Cnt, e_Ret, e_kRet, e_Ret0, e_Seq, e_kSeq0, e_kSeq1, e_kSeq2, e_kSeqR, e_If, e_kIf, e_Do, e_kDo, e_Sup, e_kN0, e_d3, e_k3a, e_k3b, e_k3c, e_P, e_kPa, e_kPb, e_UA, e_kUAa, e_kUAb, e_kUAc, e_UL, e_kULa, e_kULb, e_kULc, e_UF, e_kUFa, e_kUFb, e_Cp, e_kCp, e_Sw, e_kSwa, e_kSwb0, e_kSwb1, e_kSwbR, e_M1, e_kM1, e_MZ, e_kMZ, e_MN, e_kMN, e_Tv, e_kTv, e_Tc, e_kTc, e_lpS, e_kLp, e_kLpB0, e_kLpB1, e_kLpB2, e_kLpBR, e_kLpU, e_dwS, e_kDwB0, e_kDwC, f_II, f_LL, f_RR, f_IL, f_IR, f_LI, f_LR, f_RI, f_RL, and_true, true_and, and_false, false_and, or_true, true_or, or_false, false_or, not_true_eq_false, not_false_eq_true, if_true, if_false, ite_self, Bool.not_true, Bool.not_false, Bool.false_eq_true, Bool.true_eq_false, decide_true, decide_false, ne_eq, reduceIte, Nat.reduceEqDiff, Option.some.injEq, Prod.mk.injEq, eq_self, r_lt, r_le, r_gt, r_ge, r_eq, r_ne, q_lt, q_le, q_gt, q_ge, q_eq, q_ne, decide_eq_true_eq, b01, b0, b1, o_iadd, o_imul, n_inb, nI_clamp, w_hr, w_hk, w_hl, w_eq, w_ne, wl_hr, wl_hk, wl_hi, wl_eq, wl_ne, stI, fI, f_ss, f_sR, f_sL, lc0, lc1, lc01, fa_lit, hO.k34, hO.k32, f0, e1, e2, x1]
theorem sl_bad {e : Nat × Nat} (hO : CO h) (K : CFl e h) {s w : Nat} : slCd (slF s w) h = some (false, h) := by
  obtain ⟨y0, f5, f6⟩ := K.ne
  unfold slCd slF
  simp (disch := omega) only [nI_n10, ob_t, ob_n, ob_ite, e_cI, e_cL, e_cR, e_vI, e_vL, e_vR, e_d2, e_d2_a, e_d2_b, e_d2z, e_d2z_a, e_d2z_b, e_d1, e_d1_a, e_GI, e_GI_a, e_GL, e_GL_a, e_GR, e_GR_a, e_AI, e_AI_a, e_AI_b, e_AB, e_AB_a, e_AB_b, e_AZ, e_AZ_a, e_AZ_b, e_AL, e_AL_a, e_AL_b, e_AR, e_AR_a, e_AR_b, e_Len, e_Len_a, e_CI, e_CI_a, e_CI_b, e_CZ, e_CZ_a, e_And, e_kAnd, e_Or, e_kOr, e_Not, e_kNot, e_B, e_kB, e_T, e_kT, e_NN, e_kNN, e_NewA, e_NewA_a, e_NewC, e_kNewC, e_aN, e_aI, e_aI_a, e_aI_b, e_aL, e_aL_a, e_aL_b, e_aR, e_aR_a, e_aR_b, e_Call, e_kCall, e_CallV, e_kCallV, e_SetI, e_kSetI, e_SetL, e_kSetL, e_SetR, e_kSetR, e_Inc, e_Skip, e_Brk, e_Cnt, e_Ret, e_kRet, e_Ret0, e_Seq, e_kSeq0, e_kSeq1, e_kSeq2, e_kSeqR, e_If, e_kIf, e_Do, e_kDo, e_Sup, e_kN0, e_d3, e_k3a, e_k3b, e_k3c, e_P, e_kPa, e_kPb, e_UA, e_kUAa, e_kUAb, e_kUAc, e_UL, e_kULa, e_kULb, e_kULc, e_UF, e_kUFa, e_kUFb, e_Cp, e_kCp, e_Sw, e_kSwa, e_kSwb0, e_kSwb1, e_kSwbR, e_M1, e_kM1, e_MZ, e_kMZ, e_MN, e_kMN, e_Tv, e_kTv, e_Tc, e_kTc, e_lpS, e_kLp, e_kLpB0, e_kLpB1, e_kLpB2, e_kLpBR, e_kLpU, e_dwS, e_kDwB0, e_kDwC, f_II, f_LL, f_RR, f_IL, f_IR, f_LI, f_LR, f_RI, f_RL, and_true, true_and, and_false, false_and, or_true, true_or, or_false, false_or, not_true_eq_false, not_false_eq_true, if_true, if_false, ite_self, Bool.not_true, Bool.not_false, Bool.false_eq_true, Bool.true_eq_false, decide_true, decide_false, ne_eq, reduceIte, Nat.reduceEqDiff, Option.some.injEq, Prod.mk.injEq, eq_self, r_lt, r_le, r_gt, r_ge, r_eq, r_ne, q_lt, q_le, q_gt, q_ge, q_eq, q_ne, decide_eq_true_eq, b01, b0, b1, o_iadd, o_imul, n_inb, nI_clamp, w_hr, w_hk, w_hl, w_eq, w_ne, wl_hr, wl_hk, wl_hi, wl_eq, wl_ne, stI, fI, f_ss, f_sR, f_sL, lc0, lc1, lc01, fa_lit, hO.k34, f5, f6]
/-- a WORD read into the draft -/
theorem sl_one (H : CRd B n p h) (hP : PS h oQ) {D : Nat → Nat → Prop} (R : RPc D h P) {s w : Nat} (hs : s < 3) (hw : w < 6) : ∃ g, slB (slF s w) h = some (.inl 0, slF s (w + 1), g) ∧ Ch cqD h g ∧ ((∃ v p', pA B n 11 1 31 p = .inr (v, p') ∧ CRd B n p' g ∧ RPc (fun a b => D a b ∨ (a = 8 ∧ b = 6 * s + w)) g (up P 8 (6 * s + w) v)) ∨ ∃ e, pA B n 11 1 31 p = .inl e ∧ CFl e g) := by
  have hO := H.1.1.1
  have hcc := oQ_is
  obtain ⟨g0, r0, x0, c0, K0⟩ := cr_room H (c := w) (m := 6) (by omega) (by decide)
  obtain ⟨-, rfl, rfl⟩ | ⟨z, -, -⟩ := K0
  · obtain ⟨g2, r, x2, c2, K2⟩ := cr_am H (j := 11) (i := 14) (lo := 1) (top := 31) (x := nI 30) (by decide) rfl (by decide) (by decide) (by decide)
    have R2 := R.to c2 crD_q
    have e5 : nI s * nI 6 + nI w = nI (6 * s + w) := by rw [pk_mul, nI_add, Nat.mul_comm]
    have e6 : nI w + nI 1 = nI (w + 1) := nI_add _ _
    have x3 := q_put (hP.to c2.1) (j := 8) (k := 6 * s + w) (by decide) (by decide) (by decide) (by show 6 * s + w < 18; omega) r
    have w3 := cq_w g2 (j := 8) (by decide) (6 * s + w) r
    refine ⟨wI g2 (oQ + 8) (6 * s + w) r, ?_, c2.cq.tr w3.qc, ?_⟩
    · unfold slB slF
      simp (disch := omega) only [nI_n10, ob_t, ob_n, ob_ite, e_cI, e_cL, e_cR, e_vI, e_vL, e_vR, e_d2, e_d2_a, e_d2_b, e_d2z, e_d2z_a, e_d2z_b, e_d1, e_d1_a, e_GI, e_GI_a, e_GL, e_GL_a, e_GR, e_GR_a, e_AI, e_AI_a, e_AI_b, e_AB, e_AB_a, e_AB_b, e_AZ, e_AZ_a, e_AZ_b, e_AL, e_AL_a, e_AL_b, e_AR, e_AR_a, e_AR_b, e_Len, e_Len_a, e_CI, e_CI_a, e_CI_b, e_CZ, e_CZ_a, e_And, e_kAnd, e_Or, e_kOr, e_Not, e_kNot, e_B, e_kB, e_T, e_kT, e_NN, e_kNN, e_NewA, e_NewA_a, e_NewC, e_kNewC, e_aN, e_aI, e_aI_a, e_aI_b, e_aL, e_aL_a, e_aL_b, e_aR, e_aR_a, e_aR_b, e_Call, e_kCall, e_CallV, e_kCallV, e_SetI, e_kSetI, e_SetL, e_kSetL, e_SetR, e_kSetR, e_Inc, e_Skip, e_Brk, e_Cnt, e_Ret, e_kRet, e_Ret0, e_Seq, e_kSeq0, e_kSeq1, e_kSeq2, e_kSeqR, e_If, e_kIf, e_Do, e_kDo, e_Sup, e_kN0, e_d3, e_k3a, e_k3b, e_k3c, e_P, e_kPa, e_kPb, e_UA, e_kUAa, e_kUAb, e_kUAc, e_UL, e_kULa, e_kULb, e_kULc, e_UF, e_kUFa, e_kUFb, e_Cp, e_kCp, e_Sw, e_kSwa, e_kSwb0, e_kSwb1, e_kSwbR, e_M1, e_kM1, e_MZ, e_kMZ, e_MN, e_kMN, e_Tv, e_kTv, e_Tc, e_kTc, e_lpS, e_kLp, e_kLpB0, e_kLpB1, e_kLpB2, e_kLpBR, e_kLpU, e_dwS, e_kDwB0, e_kDwC, f_II, f_LL, f_RR, f_IL, f_IR, f_LI, f_LR, f_RI, f_RL, and_true, true_and, and_false, false_and, or_true, true_or, or_false, false_or, not_true_eq_false, not_false_eq_true, if_true, if_false, ite_self, Bool.not_true, Bool.not_false, Bool.false_eq_true, Bool.true_eq_false, decide_true, decide_false, ne_eq, reduceIte, Nat.reduceEqDiff, Option.some.injEq, Prod.mk.injEq, eq_self, r_lt, r_le, r_gt, r_ge, r_eq, r_ne, q_lt, q_le, q_gt, q_ge, q_eq, q_ne, decide_eq_true_eq, b01, b0, b1, o_iadd, o_imul, n_inb, nI_clamp, w_hr, w_hk, w_hl, w_eq, w_ne, wl_hr, wl_hk, wl_hi, wl_eq, wl_ne, stI, fI, f_ss, f_sR, f_sL, lc0, lc1, lc01, fa_lit, hO.k32, hO.k33, hO.k34, hO.r32_0, hP.k, hP.k9, hP.r8, hP.r9, hP.r10, hP.r11, hP.r12, hP.r13, hP.r14, hP.r15, hP.r16, hP.c3, hP.c4, hP.c5, hP.c6, hP.c7, hP.c8, x0, x2, x3, c2.1.1, c2.1.2.1, e5, e6]
    · obtain ⟨v, p', e1, rfl, K, -, hv⟩ | ⟨e, e1, K⟩ := K2
      · exact Or.inl ⟨v, p', e1, K.to w3 qD_lo, R2.w 8 (6 * s + w) v⟩
      · exact Or.inr ⟨e, e1, K.to w3 (qD_lo _ (by decide))⟩
  · exact absurd hw z
theorem sl_full (H : CRd B n p h) {s : Nat} : ∃ g, slB (slF s 6) h = some (.inr (nI 0), slF s 6, g) ∧ Ch cqD h g ∧ CFl (3, p) g := by
  have hO := H.1.1.1
  obtain ⟨g0, r0, x0, c0, K0⟩ := cr_room H (c := 6) (m := 6) (by decide) (by decide)
  obtain ⟨z, -, -⟩ | ⟨-, rfl, K⟩ := K0
  · omega
  · refine ⟨g0, ?_, c0.cq, K⟩
    unfold slB slF
    simp (disch := omega) only [nI_n10, ob_t, ob_n, ob_ite, e_cI, e_cL, e_cR, e_vI, e_vL, e_vR, e_d2, e_d2_a, e_d2_b, e_d2z, e_d2z_a, e_d2z_b, e_d1, e_d1_a, e_GI, e_GI_a, e_GL, e_GL_a, e_GR, e_GR_a, e_AI, e_AI_a, e_AI_b, e_AB, e_AB_a, e_AB_b, e_AZ, e_AZ_a, e_AZ_b, e_AL, e_AL_a, e_AL_b, e_AR, e_AR_a, e_AR_b, e_Len, e_Len_a, e_CI, e_CI_a, e_CI_b, e_CZ, e_CZ_a, e_And, e_kAnd, e_Or, e_kOr, e_Not, e_kNot, e_B, e_kB, e_T, e_kT, e_NN, e_kNN, e_NewA, e_NewA_a, e_NewC, e_kNewC, e_aN, e_aI, e_aI_a, e_aI_b, e_aL, e_aL_a, e_aL_b, e_aR, e_aR_a, e_aR_b, e_Call, e_kCall, e_CallV, e_kCallV, e_SetI, e_kSetI, e_SetL, e_kSetL, e_SetR, e_kSetR, e_Inc, e_Skip, e_Brk, e_Cnt, e_Ret, e_kRet, e_Ret0, e_Seq, e_kSeq0, e_kSeq1, e_kSeq2, e_kSeqR, e_If, e_kIf, e_Do, e_kDo, e_Sup, e_kN0, e_d3, e_k3a, e_k3b, e_k3c, e_P, e_kPa, e_kPb, e_UA, e_kUAa, e_kUAb, e_kUAc, e_UL, e_kULa, e_kULb, e_kULc, e_UF, e_kUFa, e_kUFb, e_Cp, e_kCp, e_Sw, e_kSwa, e_kSwb0, e_kSwb1, e_kSwbR, e_M1, e_kM1, e_MZ, e_kMZ, e_MN, e_kMN, e_Tv, e_kTv, e_Tc, e_kTc, e_lpS, e_kLp, e_kLpB0, e_kLpB1, e_kLpB2, e_kLpBR, e_kLpU, e_dwS, e_kDwB0, e_kDwC, f_II, f_LL, f_RR, f_IL, f_IR, f_LI, f_LR, f_RI, f_RL, and_true, true_and, and_false, false_and, or_true, true_or, or_false, false_or, not_true_eq_false, not_false_eq_true, if_true, if_false, ite_self, Bool.not_true, Bool.not_false, Bool.false_eq_true, Bool.true_eq_false, decide_true, decide_false, ne_eq, reduceIte, Nat.reduceEqDiff, Option.some.injEq, Prod.mk.injEq, eq_self, r_lt, r_le, r_gt, r_ge, r_eq, r_ne, q_lt, q_le, q_gt, q_ge, q_eq, q_ne, decide_eq_true_eq, b01, b0, b1, o_iadd, o_imul, n_inb, nI_clamp, w_hr, w_hk, w_hl, w_eq, w_ne, wl_hr, wl_hk, wl_hi, wl_eq, wl_ne, stI, fI, f_ss, f_sR, f_sL, lc0, lc1, lc01, fa_lit, hO.k34, x0]
theorem sl_loop {s : Nat} (hs : s < 3) : ∀ (f w p : Nat) (P : PT) (h : St) (D : Nat → Nat → Prop), w + f = 6 → 0 < f → (w = 0 ∨ isW B n p 11 = true) → CRd B n p h → PS h oQ → RPc D h P → ∃ o fr g, iter (lpS slC slCd slB dSkip) (slF s w, h) = some (o, fr, g) ∧ Ch cqD h g ∧ ((∃ w' p' P', pWs B n s f w p P = .inr (w', p', P') ∧ o = .inl 0 ∧ fr = slF s w' ∧ CRd B n p' g ∧ RPc (fun a b => D a b ∨ (a = 8 ∧ 6 * s + w ≤ b ∧ b < 6 * s + w')) g P') ∨ ∃ e, pWs B n s f w p P = .inl e ∧ CFl e g ∧ (o = .inr (nI 0) ∨ ∃ w', o = .inl 0 ∧ fr = slF s w' ∧ w' ≤ 6)) := by
  intro f
  induction f with
  | zero => intro w p P h D _ hf; omega
  | succ f ih =>
    intro w p P h D hwf _ hin H hP R
    have hO := H.1.1.1
    obtain ⟨g1, b1, c1, K1⟩ := sl_one H hP R hs (w := w) (by omega)
    have st : lpS slC slCd slB dSkip (slF s w, h) = some (.inl (slF s (w + 1), g1)) := by
      rw [e_lpS, sl_in H (by omega) hin, ob_t, e_kLp, if_pos rfl, b1, ob_t, e_kLpB0, e_Skip, ob_t, e_kLpU]
      rfl
    rw [iter_inl st]
    unfold pWs
    obtain ⟨v, p', e1, K, R1⟩ | ⟨e, e1, K⟩ := K1
    · rw [e1, bnd_r]
      by_cases z : isW B n p' 11 = true
      · rw [if_pos z]
        by_cases y : w + 1 < 6
        · rw [if_pos y]
          obtain ⟨o, fr, g, i1, i2, i3⟩ := ih (w + 1) p' _ g1 _ (by omega) (by omega) (Or.inr z) K (hP.to c1.1) R1
          refine ⟨o, fr, g, i1, c1.tr i2, ?_⟩
          obtain ⟨w', p2, P', j1, j2, j3, j4, j5⟩ | j := i3
          · exact Or.inl ⟨w', p2, P', j1, j2, j3, j4, j5.mono (fun a b hz => by
              rcases hz with q | q
              · exact Or.inl (Or.inl q)
              · by_cases u : b = 6 * s + w
                · exact Or.inl (Or.inr ⟨q.1, u⟩)
                · exact Or.inr ⟨q.1, by omega, q.2.2⟩)⟩
          · exact Or.inr j
        · rw [if_neg y]
          obtain ⟨g2, b2, c2, K2⟩ := sl_full K (s := s)
          have hw6 : w + 1 = 6 := by omega
          refine ⟨.inr (nI 0), slF s 6, g2, ?_, c1.tr c2, Or.inr ⟨_, rfl, K2, Or.inl rfl⟩⟩
          · refine iter_inr ?_
            rw [hw6, e_lpS, sl_in K (by omega) (Or.inr z), ob_t, e_kLp, if_pos rfl, b2, ob_t, e_kLpBR]
      · rw [if_neg z]
        refine ⟨_, _, g1, iter_inr ?_, c1, Or.inl ⟨w + 1, p', _, rfl, rfl, rfl, K, R1.mono ?_⟩⟩
        · rw [e_lpS, sl_out K (by omega) (by omega) z, ob_t, e_kLp, if_neg (by decide)]
        · intro a b hz
          rcases hz with q | q
          · exact Or.inl q
          · exact Or.inr ⟨q.1, by omega⟩
    · rw [e1, bnd_l]
      refine ⟨_, _, g1, iter_inr ?_, c1, Or.inr ⟨e, rfl, K, Or.inr ⟨w + 1, rfl, rfl, by omega⟩⟩⟩
      rw [e_lpS, sl_bad (hO.to c1.1) K, ob_t, e_kLp, if_neg (by decide)]
end
