set_option maxRecDepth 100000
set_option maxHeartbeats 1000000
/-! the text of a PORT: the model reads any LINE -/
section
variable {α : Type} {C : Cd} {S T : Sm α} {f : Fr} {h k : St}
theorem i_t (c : C f h = some (true, k)) : dIf C S T f h = S f k := by rw [e_If, c, ob_t, e_kIf, if_pos rfl]
theorem i_f (c : C f h = some (false, k)) : dIf C S T f h = T f k := by rw [e_If, c, ob_t, e_kIf, if_neg (by decide)]
end
noncomputable def rmC (c : Int64) (w m : Int32) : Cd := dCZ q_ne (dCallV 12 DX12_isRoom (aI (aI (aI (aR aN 0 (vR 0)) 1 (dCallV 12 DX12_is (aL (aR aN 0 (vR 0)) 1 (cL c)))) 2 (cI w)) 3 (cI m)))
def gdC : Cd := dCZ q_eq (dGI 12 12 (vR 0))
theorem lineHere_is : BX12_lineHere = dSeq (dIf (rmC 4562600 (nI 3) (nI 8)) SHouse (dIf (dAnd gdC (rmC 16819 (nI 4) (nI 12))) (dDo (dCallV 12 DX12_wayLine (aR aN 0 (vR 0)))) (dIf (dAnd gdC (rmC 1186537320 (nI 5) (nI 5))) (dDo (dCallV 12 DX12_carrierLine (aR aN 0 (vR 0)))) (dIf (dAnd gdC (rmC 10334849 (nI 6) (nI 3))) (dDo (dCallV 12 DX12_slateLine (aR aN 0 (vR 0)))) (dIf (dAnd gdC (rmC 1627639 (nI 7) (nI 12))) (dDo (dCallV 12 DX12_carryLine (aR aN 0 (vR 0)))) (dIf gdC (dDo (dCallV 12 DX12_fails (aI (aR aN 0 (vR 0)) 1 (cI (nI 1))))) dSkip)))))) dRet0 := rfl
section
variable {B : Nat → Int32} {n p : Nat} {h g k0 : St} {P : PT}
theorem gd_t (H : MRd B n p h) : gdC (sR fr0 0 oM) h = some (true, h) := by
  have hM := H.1.1.1
  have s12 := H.2
  unfold gdC
  simp (disch := omega) only [nI_n10, ob_t, ob_n, ob_ite, e_cI, e_cL, e_cR, e_vI, e_vL, e_vR, e_d2, e_d2_a, e_d2_b, e_d2z, e_d2z_a, e_d2z_b, e_d1, e_d1_a, e_GI, e_GI_a, e_GL, e_GL_a, e_GR, e_GR_a, e_AI, e_AI_a, e_AI_b, e_AB, e_AB_a, e_AB_b, e_AZ, e_AZ_a, e_AZ_b, e_AL, e_AL_a, e_AL_b, e_AR, e_AR_a, e_AR_b, e_Len, e_Len_a, e_CI, e_CI_a, e_CI_b, e_CZ, e_CZ_a, e_And, e_kAnd, e_Or, e_kOr, e_Not, e_kNot, e_B, e_kB, e_T, e_kT, e_NN, e_kNN, e_NewA, e_NewA_a, e_NewC, e_kNewC, e_aN, e_aI, e_aI_a, e_aI_b, e_aL, e_aL_a, e_aL_b, e_aR, e_aR_a, e_aR_b, e_Call, e_kCall, e_CallV, e_kCallV, e_SetI, e_kSetI, e_SetL, e_kSetL, e_SetR, e_kSetR, e_Inc, e_Skip, e_Brk, e_Cnt, e_Ret, e_kRet, e_Ret0, e_Seq, e_kSeq0, e_kSeq1, e_kSeq2, e_kSeqR, e_If, e_kIf, e_Do, e_kDo, e_Sup, e_kN0, e_d3, e_k3a, e_k3b, e_k3c, e_P, e_kPa, e_kPb, e_UA, e_kUAa, e_kUAb, e_kUAc, e_UL, e_kULa, e_kULb, e_kULc, e_UF, e_kUFa, e_kUFb, e_Cp, e_kCp, e_Sw, e_kSwa, e_kSwb0, e_kSwb1, e_kSwbR, e_M1, e_kM1, e_MZ, e_kMZ, e_MN, e_kMN, e_Tv, e_kTv, e_Tc, e_kTc, e_lpS, e_kLp, e_kLpB0, e_kLpB1, e_kLpB2, e_kLpBR, e_kLpU, e_dwS, e_kDwB0, e_kDwC, f_II, f_LL, f_RR, f_IL, f_IR, f_LI, f_LR, f_RI, f_RL, and_true, true_and, and_false, false_and, or_true, true_or, or_false, false_or, not_true_eq_false, not_false_eq_true, if_true, if_false, ite_self, Bool.not_true, Bool.not_false, Bool.false_eq_true, Bool.true_eq_false, decide_true, decide_false, ne_eq, reduceIte, Nat.reduceEqDiff, Option.some.injEq, Prod.mk.injEq, eq_self, r_lt, r_le, r_gt, r_ge, r_eq, r_ne, q_lt, q_le, q_gt, q_ge, q_eq, q_ne, decide_eq_true_eq, b01, b0, b1, o_iadd, o_imul, n_inb, nI_clamp, w_hr, w_hk, w_hl, w_eq, w_ne, wl_hr, wl_hk, wl_hi, wl_eq, wl_ne, stI, idI, fI, fL, f_ss, f_sR, f_sL, lc0, lc1, lc01, fa_lit, fa_litL, hM.k, s12]
theorem gd_f {e : Nat × Nat} (H : MFl e h) : gdC (sR fr0 0 oM) h = some (false, h) := by
  have hM := H.1
  obtain ⟨y, f1, f2⟩ := H.ne
  unfold gdC
  simp (disch := omega) only [nI_n10, ob_t, ob_n, ob_ite, e_cI, e_cL, e_cR, e_vI, e_vL, e_vR, e_d2, e_d2_a, e_d2_b, e_d2z, e_d2z_a, e_d2z_b, e_d1, e_d1_a, e_GI, e_GI_a, e_GL, e_GL_a, e_GR, e_GR_a, e_AI, e_AI_a, e_AI_b, e_AB, e_AB_a, e_AB_b, e_AZ, e_AZ_a, e_AZ_b, e_AL, e_AL_a, e_AL_b, e_AR, e_AR_a, e_AR_b, e_Len, e_Len_a, e_CI, e_CI_a, e_CI_b, e_CZ, e_CZ_a, e_And, e_kAnd, e_Or, e_kOr, e_Not, e_kNot, e_B, e_kB, e_T, e_kT, e_NN, e_kNN, e_NewA, e_NewA_a, e_NewC, e_kNewC, e_aN, e_aI, e_aI_a, e_aI_b, e_aL, e_aL_a, e_aL_b, e_aR, e_aR_a, e_aR_b, e_Call, e_kCall, e_CallV, e_kCallV, e_SetI, e_kSetI, e_SetL, e_kSetL, e_SetR, e_kSetR, e_Inc, e_Skip, e_Brk, e_Cnt, e_Ret, e_kRet, e_Ret0, e_Seq, e_kSeq0, e_kSeq1, e_kSeq2, e_kSeqR, e_If, e_kIf, e_Do, e_kDo, e_Sup, e_kN0, e_d3, e_k3a, e_k3b, e_k3c, e_P, e_kPa, e_kPb, e_UA, e_kUAa, e_kUAb, e_kUAc, e_UL, e_kULa, e_kULb, e_kULc, e_UF, e_kUFa, e_kUFb, e_Cp, e_kCp, e_Sw, e_kSwa, e_kSwb0, e_kSwb1, e_kSwbR, e_M1, e_kM1, e_MZ, e_kMZ, e_MN, e_kMN, e_Tv, e_kTv, e_Tc, e_kTc, e_lpS, e_kLp, e_kLpB0, e_kLpB1, e_kLpB2, e_kLpBR, e_kLpU, e_dwS, e_kDwB0, e_kDwC, f_II, f_LL, f_RR, f_IL, f_IR, f_LI, f_LR, f_RI, f_RL, and_true, true_and, and_false, false_and, or_true, true_or, or_false, false_or, not_true_eq_false, not_false_eq_true, if_true, if_false, ite_self, Bool.not_true, Bool.not_false, Bool.false_eq_true, Bool.true_eq_false, decide_true, decide_false, ne_eq, reduceIte, Nat.reduceEqDiff, Option.some.injEq, Prod.mk.injEq, eq_self, r_lt, r_le, r_gt, r_ge, r_eq, r_ne, q_lt, q_le, q_gt, q_ge, q_eq, q_ne, decide_eq_true_eq, b01, b0, b1, o_iadd, o_imul, n_inb, nI_clamp, w_hr, w_hk, w_hl, w_eq, w_ne, wl_hr, wl_hk, wl_hi, wl_eq, wl_ne, stI, idI, fI, fL, f_ss, f_sR, f_sL, lc0, lc1, lc01, fa_lit, fa_litL, hM.k, f1, f2]
theorem an_t {C D : Cd} {f : Fr} {h : St} (a : C f h = some (true, h)) : dAnd C D f h = D f h := by rw [e_And, a, ob_t, e_kAnd, if_pos rfl]
theorem an_f {C D : Cd} {f : Fr} {h : St} (a : C f h = some (false, h)) : dAnd C D f h = some (false, h) := by rw [e_And, a, ob_t, e_kAnd, if_neg (by decide)]
theorem rm_no (H : MRd B n p h) {j : Nat} {c : Int64} (hc : c = cdW j) (z : ¬ isW B n p j = true) (w m : Int32) : rmC c w m (sR fr0 0 oM) h = some (false, h) := by
  have hM := H.1.1.1
  have x1 := mr_is H hc
  rw [if_neg z] at x1
  have x2 := m_room0 hM w m
  unfold rmC
  simp (disch := omega) only [nI_n10, ob_t, ob_n, ob_ite, e_cI, e_cL, e_cR, e_vI, e_vL, e_vR, e_d2, e_d2_a, e_d2_b, e_d2z, e_d2z_a, e_d2z_b, e_d1, e_d1_a, e_GI, e_GI_a, e_GL, e_GL_a, e_GR, e_GR_a, e_AI, e_AI_a, e_AI_b, e_AB, e_AB_a, e_AB_b, e_AZ, e_AZ_a, e_AZ_b, e_AL, e_AL_a, e_AL_b, e_AR, e_AR_a, e_AR_b, e_Len, e_Len_a, e_CI, e_CI_a, e_CI_b, e_CZ, e_CZ_a, e_And, e_kAnd, e_Or, e_kOr, e_Not, e_kNot, e_B, e_kB, e_T, e_kT, e_NN, e_kNN, e_NewA, e_NewA_a, e_NewC, e_kNewC, e_aN, e_aI, e_aI_a, e_aI_b, e_aL, e_aL_a, e_aL_b, e_aR, e_aR_a, e_aR_b, e_Call, e_kCall, e_CallV, e_kCallV, e_SetI, e_kSetI, e_SetL, e_kSetL, e_SetR, e_kSetR, e_Inc, e_Skip, e_Brk, e_Cnt, e_Ret, e_kRet, e_Ret0, e_Seq, e_kSeq0, e_kSeq1, e_kSeq2, e_kSeqR, e_If, e_kIf, e_Do, e_kDo, e_Sup, e_kN0, e_d3, e_k3a, e_k3b, e_k3c, e_P, e_kPa, e_kPb, e_UA, e_kUAa, e_kUAb, e_kUAc, e_UL, e_kULa, e_kULb, e_kULc, e_UF, e_kUFa, e_kUFb, e_Cp, e_kCp, e_Sw, e_kSwa, e_kSwb0, e_kSwb1, e_kSwbR, e_M1, e_kM1, e_MZ, e_kMZ, e_MN, e_kMN, e_Tv, e_kTv, e_Tc, e_kTc, e_lpS, e_kLp, e_kLpB0, e_kLpB1, e_kLpB2, e_kLpBR, e_kLpU, e_dwS, e_kDwB0, e_kDwC, f_II, f_LL, f_RR, f_IL, f_IR, f_LI, f_LR, f_RI, f_RL, and_true, true_and, and_false, false_and, or_true, true_or, or_false, false_or, not_true_eq_false, not_false_eq_true, if_true, if_false, ite_self, Bool.not_true, Bool.not_false, Bool.false_eq_true, Bool.true_eq_false, decide_true, decide_false, ne_eq, reduceIte, Nat.reduceEqDiff, Option.some.injEq, Prod.mk.injEq, eq_self, r_lt, r_le, r_gt, r_ge, r_eq, r_ne, q_lt, q_le, q_gt, q_ge, q_eq, q_ne, decide_eq_true_eq, b01, b0, b1, o_iadd, o_imul, n_inb, nI_clamp, w_hr, w_hk, w_hl, w_eq, w_ne, wl_hr, wl_hk, wl_hi, wl_eq, wl_ne, stI, idI, fI, fL, f_ss, f_sR, f_sL, lc0, lc1, lc01, fa_lit, fa_litL, hM.k, x1, x2]
theorem rm_yes (H : MRd B n p h) {j : Nat} {c : Int64} (hc : c = cdW j) (z : isW B n p j = true) {w d m : Nat} (hw : w < 9) (hd : d ≤ m) (hm : m < 1000) (kc : hi h (oM + 7) (36 + w) = nI d) : ∃ g, Ch mTD h g ∧ ((d < m ∧ rmC c (nI w) (nI m) (sR fr0 0 oM) h = some (true, g) ∧ MRd B n (nxt B n p) g) ∨ (¬ d < m ∧ rmC c (nI w) (nI m) (sR fr0 0 oM) h = some (false, g) ∧ MFl (3, p) g)) := by
  have hM := H.1.1.1
  have x1 := mr_is H hc
  rw [if_pos z] at x1
  obtain ⟨g, r, x2, c2, ⟨y, rfl, K⟩ | ⟨y, rfl, K⟩⟩ := mr_room H hw hd hm kc
  · refine ⟨g, c2, Or.inl ⟨y, ?_, K⟩⟩
    unfold rmC
    simp (disch := omega) only [nI_n10, ob_t, ob_n, ob_ite, e_cI, e_cL, e_cR, e_vI, e_vL, e_vR, e_d2, e_d2_a, e_d2_b, e_d2z, e_d2z_a, e_d2z_b, e_d1, e_d1_a, e_GI, e_GI_a, e_GL, e_GL_a, e_GR, e_GR_a, e_AI, e_AI_a, e_AI_b, e_AB, e_AB_a, e_AB_b, e_AZ, e_AZ_a, e_AZ_b, e_AL, e_AL_a, e_AL_b, e_AR, e_AR_a, e_AR_b, e_Len, e_Len_a, e_CI, e_CI_a, e_CI_b, e_CZ, e_CZ_a, e_And, e_kAnd, e_Or, e_kOr, e_Not, e_kNot, e_B, e_kB, e_T, e_kT, e_NN, e_kNN, e_NewA, e_NewA_a, e_NewC, e_kNewC, e_aN, e_aI, e_aI_a, e_aI_b, e_aL, e_aL_a, e_aL_b, e_aR, e_aR_a, e_aR_b, e_Call, e_kCall, e_CallV, e_kCallV, e_SetI, e_kSetI, e_SetL, e_kSetL, e_SetR, e_kSetR, e_Inc, e_Skip, e_Brk, e_Cnt, e_Ret, e_kRet, e_Ret0, e_Seq, e_kSeq0, e_kSeq1, e_kSeq2, e_kSeqR, e_If, e_kIf, e_Do, e_kDo, e_Sup, e_kN0, e_d3, e_k3a, e_k3b, e_k3c, e_P, e_kPa, e_kPb, e_UA, e_kUAa, e_kUAb, e_kUAc, e_UL, e_kULa, e_kULb, e_kULc, e_UF, e_kUFa, e_kUFb, e_Cp, e_kCp, e_Sw, e_kSwa, e_kSwb0, e_kSwb1, e_kSwbR, e_M1, e_kM1, e_MZ, e_kMZ, e_MN, e_kMN, e_Tv, e_kTv, e_Tc, e_kTc, e_lpS, e_kLp, e_kLpB0, e_kLpB1, e_kLpB2, e_kLpBR, e_kLpU, e_dwS, e_kDwB0, e_kDwC, f_II, f_LL, f_RR, f_IL, f_IR, f_LI, f_LR, f_RI, f_RL, and_true, true_and, and_false, false_and, or_true, true_or, or_false, false_or, not_true_eq_false, not_false_eq_true, if_true, if_false, ite_self, Bool.not_true, Bool.not_false, Bool.false_eq_true, Bool.true_eq_false, decide_true, decide_false, ne_eq, reduceIte, Nat.reduceEqDiff, Option.some.injEq, Prod.mk.injEq, eq_self, r_lt, r_le, r_gt, r_ge, r_eq, r_ne, q_lt, q_le, q_gt, q_ge, q_eq, q_ne, decide_eq_true_eq, b01, b0, b1, o_iadd, o_imul, n_inb, nI_clamp, w_hr, w_hk, w_hl, w_eq, w_ne, wl_hr, wl_hk, wl_hi, wl_eq, wl_ne, stI, idI, fI, fL, f_ss, f_sR, f_sL, lc0, lc1, lc01, fa_lit, fa_litL, hM.k, x1, x2]
  · refine ⟨g, c2, Or.inr ⟨y, ?_, K⟩⟩
    unfold rmC
    simp (disch := omega) only [nI_n10, ob_t, ob_n, ob_ite, e_cI, e_cL, e_cR, e_vI, e_vL, e_vR, e_d2, e_d2_a, e_d2_b, e_d2z, e_d2z_a, e_d2z_b, e_d1, e_d1_a, e_GI, e_GI_a, e_GL, e_GL_a, e_GR, e_GR_a, e_AI, e_AI_a, e_AI_b, e_AB, e_AB_a, e_AB_b, e_AZ, e_AZ_a, e_AZ_b, e_AL, e_AL_a, e_AL_b, e_AR, e_AR_a, e_AR_b, e_Len, e_Len_a, e_CI, e_CI_a, e_CI_b, e_CZ, e_CZ_a, e_And, e_kAnd, e_Or, e_kOr, e_Not, e_kNot, e_B, e_kB, e_T, e_kT, e_NN, e_kNN, e_NewA, e_NewA_a, e_NewC, e_kNewC, e_aN, e_aI, e_aI_a, e_aI_b, e_aL, e_aL_a, e_aL_b, e_aR, e_aR_a, e_aR_b, e_Call, e_kCall, e_CallV, e_kCallV, e_SetI, e_kSetI, e_SetL, e_kSetL, e_SetR, e_kSetR, e_Inc, e_Skip, e_Brk, e_Cnt, e_Ret, e_kRet, e_Ret0, e_Seq, e_kSeq0, e_kSeq1, e_kSeq2, e_kSeqR, e_If, e_kIf, e_Do, e_kDo, e_Sup, e_kN0, e_d3, e_k3a, e_k3b, e_k3c, e_P, e_kPa, e_kPb, e_UA, e_kUAa, e_kUAb, e_kUAc, e_UL, e_kULa, e_kULb, e_kULc, e_UF, e_kUFa, e_kUFb, e_Cp, e_kCp, e_Sw, e_kSwa, e_kSwb0, e_kSwb1, e_kSwbR, e_M1, e_kM1, e_MZ, e_kMZ, e_MN, e_kMN, e_Tv, e_kTv, e_Tc, e_kTc, e_lpS, e_kLp, e_kLpB0, e_kLpB1, e_kLpB2, e_kLpBR, e_kLpU, e_dwS, e_kDwB0, e_kDwC, f_II, f_LL, f_RR, f_IL, f_IR, f_LI, f_LR, f_RI, f_RL, and_true, true_and, and_false, false_and, or_true, true_or, or_false, false_or, not_true_eq_false, not_false_eq_true, if_true, if_false, ite_self, Bool.not_true, Bool.not_false, Bool.false_eq_true, Bool.true_eq_false, decide_true, decide_false, ne_eq, reduceIte, Nat.reduceEqDiff, Option.some.injEq, Prod.mk.injEq, eq_self, r_lt, r_le, r_gt, r_ge, r_eq, r_ne, q_lt, q_le, q_gt, q_ge, q_eq, q_ne, decide_eq_true_eq, b01, b0, b1, o_iadd, o_imul, n_inb, nI_clamp, w_hr, w_hk, w_hl, w_eq, w_ne, wl_hr, wl_hk, wl_hi, wl_eq, wl_ne, stI, idI, fI, fL, f_ss, f_sR, f_sL, lc0, lc1, lc01, fa_lit, fa_litL, hM.k, x1, x2]
theorem do_c {α : Type} {D : Fr → St → Option (Unit × St)} {k g : St} (hM : MS k oM) (x : D (sR fr0 0 oM) k = some ((), g)) : (dDo (dCallV 12 D (aR aN 0 (vR 0))) : Sm α) (sR fr0 0 oM) k = some (.inl 0, sR fr0 0 oM, g) := by
  simp (disch := omega) only [nI_n10, ob_t, ob_n, ob_ite, e_cI, e_cL, e_cR, e_vI, e_vL, e_vR, e_d2, e_d2_a, e_d2_b, e_d2z, e_d2z_a, e_d2z_b, e_d1, e_d1_a, e_GI, e_GI_a, e_GL, e_GL_a, e_GR, e_GR_a, e_AI, e_AI_a, e_AI_b, e_AB, e_AB_a, e_AB_b, e_AZ, e_AZ_a, e_AZ_b, e_AL, e_AL_a, e_AL_b, e_AR, e_AR_a, e_AR_b, e_Len, e_Len_a, e_CI, e_CI_a, e_CI_b, e_CZ, e_CZ_a, e_And, e_kAnd, e_Or, e_kOr, e_Not, e_kNot, e_B, e_kB, e_T, e_kT, e_NN, e_kNN, e_NewA, e_NewA_a, e_NewC, e_kNewC, e_aN, e_aI, e_aI_a, e_aI_b, e_aL, e_aL_a, e_aL_b, e_aR, e_aR_a, e_aR_b, e_Call, e_kCall, e_CallV, e_kCallV, e_SetI, e_kSetI, e_SetL, e_kSetL, e_SetR, e_kSetR, e_Inc, e_Skip, e_Brk, e_Cnt, e_Ret, e_kRet, e_Ret0, e_Seq, e_kSeq0, e_kSeq1, e_kSeq2, e_kSeqR, e_If, e_kIf, e_Do, e_kDo, e_Sup, e_kN0, e_d3, e_k3a, e_k3b, e_k3c, e_P, e_kPa, e_kPb, e_UA, e_kUAa, e_kUAb, e_kUAc, e_UL, e_kULa, e_kULb, e_kULc, e_UF, e_kUFa, e_kUFb, e_Cp, e_kCp, e_Sw, e_kSwa, e_kSwb0, e_kSwb1, e_kSwbR, e_M1, e_kM1, e_MZ, e_kMZ, e_MN, e_kMN, e_Tv, e_kTv, e_Tc, e_kTc, e_lpS, e_kLp, e_kLpB0, e_kLpB1, e_kLpB2, e_kLpBR, e_kLpU, e_dwS, e_kDwB0, e_kDwC, f_II, f_LL, f_RR, f_IL, f_IR, f_LI, f_LR, f_RI, f_RL, and_true, true_and, and_false, false_and, or_true, true_or, or_false, false_or, not_true_eq_false, not_false_eq_true, if_true, if_false, ite_self, Bool.not_true, Bool.not_false, Bool.false_eq_true, Bool.true_eq_false, decide_true, decide_false, ne_eq, reduceIte, Nat.reduceEqDiff, Option.some.injEq, Prod.mk.injEq, eq_self, r_lt, r_le, r_gt, r_ge, r_eq, r_ne, q_lt, q_le, q_gt, q_ge, q_eq, q_ne, decide_eq_true_eq, b01, b0, b1, o_iadd, o_imul, n_inb, nI_clamp, w_hr, w_hk, w_hl, w_eq, w_ne, wl_hr, wl_hk, wl_hi, wl_eq, wl_ne, stI, idI, fI, fL, f_ss, f_sR, f_sL, lc0, lc1, lc01, fa_lit, fa_litL, hM.k, x]
theorem lh_done {g : St} (x : (dIf (rmC 4562600 (nI 3) (nI 8)) SHouse (dIf (dAnd gdC (rmC 16819 (nI 4) (nI 12))) (dDo (dCallV 12 DX12_wayLine (aR aN 0 (vR 0)))) (dIf (dAnd gdC (rmC 1186537320 (nI 5) (nI 5))) (dDo (dCallV 12 DX12_carrierLine (aR aN 0 (vR 0)))) (dIf (dAnd gdC (rmC 10334849 (nI 6) (nI 3))) (dDo (dCallV 12 DX12_slateLine (aR aN 0 (vR 0)))) (dIf (dAnd gdC (rmC 1627639 (nI 7) (nI 12))) (dDo (dCallV 12 DX12_carryLine (aR aN 0 (vR 0)))) (dIf gdC (dDo (dCallV 12 DX12_fails (aI (aR aN 0 (vR 0)) 1 (cI (nI 1))))) dSkip)))))) (sR fr0 0 oM) h = some (.inl 0, sR fr0 0 oM, g)) : DX12_lineHere (sR fr0 0 oM) h = some ((), g) := by
  have e : (sR fr0 0 (gR (sR fr0 0 oM) 0)) = sR fr0 0 oM := rfl
  unfold DX12_lineHere
  rw [e_M1, e, lineHere_is, e_Seq, x, ob_t, e_kSeq0, e_Ret0, ob_t, e_kM1]
theorem ml_line (H : MRd B n p h) (R : RMc (PIM P) h P) (hW : WB P) (z0 : ¬ P 0 0 = 0) : ∃ g, DX12_lineHere (sR fr0 0 oM) h = some ((), g) ∧ ML h g ∧ OutM B n (bLine B n p P) g := by
  have hM := H.1.1.1
  obtain ⟨w1, w2, w3, w4, w5, w6, w7, w8, -⟩ := hW
  have gt := gd_t H
  unfold bLine
  rw [if_neg z0]
  by_cases z4 : isW B n p 4 = true
  · rw [if_pos z4]
    obtain ⟨k1, c1, ⟨y, x1, K⟩ | ⟨y, x1, K⟩⟩ := rm_yes H (j := 4) (c := 4562600) (by decide +kernel) z4 (w := 3) (m := 8) (by decide) w4 (by decide) (R.q (k := 4) (by decide) (by decide))
    · rw [if_pos y]
      obtain ⟨g, x2, l2, O⟩ := ml_house K (R.to c1 mT6) y
      exact ⟨g, lh_done (by rw [i_t x1, x2]), (ML.tm c1).tr l2, O⟩
    · rw [if_neg y]
      have gf := gd_f K
      exact ⟨k1, lh_done (by rw [i_f x1, i_f (an_f gf), i_f (an_f gf), i_f (an_f gf), i_f (an_f gf), i_f gf, e_Skip]), ML.tm c1, Or.inr ⟨_, rfl, K⟩⟩
  · rw [if_neg z4]
    have n4 := rm_no H (j := 4) (c := 4562600) (by decide +kernel) z4 (nI 3) (nI 8)
    by_cases z6 : isW B n p 6 = true
    · rw [if_pos z6]
      obtain ⟨k1, c1, ⟨y, x1, K⟩ | ⟨y, x1, K⟩⟩ := rm_yes H (j := 6) (c := 16819) (by decide +kernel) z6 (w := 4) (m := 12) (by decide) w5 (by decide) (R.q (k := 5) (by decide) (by decide))
      · rw [if_pos y]
        obtain ⟨g, x2, l2, O⟩ := ml_way K (R.to c1 mT6) y w4
        exact ⟨g, lh_done (by rw [i_f n4, i_t ((an_t gt).trans x1), do_c (hM.to c1.1) x2]), (ML.tm c1).tr l2, O⟩
      · rw [if_neg y]
        have gf := gd_f K
        exact ⟨k1, lh_done (by rw [i_f n4, i_f ((an_t gt).trans x1), i_f (an_f gf), i_f (an_f gf), i_f (an_f gf), i_f gf, e_Skip]), ML.tm c1, Or.inr ⟨_, rfl, K⟩⟩
    · rw [if_neg z6]
      have n6 := (an_t gt).trans (rm_no H (j := 6) (c := 16819) (by decide +kernel) z6 (nI 4) (nI 12))
      by_cases z7 : isW B n p 7 = true
      · rw [if_pos z7]
        obtain ⟨k1, c1, ⟨y, x1, K⟩ | ⟨y, x1, K⟩⟩ := rm_yes H (j := 7) (c := 1186537320) (by decide +kernel) z7 (w := 5) (m := 5) (by decide) w6 (by decide) (R.q (k := 6) (by decide) (by decide))
        · rw [if_pos y]
          obtain ⟨g, x2, l2, O⟩ := ml_carrier K (R.to c1 mT6) y w4
          exact ⟨g, lh_done (by rw [i_f n4, i_f n6, i_t ((an_t gt).trans x1), do_c (hM.to c1.1) x2]), (ML.tm c1).tr l2, O⟩
        · rw [if_neg y]
          have gf := gd_f K
          exact ⟨k1, lh_done (by rw [i_f n4, i_f n6, i_f ((an_t gt).trans x1), i_f (an_f gf), i_f (an_f gf), i_f gf, e_Skip]), ML.tm c1, Or.inr ⟨_, rfl, K⟩⟩
      · rw [if_neg z7]
        have n7 := (an_t gt).trans (rm_no H (j := 7) (c := 1186537320) (by decide +kernel) z7 (nI 5) (nI 5))
        by_cases z10 : isW B n p 10 = true
        · rw [if_pos z10]
          obtain ⟨k1, c1, ⟨y, x1, K⟩ | ⟨y, x1, K⟩⟩ := rm_yes H (j := 10) (c := 10334849) (by decide +kernel) z10 (w := 6) (m := 3) (by decide) w7 (by decide) (R.q (k := 7) (by decide) (by decide))
          · rw [if_pos y]
            obtain ⟨g, x2, l2, O⟩ := ml_slate K (R.to c1 mT6) y w4
            exact ⟨g, lh_done (by rw [i_f n4, i_f n6, i_f n7, i_t ((an_t gt).trans x1), do_c (hM.to c1.1) x2]), (ML.tm c1).tr l2, O⟩
          · rw [if_neg y]
            have gf := gd_f K
            exact ⟨k1, lh_done (by rw [i_f n4, i_f n6, i_f n7, i_f ((an_t gt).trans x1), i_f (an_f gf), i_f gf, e_Skip]), ML.tm c1, Or.inr ⟨_, rfl, K⟩⟩
        · rw [if_neg z10]
          have n10 := (an_t gt).trans (rm_no H (j := 10) (c := 10334849) (by decide +kernel) z10 (nI 6) (nI 3))
          by_cases z12 : isW B n p 12 = true
          · rw [if_pos z12]
            obtain ⟨k1, c1, ⟨y, x1, K⟩ | ⟨y, x1, K⟩⟩ := rm_yes H (j := 12) (c := 1627639) (by decide +kernel) z12 (w := 7) (m := 12) (by decide) w8 (by decide) R.q9
            · rw [if_pos y]
              obtain ⟨g, x2, l2, O⟩ := ml_carry K (R.to c1 mT6) y w4 w6 w7
              exact ⟨g, lh_done (by rw [i_f n4, i_f n6, i_f n7, i_f n10, i_t ((an_t gt).trans x1), do_c (hM.to c1.1) x2]), (ML.tm c1).tr l2, O⟩
            · rw [if_neg y]
              have gf := gd_f K
              exact ⟨k1, lh_done (by rw [i_f n4, i_f n6, i_f n7, i_f n10, i_f ((an_t gt).trans x1), i_f gf, e_Skip]), ML.tm c1, Or.inr ⟨_, rfl, K⟩⟩
          · rw [if_neg z12]
            have n12 := (an_t gt).trans (rm_no H (j := 12) (c := 1627639) (by decide +kernel) z12 (nI 7) (nI 12))
            obtain ⟨k1, x1, c1, K⟩ := mr_fail H (w := 1) (by decide)
            have x2 : (dDo (dCallV 12 DX12_fails (aI (aR aN 0 (vR 0)) 1 (cI (nI 1)))) : Sm Unit) (sR fr0 0 oM) h = some (.inl 0, sR fr0 0 oM, k1) := by
              simp (disch := omega) only [nI_n10, ob_t, ob_n, ob_ite, e_cI, e_cL, e_cR, e_vI, e_vL, e_vR, e_d2, e_d2_a, e_d2_b, e_d2z, e_d2z_a, e_d2z_b, e_d1, e_d1_a, e_GI, e_GI_a, e_GL, e_GL_a, e_GR, e_GR_a, e_AI, e_AI_a, e_AI_b, e_AB, e_AB_a, e_AB_b, e_AZ, e_AZ_a, e_AZ_b, e_AL, e_AL_a, e_AL_b, e_AR, e_AR_a, e_AR_b, e_Len, e_Len_a, e_CI, e_CI_a, e_CI_b, e_CZ, e_CZ_a, e_And, e_kAnd, e_Or, e_kOr, e_Not, e_kNot, e_B, e_kB, e_T, e_kT, e_NN, e_kNN, e_NewA, e_NewA_a, e_NewC, e_kNewC, e_aN, e_aI, e_aI_a, e_aI_b, e_aL, e_aL_a, e_aL_b, e_aR, e_aR_a, e_aR_b, e_Call, e_kCall, e_CallV, e_kCallV, e_SetI, e_kSetI, e_SetL, e_kSetL, e_SetR, e_kSetR, e_Inc, e_Skip, e_Brk, e_Cnt, e_Ret, e_kRet, e_Ret0, e_Seq, e_kSeq0, e_kSeq1, e_kSeq2, e_kSeqR, e_If, e_kIf, e_Do, e_kDo, e_Sup, e_kN0, e_d3, e_k3a, e_k3b, e_k3c, e_P, e_kPa, e_kPb, e_UA, e_kUAa, e_kUAb, e_kUAc, e_UL, e_kULa, e_kULb, e_kULc, e_UF, e_kUFa, e_kUFb, e_Cp, e_kCp, e_Sw, e_kSwa, e_kSwb0, e_kSwb1, e_kSwbR, e_M1, e_kM1, e_MZ, e_kMZ, e_MN, e_kMN, e_Tv, e_kTv, e_Tc, e_kTc, e_lpS, e_kLp, e_kLpB0, e_kLpB1, e_kLpB2, e_kLpBR, e_kLpU, e_dwS, e_kDwB0, e_kDwC, f_II, f_LL, f_RR, f_IL, f_IR, f_LI, f_LR, f_RI, f_RL, and_true, true_and, and_false, false_and, or_true, true_or, or_false, false_or, not_true_eq_false, not_false_eq_true, if_true, if_false, ite_self, Bool.not_true, Bool.not_false, Bool.false_eq_true, Bool.true_eq_false, decide_true, decide_false, ne_eq, reduceIte, Nat.reduceEqDiff, Option.some.injEq, Prod.mk.injEq, eq_self, r_lt, r_le, r_gt, r_ge, r_eq, r_ne, q_lt, q_le, q_gt, q_ge, q_eq, q_ne, decide_eq_true_eq, b01, b0, b1, o_iadd, o_imul, n_inb, nI_clamp, w_hr, w_hk, w_hl, w_eq, w_ne, wl_hr, wl_hk, wl_hi, wl_eq, wl_ne, stI, idI, fI, fL, f_ss, f_sR, f_sL, lc0, lc1, lc01, fa_lit, fa_litL, hM.k, x1]
            exact ⟨k1, lh_done (by rw [i_f n4, i_f n6, i_f n7, i_f n10, i_f n12, i_t gt, x2]), ML.tm c1, Or.inr ⟨_, rfl, K⟩⟩
end
