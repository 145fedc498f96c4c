set_option maxRecDepth 100000
set_option maxHeartbeats 1000000
/-! the text of a PORT: the model reads all of it -/
noncomputable def SFirst : Sm Int32 := dSeq (dDo (dCallV 12 DX12_asks (aL (aR aN 0 (vR 0)) 1 (cL 326369)))) (dSeq (dDo (dCallV 12 DX12_tellsOf (aI (aI (aR aN 0 (vR 0)) 1 (cI 0)) 2 (dCallV 12 DX12_number_ (aI (aI (aL (aR aN 0 (vR 0)) 1 (cL 80155)) 3 (cI 1)) 4 (cI 12)))))) (dSeq (dDo (dCallV 12 DX12_tellsOf (aI (aI (aR aN 0 (vR 0)) 1 (cI 1)) 2 (dCallV 12 DX12_number_ (aI (aI (aL (aR aN 0 (vR 0)) 1 (cL 8798)) 3 (cI 0)) 4 (cI 3)))))) (dDo (dCallV 12 DX12_tellsOf (aI (aI (aR aN 0 (vR 0)) 1 (cI 2)) 2 (dCallV 12 DX12_number_ (aI (aI (aL (aR aN 0 (vR 0)) 1 (cL 298288)) 3 (cI 0)) 4 (cI 10))))))))
section
variable {B : Nat → Int32} {n p : Nat} {h g k0 : St} {P : PT}
theorem ml_first (H : MRd B n p h) (R : RMc (PIM P) h P) : ∃ g, SFirst (sR fr0 0 oM) h = some (.inl 0, sR fr0 0 oM, g) ∧ ML h g ∧ OutM B n (bPort B n p P) g := by
  have hM := H.1.1.1
  obtain ⟨k1, x1, c1, O1⟩ := mr_asks H (j := 0) (c := lN 326369) cdw_0.symm
  obtain ⟨k2, r2, x2, c2, O2⟩ : ∃ k r, DX12_number_ (sI (sI (sL (sR fr0 0 oM) 1 (lN 80155)) 3 (nI 1)) 4 (nI 12)) k1 = some (r, k) ∧ Ch mTD k1 k ∧ ((∃ a p1, isW B n p 0 = true ∧ pA B n 1 1 13 (nxt B n p) = .inr (a, p1) ∧ r = nI a ∧ MRd B n p1 k) ∨ ∃ e, bPort B n p P = .inl e ∧ MFl e k) := by
    obtain ⟨z, K⟩ | ⟨z, K⟩ := O1
    · obtain ⟨k, r, x, c, ⟨a, p1, e1, rfl, K, -, -⟩ | ⟨e, e1, K⟩⟩ := mr_am K (lo := 1) (top := 13) (x := nI 12) (j := 1) (c := lN 80155) cdw_1.symm (by decide) (by decide) (by decide)
      · exact ⟨k, _, x, c, Or.inl ⟨a, p1, z, e1, rfl, K⟩⟩
      · exact ⟨k, _, x, c, Or.inr ⟨e, by unfold bPort; rw [if_pos z, e1, bnd_l], K⟩⟩
    · exact ⟨_, _, mf_am K _ _ _, Ch.rf _ _, Or.inr ⟨_, by unfold bPort; rw [if_neg (by rw [z]; decide)], K⟩⟩
  have hM2 := (hM.to c1.1).to c2.1
  have t2 := m_tellsOf hM2 (w := 0) (by decide) r2
  have w2 := mw_c k2 (o := 7) (by decide) (36 + 0) r2
  have l2 := ML.w k2 (o := 7) (j := 36 + 0) (by decide) (by decide) r2
  obtain ⟨k3, r3, x3, c3, O3⟩ : ∃ k r, DX12_number_ (sI (sI (sL (sR fr0 0 oM) 1 (lN 8798)) 3 (nI 0)) 4 (nI 3)) (wI k2 (oM + 7) (36 + 0) r2) = some (r, k) ∧ Ch mTD (wI k2 (oM + 7) (36 + 0) r2) k ∧ ((∃ a p1 b p2, isW B n p 0 = true ∧ pA B n 1 1 13 (nxt B n p) = .inr (a, p1) ∧ r2 = nI a ∧ pA B n 2 0 4 p1 = .inr (b, p2) ∧ r = nI b ∧ MRd B n p2 k) ∨ ∃ e, bPort B n p P = .inl e ∧ MFl e k) := by
    obtain ⟨a, p1, z, e1, rfl, K⟩ | ⟨e, e1, K⟩ := O2
    · obtain ⟨k, r, x, c, ⟨b, p2, e2, rfl, K, -, -⟩ | ⟨e, e2, K⟩⟩ := mr_am (K.to w2 mW0 mW5) (lo := 0) (top := 4) (x := nI 3) (j := 2) (c := lN 8798) cdw_2.symm (by decide) (by decide) (by decide)
      · exact ⟨k, _, x, c, Or.inl ⟨a, p1, b, p2, z, e1, rfl, e2, rfl, K⟩⟩
      · exact ⟨k, _, x, c, Or.inr ⟨e, by unfold bPort; rw [if_pos z, e1, bnd_r, e2, bnd_l], K⟩⟩
    · exact ⟨_, _, mf_am (K.to w2 mW0) _ _ _, Ch.rf _ _, Or.inr ⟨_, e1, K.to w2 mW0⟩⟩
  have hM3 := (hM2.to w2.1).to c3.1
  have t3 := m_tellsOf hM3 (w := 1) (by decide) r3
  have w3 := mw_c k3 (o := 7) (by decide) (36 + 1) r3
  have l3 := ML.w k3 (o := 7) (j := 36 + 1) (by decide) (by decide) r3
  obtain ⟨k4, r4, x4, c4, O4⟩ : ∃ k r, DX12_number_ (sI (sI (sL (sR fr0 0 oM) 1 (lN 298288)) 3 (nI 0)) 4 (nI 10)) (wI k3 (oM + 7) (36 + 1) r3) = some (r, k) ∧ Ch mTD (wI k3 (oM + 7) (36 + 1) r3) k ∧ ((∃ a p1 b p2 c p3, isW B n p 0 = true ∧ pA B n 1 1 13 (nxt B n p) = .inr (a, p1) ∧ r2 = nI a ∧ pA B n 2 0 4 p1 = .inr (b, p2) ∧ r3 = nI b ∧ pA B n 3 0 11 p2 = .inr (c, p3) ∧ r = nI c ∧ MRd B n p3 k) ∨ ∃ e, bPort B n p P = .inl e ∧ MFl e k) := by
    obtain ⟨a, p1, b, p2, z, e1, f1, e2, rfl, K⟩ | ⟨e, e1, K⟩ := O3
    · obtain ⟨k, r, x, cc, ⟨c, p3, e3, rfl, K, -, -⟩ | ⟨e, e3, K⟩⟩ := mr_am (K.to w3 mW0 mW5) (lo := 0) (top := 11) (x := nI 10) (j := 3) (c := lN 298288) cdw_3.symm (by decide) (by decide) (by decide)
      · exact ⟨k, _, x, cc, Or.inl ⟨a, p1, b, p2, c, p3, z, e1, f1, e2, rfl, e3, rfl, K⟩⟩
      · exact ⟨k, _, x, cc, Or.inr ⟨e, by unfold bPort; rw [if_pos z, e1, bnd_r, e2, bnd_r, e3, bnd_l], K⟩⟩
    · exact ⟨_, _, mf_am (K.to w3 mW0) _ _ _, Ch.rf _ _, Or.inr ⟨_, e1, K.to w3 mW0⟩⟩
  have hM4 := (hM3.to w3.1).to c4.1
  have t4 := m_tellsOf hM4 (w := 2) (by decide) r4
  have w4 := mw_c k4 (o := 7) (by decide) (36 + 2) r4
  have l4 := ML.w k4 (o := 7) (j := 36 + 2) (by decide) (by decide) r4
  refine ⟨_, ?_, ((((((ML.tm c1).tr (ML.tm c2)).tr l2).tr (ML.tm c3)).tr l3).tr (ML.tm c4)).tr l4, ?_⟩
  · unfold SFirst
    simp (disch := omega) only [nI_n10, ob_t, ob_n, ob_ite, e_cI, e_cL, e_cR, e_vI, e_vL, e_vR, e_d2, e_d2_a, e_d2_b, e_d2z, e_d2z_a, e_d2z_b, e_d1, e_d1_a, e_GI, e_GI_a, e_GL, e_GL_a, e_GR, e_GR_a, e_AI, e_AI_a, e_AI_b, e_AB, e_AB_a, e_AB_b, e_AZ, e_AZ_a, e_AZ_b, e_AL, e_AL_a, e_AL_b, e_AR, e_AR_a, e_AR_b, e_Len, e_Len_a, e_CI, e_CI_a, e_CI_b, e_CZ, e_CZ_a, e_And, e_kAnd, e_Or, e_kOr, e_Not, e_kNot, e_B, e_kB, e_T, e_kT, e_NN, e_kNN, e_NewA, e_NewA_a, e_NewC, e_kNewC, e_aN, e_aI, e_aI_a, e_aI_b, e_aL, e_aL_a, e_aL_b, e_aR, e_aR_a, e_aR_b, e_Call, e_kCall, e_CallV, e_kCallV, e_SetI, e_kSetI, e_SetL, e_kSetL, e_SetR, e_kSetR, e_Inc, e_Skip, e_Brk, e_Cnt, e_Ret, e_kRet, e_Ret0, e_Seq, e_kSeq0, e_kSeq1, e_kSeq2, e_kSeqR, e_If, e_kIf, e_Do, e_kDo, e_Sup, e_kN0, e_d3, e_k3a, e_k3b, e_k3c, e_P, e_kPa, e_kPb, e_UA, e_kUAa, e_kUAb, e_kUAc, e_UL, e_kULa, e_kULb, e_kULc, e_UF, e_kUFa, e_kUFb, e_Cp, e_kCp, e_Sw, e_kSwa, e_kSwb0, e_kSwb1, e_kSwbR, e_M1, e_kM1, e_MZ, e_kMZ, e_MN, e_kMN, e_Tv, e_kTv, e_Tc, e_kTc, e_lpS, e_kLp, e_kLpB0, e_kLpB1, e_kLpB2, e_kLpBR, e_kLpU, e_dwS, e_kDwB0, e_kDwC, f_II, f_LL, f_RR, f_IL, f_IR, f_LI, f_LR, f_RI, f_RL, and_true, true_and, and_false, false_and, or_true, true_or, or_false, false_or, not_true_eq_false, not_false_eq_true, if_true, if_false, ite_self, Bool.not_true, Bool.not_false, Bool.false_eq_true, Bool.true_eq_false, decide_true, decide_false, ne_eq, reduceIte, Nat.reduceEqDiff, Option.some.injEq, Prod.mk.injEq, eq_self, r_lt, r_le, r_gt, r_ge, r_eq, r_ne, q_lt, q_le, q_gt, q_ge, q_eq, q_ne, decide_eq_true_eq, b01, b0, b1, o_iadd, o_imul, n_inb, nI_clamp, w_hr, w_hk, w_hl, w_eq, w_ne, wl_hr, wl_hk, wl_hi, wl_eq, wl_ne, stI, idI, fI, fL, f_ss, f_sR, f_sL, lc0, lc1, lc01, fa_lit, fa_litL, hM.k, x1, x2, x3, x4, t2, t3, t4, c1.1.1, c1.1.2.1, c2.1.1, c2.1.2.1, c3.1.1, c3.1.2.1, c4.1.1, c4.1.2.1]
  · obtain ⟨a, p1, b, p2, c, p3, z, e1, rfl, e2, rfl, e3, rfl, K⟩ | ⟨e, e1, K⟩ := O4
    · have R1 := (((R.to c1 mT6).to c2 mT6).w (j := 0) (k := 1) (Or.inl (by decide)) a).to c3 mT6
      have R2 := (R1.w (j := 0) (k := 2) (Or.inl (by decide)) b).to c4 mT6
      have R3 := R2.w (j := 0) (k := 3) (Or.inl (by decide)) c
      refine Or.inl ⟨p3, _, by unfold bPort; rw [if_pos z, e1, bnd_r, e2, bnd_r, e3, bnd_r], K.to w4 mW0 mW5, R3.mono ?_⟩
      rintro a b ⟨hz, h9⟩
      obtain y | y := pin_gen (P := P) (d4 := 0) (d5 := 0) (d6 := 0) (d7 := 0) (d9 := 0) (by simp [up]) (by simp [up]) (by simp [up]) (by simp [up]) (by simp [up]) (fun s _ => by simp [up]) hz
      · exact Or.inl (Or.inl (Or.inl ⟨y, h9⟩))
      · omega
    · exact Or.inr ⟨e, e1, K.to w4 mW0⟩
def mpC (f : Fr) : Fr := sR fr0 0 (gR f 0)
noncomputable def mpG : Cd := dAnd (dCZ q_ne (dCallV 12 DX12_isGood (aR aN 0 (vR 0)))) (dCZ q_ne (dGI 12 8 (vR 0)))
def mpX : Cd := dCZ q_eq (dAI (dGR 12 16 (vR 0)) (cI 4))
noncomputable def mpE : Sm Int32 := dSeq (dIf (dCZ q_ne (dCallV 12 DX12_isGood (aR aN 0 (vR 0)))) (dDo (dCallV 12 DX12_ends (aR aN 0 (vR 0)))) dSkip) (dUA o_iadd (dGR 12 16 (vR 0)) (cI 4) (cI 1))
noncomputable def mpB : Sm Int32 := dSeq (dIf mpX SFirst (dDo (dCallV 12 DX12_lineHere (aR aN 0 (vR 0))))) mpE
theorem port_loop_is : LX12_port_1 = dLoop mpC mpG mpB dSkip := rfl
theorem mp_line (H : MRd B n p h) (R : RMc (PIM P) h P) (hW : WB P) (h00 : P 0 0 < 1000) : ∃ g, (dIf mpX SFirst (dDo (dCallV 12 DX12_lineHere (aR aN 0 (vR 0))))) (sR fr0 0 oM) h = some (.inl 0, sR fr0 0 oM, g) ∧ ML h g ∧ OutM B n (bLine B n p P) g := by
  have hM := H.1.1.1
  have k0 := R.q0
  by_cases z0 : P 0 0 = 0
  · have e0 : (nI (P 0 0) = nI 0) = True := eq_true (by rw [z0])
    have cx : mpX (sR fr0 0 oM) h = some (true, h) := by
      unfold mpX
      simp (disch := omega) only [nI_n10, ob_t, ob_n, ob_ite, e_cI, e_cL, e_cR, e_vI, e_vL, e_vR, e_d2, e_d2_a, e_d2_b, e_d2z, e_d2z_a, e_d2z_b, e_d1, e_d1_a, e_GI, e_GI_a, e_GL, e_GL_a, e_GR, e_GR_a, e_AI, e_AI_a, e_AI_b, e_AB, e_AB_a, e_AB_b, e_AZ, e_AZ_a, e_AZ_b, e_AL, e_AL_a, e_AL_b, e_AR, e_AR_a, e_AR_b, e_Len, e_Len_a, e_CI, e_CI_a, e_CI_b, e_CZ, e_CZ_a, e_And, e_kAnd, e_Or, e_kOr, e_Not, e_kNot, e_B, e_kB, e_T, e_kT, e_NN, e_kNN, e_NewA, e_NewA_a, e_NewC, e_kNewC, e_aN, e_aI, e_aI_a, e_aI_b, e_aL, e_aL_a, e_aL_b, e_aR, e_aR_a, e_aR_b, e_Call, e_kCall, e_CallV, e_kCallV, e_SetI, e_kSetI, e_SetL, e_kSetL, e_SetR, e_kSetR, e_Inc, e_Skip, e_Brk, e_Cnt, e_Ret, e_kRet, e_Ret0, e_Seq, e_kSeq0, e_kSeq1, e_kSeq2, e_kSeqR, e_If, e_kIf, e_Do, e_kDo, e_Sup, e_kN0, e_d3, e_k3a, e_k3b, e_k3c, e_P, e_kPa, e_kPb, e_UA, e_kUAa, e_kUAb, e_kUAc, e_UL, e_kULa, e_kULb, e_kULc, e_UF, e_kUFa, e_kUFb, e_Cp, e_kCp, e_Sw, e_kSwa, e_kSwb0, e_kSwb1, e_kSwbR, e_M1, e_kM1, e_MZ, e_kMZ, e_MN, e_kMN, e_Tv, e_kTv, e_Tc, e_kTc, e_lpS, e_kLp, e_kLpB0, e_kLpB1, e_kLpB2, e_kLpBR, e_kLpU, e_dwS, e_kDwB0, e_kDwC, f_II, f_LL, f_RR, f_IL, f_IR, f_LI, f_LR, f_RI, f_RL, and_true, true_and, and_false, false_and, or_true, true_or, or_false, false_or, not_true_eq_false, not_false_eq_true, if_true, if_false, ite_self, Bool.not_true, Bool.not_false, Bool.false_eq_true, Bool.true_eq_false, decide_true, decide_false, ne_eq, reduceIte, Nat.reduceEqDiff, Option.some.injEq, Prod.mk.injEq, eq_self, r_lt, r_le, r_gt, r_ge, r_eq, r_ne, q_lt, q_le, q_gt, q_ge, q_eq, q_ne, decide_eq_true_eq, b01, b0, b1, o_iadd, o_imul, n_inb, nI_clamp, w_hr, w_hk, w_hl, w_eq, w_ne, wl_hr, wl_hk, wl_hi, wl_eq, wl_ne, stI, idI, fI, fL, f_ss, f_sR, f_sL, lc0, lc1, lc01, fa_lit, fa_litL, hM.k, hM.k1, hM.k2, hM.k3, hM.k4, hM.k5, hM.k6, hM.k7, hM.k8, hM.k9, hM.k10, hM.k11, hM.k12, hM.k13, hM.k14, hM.k15, hM.k16, hM.k17, hM.k18, hM.k19, hM.k20, hM.k21, hM.k22, hM.k23, hM.k24, hM.k25, hM.k26, hM.k27, hM.k28, hM.k29, hM.k30, hM.k31, hM.k32, hM.k33, hM.k34, hM.k35, hM.r1, hM.r2, hM.r3, hM.r4, hM.r5, hM.r16, hM.r17, hM.r18, hM.r19, hM.r20, hM.r21, hM.r22, hM.r23, hM.r24, hM.r25, hM.r26, hM.r31, hM.r32, hM.r33, hM.r34, hM.r35, hM.r36, hM.r37, hM.r38, hM.r39, hM.r40, hM.r41, hM.r42, hM.r43, hM.r44, hM.r47, hM.r48, hM.r49, hM.r50, hM.r54, k0, e0]
    obtain ⟨g, x1, l1, O⟩ := ml_first H R
    refine ⟨g, by rw [i_t cx, x1], l1, ?_⟩
    unfold bLine
    rw [if_pos z0]
    exact O
  · have e0 : (nI (P 0 0) = nI 0) = False := by rw [nI_eq (by omega) (by decide)]; exact eq_false z0
    have cx : mpX (sR fr0 0 oM) h = some (false, h) := by
      unfold mpX
      simp (disch := omega) only [nI_n10, ob_t, ob_n, ob_ite, e_cI, e_cL, e_cR, e_vI, e_vL, e_vR, e_d2, e_d2_a, e_d2_b, e_d2z, e_d2z_a, e_d2z_b, e_d1, e_d1_a, e_GI, e_GI_a, e_GL, e_GL_a, e_GR, e_GR_a, e_AI, e_AI_a, e_AI_b, e_AB, e_AB_a, e_AB_b, e_AZ, e_AZ_a, e_AZ_b, e_AL, e_AL_a, e_AL_b, e_AR, e_AR_a, e_AR_b, e_Len, e_Len_a, e_CI, e_CI_a, e_CI_b, e_CZ, e_CZ_a, e_And, e_kAnd, e_Or, e_kOr, e_Not, e_kNot, e_B, e_kB, e_T, e_kT, e_NN, e_kNN, e_NewA, e_NewA_a, e_NewC, e_kNewC, e_aN, e_aI, e_aI_a, e_aI_b, e_aL, e_aL_a, e_aL_b, e_aR, e_aR_a, e_aR_b, e_Call, e_kCall, e_CallV, e_kCallV, e_SetI, e_kSetI, e_SetL, e_kSetL, e_SetR, e_kSetR, e_Inc, e_Skip, e_Brk, e_Cnt, e_Ret, e_kRet, e_Ret0, e_Seq, e_kSeq0, e_kSeq1, e_kSeq2, e_kSeqR, e_If, e_kIf, e_Do, e_kDo, e_Sup, e_kN0, e_d3, e_k3a, e_k3b, e_k3c, e_P, e_kPa, e_kPb, e_UA, e_kUAa, e_kUAb, e_kUAc, e_UL, e_kULa, e_kULb, e_kULc, e_UF, e_kUFa, e_kUFb, e_Cp, e_kCp, e_Sw, e_kSwa, e_kSwb0, e_kSwb1, e_kSwbR, e_M1, e_kM1, e_MZ, e_kMZ, e_MN, e_kMN, e_Tv, e_kTv, e_Tc, e_kTc, e_lpS, e_kLp, e_kLpB0, e_kLpB1, e_kLpB2, e_kLpBR, e_kLpU, e_dwS, e_kDwB0, e_kDwC, f_II, f_LL, f_RR, f_IL, f_IR, f_LI, f_LR, f_RI, f_RL, and_true, true_and, and_false, false_and, or_true, true_or, or_false, false_or, not_true_eq_false, not_false_eq_true, if_true, if_false, ite_self, Bool.not_true, Bool.not_false, Bool.false_eq_true, Bool.true_eq_false, decide_true, decide_false, ne_eq, reduceIte, Nat.reduceEqDiff, Option.some.injEq, Prod.mk.injEq, eq_self, r_lt, r_le, r_gt, r_ge, r_eq, r_ne, q_lt, q_le, q_gt, q_ge, q_eq, q_ne, decide_eq_true_eq, b01, b0, b1, o_iadd, o_imul, n_inb, nI_clamp, w_hr, w_hk, w_hl, w_eq, w_ne, wl_hr, wl_hk, wl_hi, wl_eq, wl_ne, stI, idI, fI, fL, f_ss, f_sR, f_sL, lc0, lc1, lc01, fa_lit, fa_litL, hM.k, hM.k1, hM.k2, hM.k3, hM.k4, hM.k5, hM.k6, hM.k7, hM.k8, hM.k9, hM.k10, hM.k11, hM.k12, hM.k13, hM.k14, hM.k15, hM.k16, hM.k17, hM.k18, hM.k19, hM.k20, hM.k21, hM.k22, hM.k23, hM.k24, hM.k25, hM.k26, hM.k27, hM.k28, hM.k29, hM.k30, hM.k31, hM.k32, hM.k33, hM.k34, hM.k35, hM.r1, hM.r2, hM.r3, hM.r4, hM.r5, hM.r16, hM.r17, hM.r18, hM.r19, hM.r20, hM.r21, hM.r22, hM.r23, hM.r24, hM.r25, hM.r26, hM.r31, hM.r32, hM.r33, hM.r34, hM.r35, hM.r36, hM.r37, hM.r38, hM.r39, hM.r40, hM.r41, hM.r42, hM.r43, hM.r44, hM.r47, hM.r48, hM.r49, hM.r50, hM.r54, k0, e0]
    obtain ⟨g, x1, l1, O⟩ := ml_line H R hW z0
    exact ⟨g, by rw [i_f cx, do_c hM x1], l1, O⟩
theorem mp_step (H : MRd B n p h) (R : RMc (PIM P) h P) (hW : WQ P) (h00 : P 0 0 ≤ 800) : ∃ g, mpB (sR fr0 0 oM) h = some (.inl 0, sR fr0 0 oM, g) ∧ ML h g ∧ OutM B n (bFull B n p P) g := by
  obtain ⟨g1, x1, l1, O⟩ := mp_line H R hW.1 (by omega)
  have hM1 : MS g1 oM := H.1.1.1.to l1.1.1
  obtain ⟨p1, Q, e1, K, R1⟩ | ⟨e, e1, K⟩ := O
  · have q3 := (ok_line hW e1).2.2
    have f12 := K.2
    obtain ⟨g2, x2, c2, O2⟩ := mr_ends K
    have R2 := R1.to c2 mT6
    have k0 := R2.q0
    rw [q3] at k0
    have e5 : nI (P 0 0) + nI 1 = nI (P 0 0 + 1) := nI_add _ _
    have hM := hM1.to c2.1
    have w3 := mw_c g2 (o := 6) (by decide) 4 (nI (P 0 0 + 1))
    have l3 := ML.w g2 (o := 6) (j := 4) (by decide) (by decide) (nI (P 0 0 + 1))
    have xe : mpE (sR fr0 0 oM) g1 = some (.inl 0, sR fr0 0 oM, wI g2 (oM + 6) 4 (nI (P 0 0 + 1))) := by
      unfold mpE
      simp (disch := omega) only [nI_n10, ob_t, ob_n, ob_ite, e_cI, e_cL, e_cR, e_vI, e_vL, e_vR, e_d2, e_d2_a, e_d2_b, e_d2z, e_d2z_a, e_d2z_b, e_d1, e_d1_a, e_GI, e_GI_a, e_GL, e_GL_a, e_GR, e_GR_a, e_AI, e_AI_a, e_AI_b, e_AB, e_AB_a, e_AB_b, e_AZ, e_AZ_a, e_AZ_b, e_AL, e_AL_a, e_AL_b, e_AR, e_AR_a, e_AR_b, e_Len, e_Len_a, e_CI, e_CI_a, e_CI_b, e_CZ, e_CZ_a, e_And, e_kAnd, e_Or, e_kOr, e_Not, e_kNot, e_B, e_kB, e_T, e_kT, e_NN, e_kNN, e_NewA, e_NewA_a, e_NewC, e_kNewC, e_aN, e_aI, e_aI_a, e_aI_b, e_aL, e_aL_a, e_aL_b, e_aR, e_aR_a, e_aR_b, e_Call, e_kCall, e_CallV, e_kCallV, e_SetI, e_kSetI, e_SetL, e_kSetL, e_SetR, e_kSetR, e_Inc, e_Skip, e_Brk, e_Cnt, e_Ret, e_kRet, e_Ret0, e_Seq, e_kSeq0, e_kSeq1, e_kSeq2, e_kSeqR, e_If, e_kIf, e_Do, e_kDo, e_Sup, e_kN0, e_d3, e_k3a, e_k3b, e_k3c, e_P, e_kPa, e_kPb, e_UA, e_kUAa, e_kUAb, e_kUAc, e_UL, e_kULa, e_kULb, e_kULc, e_UF, e_kUFa, e_kUFb, e_Cp, e_kCp, e_Sw, e_kSwa, e_kSwb0, e_kSwb1, e_kSwbR, e_M1, e_kM1, e_MZ, e_kMZ, e_MN, e_kMN, e_Tv, e_kTv, e_Tc, e_kTc, e_lpS, e_kLp, e_kLpB0, e_kLpB1, e_kLpB2, e_kLpBR, e_kLpU, e_dwS, e_kDwB0, e_kDwC, f_II, f_LL, f_RR, f_IL, f_IR, f_LI, f_LR, f_RI, f_RL, and_true, true_and, and_false, false_and, or_true, true_or, or_false, false_or, not_true_eq_false, not_false_eq_true, if_true, if_false, ite_self, Bool.not_true, Bool.not_false, Bool.false_eq_true, Bool.true_eq_false, decide_true, decide_false, ne_eq, reduceIte, Nat.reduceEqDiff, Option.some.injEq, Prod.mk.injEq, eq_self, r_lt, r_le, r_gt, r_ge, r_eq, r_ne, q_lt, q_le, q_gt, q_ge, q_eq, q_ne, decide_eq_true_eq, b01, b0, b1, o_iadd, o_imul, n_inb, nI_clamp, w_hr, w_hk, w_hl, w_eq, w_ne, wl_hr, wl_hk, wl_hi, wl_eq, wl_ne, stI, idI, fI, fL, f_ss, f_sR, f_sL, lc0, lc1, lc01, fa_lit, fa_litL, hM.k, hM.k1, hM.k2, hM.k3, hM.k4, hM.k5, hM.k6, hM.k7, hM.k8, hM.k9, hM.k10, hM.k11, hM.k12, hM.k13, hM.k14, hM.k15, hM.k16, hM.k17, hM.k18, hM.k19, hM.k20, hM.k21, hM.k22, hM.k23, hM.k24, hM.k25, hM.k26, hM.k27, hM.k28, hM.k29, hM.k30, hM.k31, hM.k32, hM.k33, hM.k34, hM.k35, hM.r1, hM.r2, hM.r3, hM.r4, hM.r5, hM.r16, hM.r17, hM.r18, hM.r19, hM.r20, hM.r21, hM.r22, hM.r23, hM.r24, hM.r25, hM.r26, hM.r31, hM.r32, hM.r33, hM.r34, hM.r35, hM.r36, hM.r37, hM.r38, hM.r39, hM.r40, hM.r41, hM.r42, hM.r43, hM.r44, hM.r47, hM.r48, hM.r49, hM.r50, hM.r54, DX12_isGood, BX12_isGood, hM1.k, f12, x2, k0, e5]
    refine ⟨_, ?_, (l1.tr (ML.tm c2)).tr l3, ?_⟩
    · unfold mpB
      rw [e_Seq, x1, ob_t, e_kSeq0, xe]
    · unfold bFull
      rw [e1, bnd_r]
      obtain ⟨z, K2⟩ | ⟨z, K2⟩ := O2
      · rw [if_pos z]
        refine Or.inl ⟨_, _, rfl, K2.to w3 mW0 mW5, (R2.w (j := 0) (k := 0) (Or.inl (by decide)) (P 0 0 + 1)).mono ?_⟩
        rintro a b ⟨hz, h9⟩
        obtain y | y := pin_gen (P := Q) (d4 := 0) (d5 := 0) (d6 := 0) (d7 := 0) (d9 := 0) (by simp [up]) (by simp [up]) (by simp [up]) (by simp [up]) (by simp [up]) (fun s _ => by simp [up]) hz
        · exact Or.inl ⟨y, h9⟩
        · omega
      · rw [if_neg z]
        exact Or.inr ⟨_, rfl, K2.to w3 mW0⟩
  · obtain ⟨y0, f1, f2⟩ := K.ne
    have hM := hM1
    have w3 := mw_c g1 (o := 6) (by decide) 4 (hi g1 (oM + 6) 4 + nI 1)
    have l3 := ML.w g1 (o := 6) (j := 4) (by decide) (by decide) (hi g1 (oM + 6) 4 + nI 1)
    have xe : mpE (sR fr0 0 oM) g1 = some (.inl 0, sR fr0 0 oM, wI g1 (oM + 6) 4 (hi g1 (oM + 6) 4 + nI 1)) := by
      unfold mpE
      simp (disch := omega) only [nI_n10, ob_t, ob_n, ob_ite, e_cI, e_cL, e_cR, e_vI, e_vL, e_vR, e_d2, e_d2_a, e_d2_b, e_d2z, e_d2z_a, e_d2z_b, e_d1, e_d1_a, e_GI, e_GI_a, e_GL, e_GL_a, e_GR, e_GR_a, e_AI, e_AI_a, e_AI_b, e_AB, e_AB_a, e_AB_b, e_AZ, e_AZ_a, e_AZ_b, e_AL, e_AL_a, e_AL_b, e_AR, e_AR_a, e_AR_b, e_Len, e_Len_a, e_CI, e_CI_a, e_CI_b, e_CZ, e_CZ_a, e_And, e_kAnd, e_Or, e_kOr, e_Not, e_kNot, e_B, e_kB, e_T, e_kT, e_NN, e_kNN, e_NewA, e_NewA_a, e_NewC, e_kNewC, e_aN, e_aI, e_aI_a, e_aI_b, e_aL, e_aL_a, e_aL_b, e_aR, e_aR_a, e_aR_b, e_Call, e_kCall, e_CallV, e_kCallV, e_SetI, e_kSetI, e_SetL, e_kSetL, e_SetR, e_kSetR, e_Inc, e_Skip, e_Brk, e_Cnt, e_Ret, e_kRet, e_Ret0, e_Seq, e_kSeq0, e_kSeq1, e_kSeq2, e_kSeqR, e_If, e_kIf, e_Do, e_kDo, e_Sup, e_kN0, e_d3, e_k3a, e_k3b, e_k3c, e_P, e_kPa, e_kPb, e_UA, e_kUAa, e_kUAb, e_kUAc, e_UL, e_kULa, e_kULb, e_kULc, e_UF, e_kUFa, e_kUFb, e_Cp, e_kCp, e_Sw, e_kSwa, e_kSwb0, e_kSwb1, e_kSwbR, e_M1, e_kM1, e_MZ, e_kMZ, e_MN, e_kMN, e_Tv, e_kTv, e_Tc, e_kTc, e_lpS, e_kLp, e_kLpB0, e_kLpB1, e_kLpB2, e_kLpBR, e_kLpU, e_dwS, e_kDwB0, e_kDwC, f_II, f_LL, f_RR, f_IL, f_IR, f_LI, f_LR, f_RI, f_RL, and_true, true_and, and_false, false_and, or_true, true_or, or_false, false_or, not_true_eq_false, not_false_eq_true, if_true, if_false, ite_self, Bool.not_true, Bool.not_false, Bool.false_eq_true, Bool.true_eq_false, decide_true, decide_false, ne_eq, reduceIte, Nat.reduceEqDiff, Option.some.injEq, Prod.mk.injEq, eq_self, r_lt, r_le, r_gt, r_ge, r_eq, r_ne, q_lt, q_le, q_gt, q_ge, q_eq, q_ne, decide_eq_true_eq, b01, b0, b1, o_iadd, o_imul, n_inb, nI_clamp, w_hr, w_hk, w_hl, w_eq, w_ne, wl_hr, wl_hk, wl_hi, wl_eq, wl_ne, stI, idI, fI, fL, f_ss, f_sR, f_sL, lc0, lc1, lc01, fa_lit, fa_litL, hM.k, hM.k1, hM.k2, hM.k3, hM.k4, hM.k5, hM.k6, hM.k7, hM.k8, hM.k9, hM.k10, hM.k11, hM.k12, hM.k13, hM.k14, hM.k15, hM.k16, hM.k17, hM.k18, hM.k19, hM.k20, hM.k21, hM.k22, hM.k23, hM.k24, hM.k25, hM.k26, hM.k27, hM.k28, hM.k29, hM.k30, hM.k31, hM.k32, hM.k33, hM.k34, hM.k35, hM.r1, hM.r2, hM.r3, hM.r4, hM.r5, hM.r16, hM.r17, hM.r18, hM.r19, hM.r20, hM.r21, hM.r22, hM.r23, hM.r24, hM.r25, hM.r26, hM.r31, hM.r32, hM.r33, hM.r34, hM.r35, hM.r36, hM.r37, hM.r38, hM.r39, hM.r40, hM.r41, hM.r42, hM.r43, hM.r44, hM.r47, hM.r48, hM.r49, hM.r50, hM.r54, DX12_isGood, BX12_isGood, f1, f2]
    refine ⟨_, ?_, l1.tr l3, Or.inr ⟨e, ?_, K.to w3 mW0⟩⟩
    · unfold mpB
      rw [e_Seq, x1, ob_t, e_kSeq0, xe]
    · unfold bFull
      rw [e1, bnd_l]
theorem mp_loop : ∀ (f p : Nat) (P : PT) (h : St), n < p + f → P 0 0 ≤ p → WQ P → MRd B n p h → RMc (PIM P) h P → ∃ g, iter (lpS mpC mpG mpB dSkip) (sR fr0 0 oM, h) = some (.inl 0, sR fr0 0 oM, g) ∧ ML h g ∧ ((∃ P' p', bAll B n f p P = .inr P' ∧ MRd B n p' g ∧ RMc (PIM P') g P' ∧ WQ P' ∧ P' 0 0 ≤ 800) ∨ ∃ e, bAll B n f p P = .inl e ∧ MFl e g) := by
  intro f
  induction f with
  | zero => intro p P h hn1 _ _ H; have := H.1.2.1; omega
  | succ f ih =>
    intro p P h hn1 h00 hW H R
    have hM := H.1.1.1
    have hn8 := H.1.1.2.1
    have hpn := H.1.2.1
    have s8 := H.1.2.2.1
    have s12 := H.2
    have hkd := kd_le (B := B) (n := n) (q := p)
    unfold bAll
    by_cases z : p < n
    · rw [if_pos z]
      have kp := kb_pos (B p)
      have e2 : (nI (kd B n p) = nI 0) = False := by rw [nI_eq (by omega) (by decide)]; exact eq_false (by rw [kd_lt z]; omega)
      have cnd : mpG (sR fr0 0 oM) h = some (true, h) := by
        unfold mpG
        simp (disch := omega) only [DX12_isGood, BX12_isGood, nI_n10, ob_t, ob_n, ob_ite, e_cI, e_cL, e_cR, e_vI, e_vL, e_vR, e_d2, e_d2_a, e_d2_b, e_d2z, e_d2z_a, e_d2z_b, e_d1, e_d1_a, e_GI, e_GI_a, e_GL, e_GL_a, e_GR, e_GR_a, e_AI, e_AI_a, e_AI_b, e_AB, e_AB_a, e_AB_b, e_AZ, e_AZ_a, e_AZ_b, e_AL, e_AL_a, e_AL_b, e_AR, e_AR_a, e_AR_b, e_Len, e_Len_a, e_CI, e_CI_a, e_CI_b, e_CZ, e_CZ_a, e_And, e_kAnd, e_Or, e_kOr, e_Not, e_kNot, e_B, e_kB, e_T, e_kT, e_NN, e_kNN, e_NewA, e_NewA_a, e_NewC, e_kNewC, e_aN, e_aI, e_aI_a, e_aI_b, e_aL, e_aL_a, e_aL_b, e_aR, e_aR_a, e_aR_b, e_Call, e_kCall, e_CallV, e_kCallV, e_SetI, e_kSetI, e_SetL, e_kSetL, e_SetR, e_kSetR, e_Inc, e_Skip, e_Brk, e_Cnt, e_Ret, e_kRet, e_Ret0, e_Seq, e_kSeq0, e_kSeq1, e_kSeq2, e_kSeqR, e_If, e_kIf, e_Do, e_kDo, e_Sup, e_kN0, e_d3, e_k3a, e_k3b, e_k3c, e_P, e_kPa, e_kPb, e_UA, e_kUAa, e_kUAb, e_kUAc, e_UL, e_kULa, e_kULb, e_kULc, e_UF, e_kUFa, e_kUFb, e_Cp, e_kCp, e_Sw, e_kSwa, e_kSwb0, e_kSwb1, e_kSwbR, e_M1, e_kM1, e_MZ, e_kMZ, e_MN, e_kMN, e_Tv, e_kTv, e_Tc, e_kTc, e_lpS, e_kLp, e_kLpB0, e_kLpB1, e_kLpB2, e_kLpBR, e_kLpU, e_dwS, e_kDwB0, e_kDwC, f_II, f_LL, f_RR, f_IL, f_IR, f_LI, f_LR, f_RI, f_RL, and_true, true_and, and_false, false_and, or_true, true_or, or_false, false_or, not_true_eq_false, not_false_eq_true, if_true, if_false, ite_self, Bool.not_true, Bool.not_false, Bool.false_eq_true, Bool.true_eq_false, decide_true, decide_false, ne_eq, reduceIte, Nat.reduceEqDiff, Option.some.injEq, Prod.mk.injEq, eq_self, r_lt, r_le, r_gt, r_ge, r_eq, r_ne, q_lt, q_le, q_gt, q_ge, q_eq, q_ne, decide_eq_true_eq, b01, b0, b1, o_iadd, o_imul, n_inb, nI_clamp, w_hr, w_hk, w_hl, w_eq, w_ne, wl_hr, wl_hk, wl_hi, wl_eq, wl_ne, stI, idI, fI, fL, f_ss, f_sR, f_sL, lc0, lc1, lc01, fa_lit, fa_litL, hM.k, s12, s8, e2]
      obtain ⟨g1, x1, l1, O⟩ := mp_step H R hW (by omega)
      have st : lpS mpC mpG mpB dSkip (sR fr0 0 oM, h) = some (.inl (sR fr0 0 oM, g1)) := by
        rw [e_lpS, cnd, ob_t, e_kLp, if_pos rfl, x1, ob_t, e_kLpB0, e_Skip, ob_t, e_kLpU]
        rfl
      rw [iter_inl st]
      obtain ⟨p1, Q, b1, K, R1⟩ | ⟨e, b1, K⟩ := O
      · obtain ⟨q1, q2, q3, q4⟩ := ok_full hW hpn b1
        rw [b1, bnd_r]
        obtain ⟨g, i1, i2, i3⟩ := ih p1 Q g1 (by omega) (by omega) q1 K R1
        exact ⟨g, i1, l1.tr i2, i3⟩
      · rw [b1, bnd_l]
        obtain ⟨y0, f1, f2⟩ := K.ne
        have hM1 := K.1
        refine ⟨g1, iter_inr ?_, l1, Or.inr ⟨e, rfl, K⟩⟩
        have cnd2 : mpG (sR fr0 0 oM) g1 = some (false, g1) := by
          unfold mpG
          simp (disch := omega) only [DX12_isGood, BX12_isGood, nI_n10, ob_t, ob_n, ob_ite, e_cI, e_cL, e_cR, e_vI, e_vL, e_vR, e_d2, e_d2_a, e_d2_b, e_d2z, e_d2z_a, e_d2z_b, e_d1, e_d1_a, e_GI, e_GI_a, e_GL, e_GL_a, e_GR, e_GR_a, e_AI, e_AI_a, e_AI_b, e_AB, e_AB_a, e_AB_b, e_AZ, e_AZ_a, e_AZ_b, e_AL, e_AL_a, e_AL_b, e_AR, e_AR_a, e_AR_b, e_Len, e_Len_a, e_CI, e_CI_a, e_CI_b, e_CZ, e_CZ_a, e_And, e_kAnd, e_Or, e_kOr, e_Not, e_kNot, e_B, e_kB, e_T, e_kT, e_NN, e_kNN, e_NewA, e_NewA_a, e_NewC, e_kNewC, e_aN, e_aI, e_aI_a, e_aI_b, e_aL, e_aL_a, e_aL_b, e_aR, e_aR_a, e_aR_b, e_Call, e_kCall, e_CallV, e_kCallV, e_SetI, e_kSetI, e_SetL, e_kSetL, e_SetR, e_kSetR, e_Inc, e_Skip, e_Brk, e_Cnt, e_Ret, e_kRet, e_Ret0, e_Seq, e_kSeq0, e_kSeq1, e_kSeq2, e_kSeqR, e_If, e_kIf, e_Do, e_kDo, e_Sup, e_kN0, e_d3, e_k3a, e_k3b, e_k3c, e_P, e_kPa, e_kPb, e_UA, e_kUAa, e_kUAb, e_kUAc, e_UL, e_kULa, e_kULb, e_kULc, e_UF, e_kUFa, e_kUFb, e_Cp, e_kCp, e_Sw, e_kSwa, e_kSwb0, e_kSwb1, e_kSwbR, e_M1, e_kM1, e_MZ, e_kMZ, e_MN, e_kMN, e_Tv, e_kTv, e_Tc, e_kTc, e_lpS, e_kLp, e_kLpB0, e_kLpB1, e_kLpB2, e_kLpBR, e_kLpU, e_dwS, e_kDwB0, e_kDwC, f_II, f_LL, f_RR, f_IL, f_IR, f_LI, f_LR, f_RI, f_RL, and_true, true_and, and_false, false_and, or_true, true_or, or_false, false_or, not_true_eq_false, not_false_eq_true, if_true, if_false, ite_self, Bool.not_true, Bool.not_false, Bool.false_eq_true, Bool.true_eq_false, decide_true, decide_false, ne_eq, reduceIte, Nat.reduceEqDiff, Option.some.injEq, Prod.mk.injEq, eq_self, r_lt, r_le, r_gt, r_ge, r_eq, r_ne, q_lt, q_le, q_gt, q_ge, q_eq, q_ne, decide_eq_true_eq, b01, b0, b1, o_iadd, o_imul, n_inb, nI_clamp, w_hr, w_hk, w_hl, w_eq, w_ne, wl_hr, wl_hk, wl_hi, wl_eq, wl_ne, stI, idI, fI, fL, f_ss, f_sR, f_sL, lc0, lc1, lc01, fa_lit, fa_litL, hM1.k, f1, f2]
        rw [e_lpS, cnd2, ob_t, e_kLp, if_neg (by decide)]
    · rw [if_neg z]
      have e2 : (nI (kd B n p) = nI 0) = True := eq_true (by rw [kd_ge (by omega)])
      have cnd : mpG (sR fr0 0 oM) h = some (false, h) := by
        unfold mpG
        simp (disch := omega) only [DX12_isGood, BX12_isGood, nI_n10, ob_t, ob_n, ob_ite, e_cI, e_cL, e_cR, e_vI, e_vL, e_vR, e_d2, e_d2_a, e_d2_b, e_d2z, e_d2z_a, e_d2z_b, e_d1, e_d1_a, e_GI, e_GI_a, e_GL, e_GL_a, e_GR, e_GR_a, e_AI, e_AI_a, e_AI_b, e_AB, e_AB_a, e_AB_b, e_AZ, e_AZ_a, e_AZ_b, e_AL, e_AL_a, e_AL_b, e_AR, e_AR_a, e_AR_b, e_Len, e_Len_a, e_CI, e_CI_a, e_CI_b, e_CZ, e_CZ_a, e_And, e_kAnd, e_Or, e_kOr, e_Not, e_kNot, e_B, e_kB, e_T, e_kT, e_NN, e_kNN, e_NewA, e_NewA_a, e_NewC, e_kNewC, e_aN, e_aI, e_aI_a, e_aI_b, e_aL, e_aL_a, e_aL_b, e_aR, e_aR_a, e_aR_b, e_Call, e_kCall, e_CallV, e_kCallV, e_SetI, e_kSetI, e_SetL, e_kSetL, e_SetR, e_kSetR, e_Inc, e_Skip, e_Brk, e_Cnt, e_Ret, e_kRet, e_Ret0, e_Seq, e_kSeq0, e_kSeq1, e_kSeq2, e_kSeqR, e_If, e_kIf, e_Do, e_kDo, e_Sup, e_kN0, e_d3, e_k3a, e_k3b, e_k3c, e_P, e_kPa, e_kPb, e_UA, e_kUAa, e_kUAb, e_kUAc, e_UL, e_kULa, e_kULb, e_kULc, e_UF, e_kUFa, e_kUFb, e_Cp, e_kCp, e_Sw, e_kSwa, e_kSwb0, e_kSwb1, e_kSwbR, e_M1, e_kM1, e_MZ, e_kMZ, e_MN, e_kMN, e_Tv, e_kTv, e_Tc, e_kTc, e_lpS, e_kLp, e_kLpB0, e_kLpB1, e_kLpB2, e_kLpBR, e_kLpU, e_dwS, e_kDwB0, e_kDwC, f_II, f_LL, f_RR, f_IL, f_IR, f_LI, f_LR, f_RI, f_RL, and_true, true_and, and_false, false_and, or_true, true_or, or_false, false_or, not_true_eq_false, not_false_eq_true, if_true, if_false, ite_self, Bool.not_true, Bool.not_false, Bool.false_eq_true, Bool.true_eq_false, decide_true, decide_false, ne_eq, reduceIte, Nat.reduceEqDiff, Option.some.injEq, Prod.mk.injEq, eq_self, r_lt, r_le, r_gt, r_ge, r_eq, r_ne, q_lt, q_le, q_gt, q_ge, q_eq, q_ne, decide_eq_true_eq, b01, b0, b1, o_iadd, o_imul, n_inb, nI_clamp, w_hr, w_hk, w_hl, w_eq, w_ne, wl_hr, wl_hk, wl_hi, wl_eq, wl_ne, stI, idI, fI, fL, f_ss, f_sR, f_sL, lc0, lc1, lc01, fa_lit, fa_litL, hM.k, s12, s8, e2]
      refine ⟨h, iter_inr ?_, ML.rf _, Or.inl ⟨P, p, rfl, H, R, hW, by omega⟩⟩
      rw [e_lpS, cnd, ob_t, e_kLp, if_neg (by decide)]
end
