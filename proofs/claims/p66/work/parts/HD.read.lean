set_option maxRecDepth 100000
set_option maxHeartbeats 1000000
/-! the text of a PORT: the class reads all of it, on -/
def finP (P : PT) : PT := up P 9 0 (P 9 1)
section
variable {B : Nat → Int32} {n p p' : Nat} {h g : St} {P P' : PT}
def rdF (i : Nat) : Fr := sI (sR (sR (sR fr0 0 34) 1 32) 2 oQ) 3 (nI i)
def rdC (f : Fr) : Fr := sI (sR (sR (sR fr0 0 (gR f 0)) 1 (gR f 1)) 2 (gR f 2)) 3 (gI f 3)
noncomputable def rdB : Sm Int32 := dSeq (dIf (dOr (dNot (dCZ q_ne (dCallV 6 DX6_readLine (aR (aR (aR aN 0 (vR 0)) 1 (vR 1)) 2 (vR 2))))) (dNot (dCZ q_ne (dCallV 6 DX6_readSign (aR (aR aN 0 (vR 0)) 1 (vR 1)))))) (dRet (cI 0)) dSkip) (dUF 5 0 o_iadd (vR 2) (cI 1))
theorem rd_step (H : CRd B n p h) (hP : PS h oQ) (R : RPc (PIn P) h P) (hW : WQ P) (h00 : P 0 0 ≤ 800) {i : Nat} : ∃ g, Ch cqD h g ∧ ((∃ p' P', bFull B n p P = .inr (p', P') ∧ rdB (rdF i) h = some (.inl 0, rdF i, g) ∧ CRd B n p' g ∧ RPc (PIn P') g P') ∨ ∃ e, bFull B n p P = .inl e ∧ rdB (rdF i) h = some (.inr (nI 0), rdF i, g) ∧ CFl e g) := by
  have hO := H.1.1.1
  have hcc := oQ_is
  obtain ⟨g1, r1, x1, c1, O⟩ := cl_line H hP R hW.1 (by omega)
  have k34 := (hO.to c1.1).k34
  unfold bFull
  obtain ⟨p1, Q, e1, rfl, K, R1⟩ | ⟨e, e1, rfl, K⟩ := O
  · have q3 := (ok_line hW e1).2.2
    rw [e1, bnd_r]
    obtain ⟨g2, r2, x2, c2, K2⟩ := cr_sign K
    have R2 := R1.to c2 crD_q
    have k0 := R2.q0 (k := 0) (by decide)
    rw [q3] at k0
    have e5 : nI (P 0 0) + nI 1 = nI (P 0 0 + 1) := nI_add _ _
    obtain ⟨z, rfl, K2⟩ | ⟨z, rfl, K2⟩ := K2
    · have w5 := cq_w g2 (j := 0) (by decide) 0 (nI (P 0 0 + 1))
      rw [if_pos z]
      refine ⟨wI g2 oQ 0 (nI (P 0 0 + 1)), (c1.tr c2.cq).tr w5.qc, Or.inl ⟨_, _, rfl, ?_, K2.to w5 qD_lo, (R2.w 0 0 (P 0 0 + 1)).mono ?_⟩⟩
      · unfold rdB rdF
        simp (disch := omega) only [nI_n10, ob_t, ob_n, ob_ite, e_cI, e_cL, e_cR, e_vI, e_vL, e_vR, e_d2, e_d2_a, e_d2_b, e_d2z, e_d2z_a, e_d2z_b, e_d1, e_d1_a, e_GI, e_GI_a, e_GL, e_GL_a, e_GR, e_GR_a, e_AI, e_AI_a, e_AI_b, e_AB, e_AB_a, e_AB_b, e_AZ, e_AZ_a, e_AZ_b, e_AL, e_AL_a, e_AL_b, e_AR, e_AR_a, e_AR_b, e_Len, e_Len_a, e_CI, e_CI_a, e_CI_b, e_CZ, e_CZ_a, e_And, e_kAnd, e_Or, e_kOr, e_Not, e_kNot, e_B, e_kB, e_T, e_kT, e_NN, e_kNN, e_NewA, e_NewA_a, e_NewC, e_kNewC, e_aN, e_aI, e_aI_a, e_aI_b, e_aL, e_aL_a, e_aL_b, e_aR, e_aR_a, e_aR_b, e_Call, e_kCall, e_CallV, e_kCallV, e_SetI, e_kSetI, e_SetL, e_kSetL, e_SetR, e_kSetR, e_Inc, e_Skip, e_Brk, e_Cnt, e_Ret, e_kRet, e_Ret0, e_Seq, e_kSeq0, e_kSeq1, e_kSeq2, e_kSeqR, e_If, e_kIf, e_Do, e_kDo, e_Sup, e_kN0, e_d3, e_k3a, e_k3b, e_k3c, e_P, e_kPa, e_kPb, e_UA, e_kUAa, e_kUAb, e_kUAc, e_UL, e_kULa, e_kULb, e_kULc, e_UF, e_kUFa, e_kUFb, e_Cp, e_kCp, e_Sw, e_kSwa, e_kSwb0, e_kSwb1, e_kSwbR, e_M1, e_kM1, e_MZ, e_kMZ, e_MN, e_kMN, e_Tv, e_kTv, e_Tc, e_kTc, e_lpS, e_kLp, e_kLpB0, e_kLpB1, e_kLpB2, e_kLpBR, e_kLpU, e_dwS, e_kDwB0, e_kDwC, f_II, f_LL, f_RR, f_IL, f_IR, f_LI, f_LR, f_RI, f_RL, and_true, true_and, and_false, false_and, or_true, true_or, or_false, false_or, not_true_eq_false, not_false_eq_true, if_true, if_false, ite_self, Bool.not_true, Bool.not_false, Bool.false_eq_true, Bool.true_eq_false, decide_true, decide_false, ne_eq, reduceIte, Nat.reduceEqDiff, Option.some.injEq, Prod.mk.injEq, eq_self, r_lt, r_le, r_gt, r_ge, r_eq, r_ne, q_lt, q_le, q_gt, q_ge, q_eq, q_ne, decide_eq_true_eq, b01, b0, b1, o_iadd, o_imul, n_inb, nI_clamp, w_hr, w_hk, w_hl, w_eq, w_ne, wl_hr, wl_hk, wl_hi, wl_eq, wl_ne, stI, fI, f_ss, f_sR, f_sL, lc0, lc1, lc01, fa_lit, hO.k32, hO.k33, hO.k34, hO.r32_0, hP.k, hP.k9, hP.r8, hP.r9, hP.r10, hP.r11, hP.r12, hP.r13, hP.r14, hP.r15, hP.r16, hP.c3, hP.c4, hP.c5, hP.c6, hP.c7, hP.c8, k34, x1, x2, c1.1.1, c1.1.2.1, c2.1.1, c2.1.2.1, k0, e5]
      · intro a b hz
        obtain y | y := pin_gen (P := Q) (d4 := 0) (d5 := 0) (d6 := 0) (d7 := 0) (d9 := 0) (by simp [up]) (by simp [up]) (by simp [up]) (by simp [up]) (by simp [up]) (fun s _ => by simp [up]) hz
        · exact Or.inl y
        · omega
    · rw [if_neg z]
      refine ⟨g2, c1.tr c2.cq, Or.inr ⟨_, rfl, ?_, K2⟩⟩
      unfold rdB rdF
      simp (disch := omega) only [nI_n10, ob_t, ob_n, ob_ite, e_cI, e_cL, e_cR, e_vI, e_vL, e_vR, e_d2, e_d2_a, e_d2_b, e_d2z, e_d2z_a, e_d2z_b, e_d1, e_d1_a, e_GI, e_GI_a, e_GL, e_GL_a, e_GR, e_GR_a, e_AI, e_AI_a, e_AI_b, e_AB, e_AB_a, e_AB_b, e_AZ, e_AZ_a, e_AZ_b, e_AL, e_AL_a, e_AL_b, e_AR, e_AR_a, e_AR_b, e_Len, e_Len_a, e_CI, e_CI_a, e_CI_b, e_CZ, e_CZ_a, e_And, e_kAnd, e_Or, e_kOr, e_Not, e_kNot, e_B, e_kB, e_T, e_kT, e_NN, e_kNN, e_NewA, e_NewA_a, e_NewC, e_kNewC, e_aN, e_aI, e_aI_a, e_aI_b, e_aL, e_aL_a, e_aL_b, e_aR, e_aR_a, e_aR_b, e_Call, e_kCall, e_CallV, e_kCallV, e_SetI, e_kSetI, e_SetL, e_kSetL, e_SetR, e_kSetR, e_Inc, e_Skip, e_Brk, e_Cnt, e_Ret, e_kRet, e_Ret0, e_Seq, e_kSeq0, e_kSeq1, e_kSeq2, e_kSeqR, e_If, e_kIf, e_Do, e_kDo, e_Sup, e_kN0, e_d3, e_k3a, e_k3b, e_k3c, e_P, e_kPa, e_kPb, e_UA, e_kUAa, e_kUAb, e_kUAc, e_UL, e_kULa, e_kULb, e_kULc, e_UF, e_kUFa, e_kUFb, e_Cp, e_kCp, e_Sw, e_kSwa, e_kSwb0, e_kSwb1, e_kSwbR, e_M1, e_kM1, e_MZ, e_kMZ, e_MN, e_kMN, e_Tv, e_kTv, e_Tc, e_kTc, e_lpS, e_kLp, e_kLpB0, e_kLpB1, e_kLpB2, e_kLpBR, e_kLpU, e_dwS, e_kDwB0, e_kDwC, f_II, f_LL, f_RR, f_IL, f_IR, f_LI, f_LR, f_RI, f_RL, and_true, true_and, and_false, false_and, or_true, true_or, or_false, false_or, not_true_eq_false, not_false_eq_true, if_true, if_false, ite_self, Bool.not_true, Bool.not_false, Bool.false_eq_true, Bool.true_eq_false, decide_true, decide_false, ne_eq, reduceIte, Nat.reduceEqDiff, Option.some.injEq, Prod.mk.injEq, eq_self, r_lt, r_le, r_gt, r_ge, r_eq, r_ne, q_lt, q_le, q_gt, q_ge, q_eq, q_ne, decide_eq_true_eq, b01, b0, b1, o_iadd, o_imul, n_inb, nI_clamp, w_hr, w_hk, w_hl, w_eq, w_ne, wl_hr, wl_hk, wl_hi, wl_eq, wl_ne, stI, fI, f_ss, f_sR, f_sL, lc0, lc1, lc01, fa_lit, hO.k32, hO.k33, hO.k34, hO.r32_0, hP.k, hP.k9, hP.r8, hP.r9, hP.r10, hP.r11, hP.r12, hP.r13, hP.r14, hP.r15, hP.r16, hP.c3, hP.c4, hP.c5, hP.c6, hP.c7, hP.c8, k34, x1, x2]
  · rw [e1, bnd_l]
    refine ⟨g1, c1, Or.inr ⟨e, rfl, ?_, K⟩⟩
    unfold rdB rdF
    simp (disch := omega) only [nI_n10, ob_t, ob_n, ob_ite, e_cI, e_cL, e_cR, e_vI, e_vL, e_vR, e_d2, e_d2_a, e_d2_b, e_d2z, e_d2z_a, e_d2z_b, e_d1, e_d1_a, e_GI, e_GI_a, e_GL, e_GL_a, e_GR, e_GR_a, e_AI, e_AI_a, e_AI_b, e_AB, e_AB_a, e_AB_b, e_AZ, e_AZ_a, e_AZ_b, e_AL, e_AL_a, e_AL_b, e_AR, e_AR_a, e_AR_b, e_Len, e_Len_a, e_CI, e_CI_a, e_CI_b, e_CZ, e_CZ_a, e_And, e_kAnd, e_Or, e_kOr, e_Not, e_kNot, e_B, e_kB, e_T, e_kT, e_NN, e_kNN, e_NewA, e_NewA_a, e_NewC, e_kNewC, e_aN, e_aI, e_aI_a, e_aI_b, e_aL, e_aL_a, e_aL_b, e_aR, e_aR_a, e_aR_b, e_Call, e_kCall, e_CallV, e_kCallV, e_SetI, e_kSetI, e_SetL, e_kSetL, e_SetR, e_kSetR, e_Inc, e_Skip, e_Brk, e_Cnt, e_Ret, e_kRet, e_Ret0, e_Seq, e_kSeq0, e_kSeq1, e_kSeq2, e_kSeqR, e_If, e_kIf, e_Do, e_kDo, e_Sup, e_kN0, e_d3, e_k3a, e_k3b, e_k3c, e_P, e_kPa, e_kPb, e_UA, e_kUAa, e_kUAb, e_kUAc, e_UL, e_kULa, e_kULb, e_kULc, e_UF, e_kUFa, e_kUFb, e_Cp, e_kCp, e_Sw, e_kSwa, e_kSwb0, e_kSwb1, e_kSwbR, e_M1, e_kM1, e_MZ, e_kMZ, e_MN, e_kMN, e_Tv, e_kTv, e_Tc, e_kTc, e_lpS, e_kLp, e_kLpB0, e_kLpB1, e_kLpB2, e_kLpBR, e_kLpU, e_dwS, e_kDwB0, e_kDwC, f_II, f_LL, f_RR, f_IL, f_IR, f_LI, f_LR, f_RI, f_RL, and_true, true_and, and_false, false_and, or_true, true_or, or_false, false_or, not_true_eq_false, not_false_eq_true, if_true, if_false, ite_self, Bool.not_true, Bool.not_false, Bool.false_eq_true, Bool.true_eq_false, decide_true, decide_false, ne_eq, reduceIte, Nat.reduceEqDiff, Option.some.injEq, Prod.mk.injEq, eq_self, r_lt, r_le, r_gt, r_ge, r_eq, r_ne, q_lt, q_le, q_gt, q_ge, q_eq, q_ne, decide_eq_true_eq, b01, b0, b1, o_iadd, o_imul, n_inb, nI_clamp, w_hr, w_hk, w_hl, w_eq, w_ne, wl_hr, wl_hk, wl_hi, wl_eq, wl_ne, stI, fI, f_ss, f_sR, f_sL, lc0, lc1, lc01, fa_lit, hO.k32, hO.k33, hO.k34, hO.r32_0, hP.k, hP.k9, hP.r8, hP.r9, hP.r10, hP.r11, hP.r12, hP.r13, hP.r14, hP.r15, hP.r16, hP.c3, hP.c4, hP.c5, hP.c6, hP.c7, hP.c8, x1]
theorem rd_loop : ∀ (f i p : Nat) (P : PT) (h : St), n < p + f → i ≤ p → P 0 0 = i → WQ P → CRd B n p h → PS h oQ → RPc (PIn P) h P → ∃ o fr g, iter (lpS rdC (dAnd (dCI r_le (vI 3) (cI 800)) (dCZ q_ne (dGI 9 2 (vR 1)))) rdB (dInc 3 1)) (rdF i, h) = some (o, fr, g) ∧ Ch cqD h g ∧ ((∃ P' i' p', bAll B n f p P = .inr P' ∧ o = .inl 0 ∧ fr = rdF i' ∧ CRd B n p' g ∧ RPc (PIn P') g P' ∧ WQ P' ∧ P' 0 0 ≤ 800) ∨ ∃ e, bAll B n f p P = .inl e ∧ o = .inr (nI 0) ∧ CFl e g) := by
  intro f
  induction f with
  | zero => intro i p P h hn1 hip _ _ H; have := H.1.2.1; omega
  | succ f ih =>
    intro i p P h hn1 hip h00 hW H hP R
    have hO := H.1.1.1
    have hn8 := H.1.1.2.1
    have hpn := H.1.2.1
    have s2 := H.1.2.2.1
    have hkd := kd_le (B := B) (n := n) (q := p)
    have e1 : (nI i ≤ nI 800) = True := by rw [nI_leI (by omega) (by decide)]; exact eq_true (by omega)
    unfold bAll
    by_cases z : p < n
    · rw [if_pos z]
      have kp := kb_pos (B p)
      have e2 : (nI (kd B n p) = nI 0) = False := by rw [nI_eq (by omega) (by decide)]; exact eq_false (by rw [kd_lt z]; omega)
      have cnd : (dAnd (dCI r_le (vI 3) (cI 800)) (dCZ q_ne (dGI 9 2 (vR 1)))) (rdF i) h = some (true, h) := by
        unfold rdF
        simp (disch := omega) only [nI_n10, ob_t, ob_n, ob_ite, e_cI, e_cL, e_cR, e_vI, e_vL, e_vR, e_d2, e_d2_a, e_d2_b, e_d2z, e_d2z_a, e_d2z_b, e_d1, e_d1_a, e_GI, e_GI_a, e_GL, e_GL_a, e_GR, e_GR_a, e_AI, e_AI_a, e_AI_b, e_AB, e_AB_a, e_AB_b, e_AZ, e_AZ_a, e_AZ_b, e_AL, e_AL_a, e_AL_b, e_AR, e_AR_a, e_AR_b, e_Len, e_Len_a, e_CI, e_CI_a, e_CI_b, e_CZ, e_CZ_a, e_And, e_kAnd, e_Or, e_kOr, e_Not, e_kNot, e_B, e_kB, e_T, e_kT, e_NN, e_kNN, e_NewA, e_NewA_a, e_NewC, e_kNewC, e_aN, e_aI, e_aI_a, e_aI_b, e_aL, e_aL_a, e_aL_b, e_aR, e_aR_a, e_aR_b, e_Call, e_kCall, e_CallV, e_kCallV, e_SetI, e_kSetI, e_SetL, e_kSetL, e_SetR, e_kSetR, e_Inc, e_Skip, e_Brk, e_Cnt, e_Ret, e_kRet, e_Ret0, e_Seq, e_kSeq0, e_kSeq1, e_kSeq2, e_kSeqR, e_If, e_kIf, e_Do, e_kDo, e_Sup, e_kN0, e_d3, e_k3a, e_k3b, e_k3c, e_P, e_kPa, e_kPb, e_UA, e_kUAa, e_kUAb, e_kUAc, e_UL, e_kULa, e_kULb, e_kULc, e_UF, e_kUFa, e_kUFb, e_Cp, e_kCp, e_Sw, e_kSwa, e_kSwb0, e_kSwb1, e_kSwbR, e_M1, e_kM1, e_MZ, e_kMZ, e_MN, e_kMN, e_Tv, e_kTv, e_Tc, e_kTc, e_lpS, e_kLp, e_kLpB0, e_kLpB1, e_kLpB2, e_kLpBR, e_kLpU, e_dwS, e_kDwB0, e_kDwC, f_II, f_LL, f_RR, f_IL, f_IR, f_LI, f_LR, f_RI, f_RL, and_true, true_and, and_false, false_and, or_true, true_or, or_false, false_or, not_true_eq_false, not_false_eq_true, if_true, if_false, ite_self, Bool.not_true, Bool.not_false, Bool.false_eq_true, Bool.true_eq_false, decide_true, decide_false, ne_eq, reduceIte, Nat.reduceEqDiff, Option.some.injEq, Prod.mk.injEq, eq_self, r_lt, r_le, r_gt, r_ge, r_eq, r_ne, q_lt, q_le, q_gt, q_ge, q_eq, q_ne, decide_eq_true_eq, b01, b0, b1, o_iadd, o_imul, n_inb, nI_clamp, w_hr, w_hk, w_hl, w_eq, w_ne, wl_hr, wl_hk, wl_hi, wl_eq, wl_ne, stI, fI, f_ss, f_sR, f_sL, lc0, lc1, lc01, fa_lit, hO.k32, e1, e2, s2]
      obtain ⟨g1, c1, ⟨p1, Q, b1, x1, K, R1⟩ | ⟨e, b1, x1, K⟩⟩ := rd_step H hP R hW (by omega) (i := i)
      · obtain ⟨q1, q2, q3, q4⟩ := ok_full hW hpn b1
        have st : lpS rdC (dAnd (dCI r_le (vI 3) (cI 800)) (dCZ q_ne (dGI 9 2 (vR 1)))) rdB (dInc 3 1) (rdF i, h) = some (.inl (rdF (i + 1), g1)) := by
          have ef : rdC (sI (rdF i) 3 (gI (rdF i) 3 + 1)) = rdF (i + 1) := by
            show rdC (sI (rdF i) 3 (nI i + nI 1)) = _
            rw [nI_add]
            rfl
          rw [e_lpS, cnd, ob_t, e_kLp, if_pos rfl, x1, ob_t, e_kLpB0, e_Inc, ob_t, e_kLpU, ef]
        rw [iter_inl st, b1, bnd_r]
        obtain ⟨o, fr, g, i1, i2, i3⟩ := ih (i + 1) p1 Q g1 (by omega) (by omega) (by omega) q1 K (hP.to c1.1) R1
        exact ⟨o, fr, g, i1, c1.tr i2, i3⟩
      · rw [b1, bnd_l]
        refine ⟨.inr (nI 0), rdF i, g1, iter_inr ?_, c1, Or.inr ⟨e, rfl, rfl, K⟩⟩
        rw [e_lpS, cnd, ob_t, e_kLp, if_pos rfl, x1, ob_t, e_kLpBR]
    · rw [if_neg z]
      have e2 : (nI (kd B n p) = nI 0) = True := eq_true (by rw [kd_ge (by omega)])
      have cnd : (dAnd (dCI r_le (vI 3) (cI 800)) (dCZ q_ne (dGI 9 2 (vR 1)))) (rdF i) h = some (false, h) := by
        unfold rdF
        simp (disch := omega) only [nI_n10, ob_t, ob_n, ob_ite, e_cI, e_cL, e_cR, e_vI, e_vL, e_vR, e_d2, e_d2_a, e_d2_b, e_d2z, e_d2z_a, e_d2z_b, e_d1, e_d1_a, e_GI, e_GI_a, e_GL, e_GL_a, e_GR, e_GR_a, e_AI, e_AI_a, e_AI_b, e_AB, e_AB_a, e_AB_b, e_AZ, e_AZ_a, e_AZ_b, e_AL, e_AL_a, e_AL_b, e_AR, e_AR_a, e_AR_b, e_Len, e_Len_a, e_CI, e_CI_a, e_CI_b, e_CZ, e_CZ_a, e_And, e_kAnd, e_Or, e_kOr, e_Not, e_kNot, e_B, e_kB, e_T, e_kT, e_NN, e_kNN, e_NewA, e_NewA_a, e_NewC, e_kNewC, e_aN, e_aI, e_aI_a, e_aI_b, e_aL, e_aL_a, e_aL_b, e_aR, e_aR_a, e_aR_b, e_Call, e_kCall, e_CallV, e_kCallV, e_SetI, e_kSetI, e_SetL, e_kSetL, e_SetR, e_kSetR, e_Inc, e_Skip, e_Brk, e_Cnt, e_Ret, e_kRet, e_Ret0, e_Seq, e_kSeq0, e_kSeq1, e_kSeq2, e_kSeqR, e_If, e_kIf, e_Do, e_kDo, e_Sup, e_kN0, e_d3, e_k3a, e_k3b, e_k3c, e_P, e_kPa, e_kPb, e_UA, e_kUAa, e_kUAb, e_kUAc, e_UL, e_kULa, e_kULb, e_kULc, e_UF, e_kUFa, e_kUFb, e_Cp, e_kCp, e_Sw, e_kSwa, e_kSwb0, e_kSwb1, e_kSwbR, e_M1, e_kM1, e_MZ, e_kMZ, e_MN, e_kMN, e_Tv, e_kTv, e_Tc, e_kTc, e_lpS, e_kLp, e_kLpB0, e_kLpB1, e_kLpB2, e_kLpBR, e_kLpU, e_dwS, e_kDwB0, e_kDwC, f_II, f_LL, f_RR, f_IL, f_IR, f_LI, f_LR, f_RI, f_RL, and_true, true_and, and_false, false_and, or_true, true_or, or_false, false_or, not_true_eq_false, not_false_eq_true, if_true, if_false, ite_self, Bool.not_true, Bool.not_false, Bool.false_eq_true, Bool.true_eq_false, decide_true, decide_false, ne_eq, reduceIte, Nat.reduceEqDiff, Option.some.injEq, Prod.mk.injEq, eq_self, r_lt, r_le, r_gt, r_ge, r_eq, r_ne, q_lt, q_le, q_gt, q_ge, q_eq, q_ne, decide_eq_true_eq, b01, b0, b1, o_iadd, o_imul, n_inb, nI_clamp, w_hr, w_hk, w_hl, w_eq, w_ne, wl_hr, wl_hk, wl_hi, wl_eq, wl_ne, stI, fI, f_ss, f_sR, f_sL, lc0, lc1, lc01, fa_lit, hO.k32, e1, e2, s2]
      refine ⟨.inl 0, rdF i, h, iter_inr ?_, Ch.rf _ _, Or.inl ⟨P, i, p, rfl, rfl, rfl, H, R, hW, by omega⟩⟩
      rw [e_lpS, cnd, ob_t, e_kLp, if_neg (by decide)]
theorem WQ_0 : WQ Z0 := by
  unfold WQ WB Z0
  simp
theorem WFP_fin (hW : WQ P) (h00 : P 0 0 ≤ 800) : WFP (finP P) := by
  obtain ⟨⟨w1, w2, w3, w4, w5, w6, w7, w8, z1, z2, v1, v2, v3, v4, v5⟩, h0, h1⟩ := hW
  have u : ∀ j k, j ≠ 9 ∨ k ≠ 0 → finP P j k = P j k := fun j k hj => up_o _ _ (by omega)
  have u0 : finP P 9 0 = P 9 1 := up_eq _ _ _ _
  unfold WFP
  rw [u0, u 0 0 (by omega), u 0 1 (by omega), u 0 2 (by omega), u 0 3 (by omega), u 0 4 (by omega), u 0 5 (by omega), u 0 6 (by omega), u 0 7 (by omega), u 9 1 (by omega), u 9 2 (by omega)]
  refine ⟨w1, w2, w3, w4, w5, w6, w7, w8, by omega, by omega, by omega, by omega, by omega, fun y => ?_, h1, fun k hk1 => ?_, fun k hk1 => ?_, fun k hk1 => ?_, fun k hk1 => ?_, fun k hk1 => ?_, fun k hk1 => by omega⟩
  · have := h0 y; omega
  · rw [u _ _ (by omega)]; exact v1 k hk1
  · rw [u _ _ (by omega), u _ _ (by omega)]; exact v2 k hk1
  · rw [u _ _ (by omega), u _ _ (by omega)]; exact v3 k hk1
  · rw [u _ _ (by omega), u _ _ (by omega)]
    obtain ⟨q1, q2, q3, q4⟩ := v4 k hk1
    refine ⟨q1, q2, q3, fun i hi1 => ?_⟩
    rw [u _ _ (by omega)]
    exact q4 i hi1
  · rw [u _ _ (by omega), u _ _ (by omega), u _ _ (by omega), u _ _ (by omega)]; exact v5 k hk1
theorem x_pclear (hP : PS h oQ) : ∃ g, DX5_clear (sR fr0 0 oQ) h = some ((), g) ∧ Ch qD h g ∧ RPc (PIn Z0) g Z0 := by
  have hcc := oQ_is
  refine ⟨wI (wI (wI (wI (wI (wI (wI (wI (wI (wI (wI h oQ 0 (nI 0)) oQ 1 (nI 0)) oQ 2 (nI 0)) oQ 3 (nI 0)) oQ 4 (nI 0)) oQ 5 (nI 0)) oQ 6 (nI 0)) oQ 7 (nI 0)) (oQ + 9) 0 (nI 0)) (oQ + 9) 1 (nI 0)) (oQ + 9) 2 (nI 0), ?_, ?_, ?_⟩
  · simp (disch := omega) only [DX5_clear, BX5_clear, DX1_clear, BX1_clear, nI_n10, ob_t, ob_n, ob_ite, e_cI, e_cL, e_cR, e_vI, e_vL, e_vR, e_d2, e_d2_a, e_d2_b, e_d2z, e_d2z_a, e_d2z_b, e_d1, e_d1_a, e_GI, e_GI_a, e_GL, e_GL_a, e_GR, e_GR_a, e_AI, e_AI_a, e_AI_b, e_AB, e_AB_a, e_AB_b, e_AZ, e_AZ_a, e_AZ_b, e_AL, e_AL_a, e_AL_b, e_AR, e_AR_a, e_AR_b, e_Len, e_Len_a, e_CI, e_CI_a, e_CI_b, e_CZ, e_CZ_a, e_And, e_kAnd, e_Or, e_kOr, e_Not, e_kNot, e_B, e_kB, e_T, e_kT, e_NN, e_kNN, e_NewA, e_NewA_a, e_NewC, e_kNewC, e_aN, e_aI, e_aI_a, e_aI_b, e_aL, e_aL_a, e_aL_b, e_aR, e_aR_a, e_aR_b, e_Call, e_kCall, e_CallV, e_kCallV, e_SetI, e_kSetI, e_SetL, e_kSetL, e_SetR, e_kSetR, e_Inc, e_Skip, e_Brk, e_Cnt, e_Ret, e_kRet, e_Ret0, e_Seq, e_kSeq0, e_kSeq1, e_kSeq2, e_kSeqR, e_If, e_kIf, e_Do, e_kDo, e_Sup, e_kN0, e_d3, e_k3a, e_k3b, e_k3c, e_P, e_kPa, e_kPb, e_UA, e_kUAa, e_kUAb, e_kUAc, e_UL, e_kULa, e_kULb, e_kULc, e_UF, e_kUFa, e_kUFb, e_Cp, e_kCp, e_Sw, e_kSwa, e_kSwb0, e_kSwb1, e_kSwbR, e_M1, e_kM1, e_MZ, e_kMZ, e_MN, e_kMN, e_Tv, e_kTv, e_Tc, e_kTc, e_lpS, e_kLp, e_kLpB0, e_kLpB1, e_kLpB2, e_kLpBR, e_kLpU, e_dwS, e_kDwB0, e_kDwC, f_II, f_LL, f_RR, f_IL, f_IR, f_LI, f_LR, f_RI, f_RL, and_true, true_and, and_false, false_and, or_true, true_or, or_false, false_or, not_true_eq_false, not_false_eq_true, if_true, if_false, ite_self, Bool.not_true, Bool.not_false, Bool.false_eq_true, Bool.true_eq_false, decide_true, decide_false, ne_eq, reduceIte, Nat.reduceEqDiff, Option.some.injEq, Prod.mk.injEq, eq_self, r_lt, r_le, r_gt, r_ge, r_eq, r_ne, q_lt, q_le, q_gt, q_ge, q_eq, q_ne, decide_eq_true_eq, b01, b0, b1, o_iadd, o_imul, n_inb, nI_clamp, w_hr, w_hk, w_hl, w_eq, w_ne, wl_hr, wl_hk, wl_hi, wl_eq, wl_ne, stI, fI, f_ss, f_sR, f_sL, lc0, lc1, lc01, fa_lit, hP.k, hP.k9, hP.r8, hP.r9, hP.r10, hP.r11, hP.r12, hP.r13, hP.r14, hP.r15, hP.r16, hP.c3, hP.c4, hP.c5, hP.c6, hP.c7, hP.c8]
  · have a : ∀ h k, Ch qD h (wI h oQ k (nI 0)) := fun h k => cq_w h (j := 0) (by decide) k (nI 0)
    have b : ∀ h k, Ch qD h (wI h (oQ + 9) k (nI 0)) := fun h k => cq_w h (j := 9) (by decide) k (nI 0)
    exact ((((((((((a _ _).tr (a _ _)).tr (a _ _)).tr (a _ _)).tr (a _ _)).tr (a _ _)).tr (a _ _)).tr (a _ _)).tr (b _ _)).tr (b _ _)).tr (b _ _)
  · intro j k hz
    have hz2 : (j = 0 ∧ k < 8) ∨ (j = 9 ∧ k < 3) := by
      unfold PIn Z0 at hz
      rcases hz with z | z | z | z | z | z | z | z | z | z | z
      · exact Or.inl z
      · omega
      · omega
      · omega
      · omega
      · omega
      · omega
      · omega
      · omega
      · exact Or.inr z
      · omega
    rcases hz2 with ⟨rfl, z⟩ | ⟨rfl, z⟩
    · rw [w_ne (by omega), w_ne (by omega), w_ne (by omega)]
      rcases (show k = 0 ∨ k = 1 ∨ k = 2 ∨ k = 3 ∨ k = 4 ∨ k = 5 ∨ k = 6 ∨ k = 7 by omega) with rfl | rfl | rfl | rfl | rfl | rfl | rfl | rfl <;> simp (disch := omega) only [Nat.add_zero, w_eq, w_ne, Z0]
    · rcases (show k = 0 ∨ k = 1 ∨ k = 2 by omega) with rfl | rfl | rfl <;> simp (disch := omega) only [w_eq, w_ne, Z0]
theorem x_read (T : TXh h) (hC : CTp B n h) (hP : PS h oQ) : ∃ g r, DX6_read (sR (sR (sR fr0 0 34) 1 32) 2 oQ) h = some (r, g) ∧ Ch cqD h g ∧ ((∃ P', bAll B n (n + 1) (skp B n 0) Z0 = .inr P' ∧ r = nI 1 ∧ RP g oQ (finP P') ∧ WFP (finP P') ∧ hi g 34 0 = nI 0 ∧ hi g 34 1 = -nI 1) ∨ ∃ e, bAll B n (n + 1) (skp B n 0) Z0 = .inl e ∧ r = nI 0 ∧ CFl e g) := by
  have hO := hC.1
  have hcc := oQ_is
  have w0 : Ch crD h (wI (wI h 34 0 (nI 0)) 34 1 (-nI 1)) := (Ch.w (D := crD) (Or.inr rfl) _ _ _).tr (Ch.w (D := crD) (Or.inr rfl) _ _ _)
  obtain ⟨g1, x1, c1, R1⟩ := x_pclear (hP.to w0.1)
  have w2 : Ch crD g1 (wI g1 32 5 (nI 0)) := Ch.w (D := crD) (Or.inl rfl) _ _ _
  have hC1 : CTp B n (wI (wI h 34 0 (nI 0)) 34 1 (-nI 1)) := hC.to w0 (by unfold crD; omega) (by rw [w_ne (by omega), w_ne (by omega)])
  have hC2 : CTp B n g1 := hC1.to c1 (qD_lo _ (by decide)) ((c1.2 32 (qD_lo _ (by decide))).1 1)
  have hC3 : CTp B n (wI g1 32 5 (nI 0)) := hC2.to w2 (by unfold crD; omega) (w_ne (by omega) _ _)
  obtain ⟨g2, x2, c2, K⟩ := x_next hC3 (Nat.zero_le n) (w_eq _ _ _ _)
  have c2' : Ch crD (wI g1 32 5 (nI 0)) g2 := c2.mono (fun o ho => Or.inl ho)
  have K2 : CRd B n (skp B n 0) g2 := by
    refine ⟨K, (((T.to w0 ?_).to c1 ?_).to w2 ?_).to c2' ?_, ?_, ?_⟩
    · intro o ho hz; unfold crD at hz; omega
    · intro o ho; exact qD_lo o (by omega)
    · intro o ho hz; unfold crD at hz; omega
    · intro o ho hz; unfold crD at hz; omega
    · rw [(c2.2 34 (by decide)).1, w_ne (by omega), (c1.2 34 (qD_lo _ (by decide))).1, w_ne (by omega), w_eq]
    · rw [(c2.2 34 (by decide)).1, w_ne (by omega), (c1.2 34 (qD_lo _ (by decide))).1, w_eq]
  have hP2 : PS g2 oQ := (((hP.to w0.1).to c1.1).to w2.1).to c2.1
  obtain ⟨o, fr, g3, l1, c3, l3⟩ := rd_loop (n + 1) 0 (skp B n 0) Z0 g2 (by omega) (Nat.zero_le _) rfl WQ_0 K2 hP2 ((R1.to w2 crD_q).to c2' crD_q)
  have L1 : LX6_read_1 (sI (sR (sR (sR fr0 0 34) 1 32) 2 oQ) 3 (nI 0)) g2 = some (o, fr, g3) := by
    unfold LX6_read_1
    rw [e_Loop]
    exact l1
  have ca : Ch cqD h g3 := (((w0.cq.tr c1.qc).tr w2.cq).tr c2'.cq).tr c3
  have k32 := (hO.to (w0.1.tr c1.1)).k32
  obtain ⟨P', i', p', e1, rfl, rfl, K3, R3, W3, h00⟩ | ⟨e, e1, rfl, K3⟩ := l3
  · have y1 : hi g3 (oQ + 9) 1 = nI (P' 9 1) := R3 9 1 (Or.inr (Or.inr (Or.inr (Or.inr (Or.inr (Or.inr (Or.inr (Or.inr (Or.inr (Or.inl ⟨rfl, by decide⟩))))))))))
    have w4 := cq_w g3 (j := 9) (by decide) 0 (nI (P' 9 1))
    have K4 := K3.to w4 qD_lo
    refine ⟨wI g3 (oQ + 9) 0 (nI (P' 9 1)), nI 1, ?_, ca.tr w4.qc, Or.inl ⟨P', e1, rfl, ⟨fun j k hz => ?_, fun k hk1 => ?_⟩, WFP_fin W3 h00, K4.2.2.1, K4.2.2.2⟩⟩
    · unfold rdF at L1
      simp (disch := omega) only [DX6_read, BX6_read, DX9_rewind, BX9_rewind, nI_n10, ob_t, ob_n, ob_ite, e_cI, e_cL, e_cR, e_vI, e_vL, e_vR, e_d2, e_d2_a, e_d2_b, e_d2z, e_d2z_a, e_d2z_b, e_d1, e_d1_a, e_GI, e_GI_a, e_GL, e_GL_a, e_GR, e_GR_a, e_AI, e_AI_a, e_AI_b, e_AB, e_AB_a, e_AB_b, e_AZ, e_AZ_a, e_AZ_b, e_AL, e_AL_a, e_AL_b, e_AR, e_AR_a, e_AR_b, e_Len, e_Len_a, e_CI, e_CI_a, e_CI_b, e_CZ, e_CZ_a, e_And, e_kAnd, e_Or, e_kOr, e_Not, e_kNot, e_B, e_kB, e_T, e_kT, e_NN, e_kNN, e_NewA, e_NewA_a, e_NewC, e_kNewC, e_aN, e_aI, e_aI_a, e_aI_b, e_aL, e_aL_a, e_aL_b, e_aR, e_aR_a, e_aR_b, e_Call, e_kCall, e_CallV, e_kCallV, e_SetI, e_kSetI, e_SetL, e_kSetL, e_SetR, e_kSetR, e_Inc, e_Skip, e_Brk, e_Cnt, e_Ret, e_kRet, e_Ret0, e_Seq, e_kSeq0, e_kSeq1, e_kSeq2, e_kSeqR, e_If, e_kIf, e_Do, e_kDo, e_Sup, e_kN0, e_d3, e_k3a, e_k3b, e_k3c, e_P, e_kPa, e_kPb, e_UA, e_kUAa, e_kUAb, e_kUAc, e_UL, e_kULa, e_kULb, e_kULc, e_UF, e_kUFa, e_kUFb, e_Cp, e_kCp, e_Sw, e_kSwa, e_kSwb0, e_kSwb1, e_kSwbR, e_M1, e_kM1, e_MZ, e_kMZ, e_MN, e_kMN, e_Tv, e_kTv, e_Tc, e_kTc, e_lpS, e_kLp, e_kLpB0, e_kLpB1, e_kLpB2, e_kLpBR, e_kLpU, e_dwS, e_kDwB0, e_kDwC, f_II, f_LL, f_RR, f_IL, f_IR, f_LI, f_LR, f_RI, f_RL, and_true, true_and, and_false, false_and, or_true, true_or, or_false, false_or, not_true_eq_false, not_false_eq_true, if_true, if_false, ite_self, Bool.not_true, Bool.not_false, Bool.false_eq_true, Bool.true_eq_false, decide_true, decide_false, ne_eq, reduceIte, Nat.reduceEqDiff, Option.some.injEq, Prod.mk.injEq, eq_self, r_lt, r_le, r_gt, r_ge, r_eq, r_ne, q_lt, q_le, q_gt, q_ge, q_eq, q_ne, decide_eq_true_eq, b01, b0, b1, o_iadd, o_imul, n_inb, nI_clamp, w_hr, w_hk, w_hl, w_eq, w_ne, wl_hr, wl_hk, wl_hi, wl_eq, wl_ne, stI, fI, f_ss, f_sR, f_sL, lc0, lc1, lc01, fa_lit, hO.k32, hO.k33, hO.k34, hO.r32_0, hP.k, hP.k9, hP.r8, hP.r9, hP.r10, hP.r11, hP.r12, hP.r13, hP.r14, hP.r15, hP.r16, hP.c3, hP.c4, hP.c5, hP.c6, hP.c7, hP.c8, x1, x2, L1, y1, w0.1.1, w0.1.2.1, c1.1.1, c1.1.2.1, c2.1.1, c2.1.2.1, c3.1.1, c3.1.2.1]
    · refine (R3.w 9 0 (P' 9 1)) j k ?_
      obtain y | y := pin_gen (P := P') (P' := finP P') (d4 := 0) (d5 := 0) (d6 := 0) (d7 := 0) (d9 := 0) (by simp [finP, up]) (by simp [finP, up]) (by simp [finP, up]) (by simp [finP, up]) (by simp [finP, up]) (fun s _ => by simp [finP, up]) hz
      · exact Or.inl y
      · omega
    · have : finP P' 9 2 = 0 := by
        unfold finP
        rw [up_o _ _ (by omega)]
        exact W3.1.2.2.2.2.2.2.2.2.2.1
      omega
  · refine ⟨g3, nI 0, ?_, ca, Or.inr ⟨e, e1, rfl, K3⟩⟩
    simp (disch := omega) only [DX6_read, BX6_read, DX9_rewind, BX9_rewind, nI_n10, ob_t, ob_n, ob_ite, e_cI, e_cL, e_cR, e_vI, e_vL, e_vR, e_d2, e_d2_a, e_d2_b, e_d2z, e_d2z_a, e_d2z_b, e_d1, e_d1_a, e_GI, e_GI_a, e_GL, e_GL_a, e_GR, e_GR_a, e_AI, e_AI_a, e_AI_b, e_AB, e_AB_a, e_AB_b, e_AZ, e_AZ_a, e_AZ_b, e_AL, e_AL_a, e_AL_b, e_AR, e_AR_a, e_AR_b, e_Len, e_Len_a, e_CI, e_CI_a, e_CI_b, e_CZ, e_CZ_a, e_And, e_kAnd, e_Or, e_kOr, e_Not, e_kNot, e_B, e_kB, e_T, e_kT, e_NN, e_kNN, e_NewA, e_NewA_a, e_NewC, e_kNewC, e_aN, e_aI, e_aI_a, e_aI_b, e_aL, e_aL_a, e_aL_b, e_aR, e_aR_a, e_aR_b, e_Call, e_kCall, e_CallV, e_kCallV, e_SetI, e_kSetI, e_SetL, e_kSetL, e_SetR, e_kSetR, e_Inc, e_Skip, e_Brk, e_Cnt, e_Ret, e_kRet, e_Ret0, e_Seq, e_kSeq0, e_kSeq1, e_kSeq2, e_kSeqR, e_If, e_kIf, e_Do, e_kDo, e_Sup, e_kN0, e_d3, e_k3a, e_k3b, e_k3c, e_P, e_kPa, e_kPb, e_UA, e_kUAa, e_kUAb, e_kUAc, e_UL, e_kULa, e_kULb, e_kULc, e_UF, e_kUFa, e_kUFb, e_Cp, e_kCp, e_Sw, e_kSwa, e_kSwb0, e_kSwb1, e_kSwbR, e_M1, e_kM1, e_MZ, e_kMZ, e_MN, e_kMN, e_Tv, e_kTv, e_Tc, e_kTc, e_lpS, e_kLp, e_kLpB0, e_kLpB1, e_kLpB2, e_kLpBR, e_kLpU, e_dwS, e_kDwB0, e_kDwC, f_II, f_LL, f_RR, f_IL, f_IR, f_LI, f_LR, f_RI, f_RL, and_true, true_and, and_false, false_and, or_true, true_or, or_false, false_or, not_true_eq_false, not_false_eq_true, if_true, if_false, ite_self, Bool.not_true, Bool.not_false, Bool.false_eq_true, Bool.true_eq_false, decide_true, decide_false, ne_eq, reduceIte, Nat.reduceEqDiff, Option.some.injEq, Prod.mk.injEq, eq_self, r_lt, r_le, r_gt, r_ge, r_eq, r_ne, q_lt, q_le, q_gt, q_ge, q_eq, q_ne, decide_eq_true_eq, b01, b0, b1, o_iadd, o_imul, n_inb, nI_clamp, w_hr, w_hk, w_hl, w_eq, w_ne, wl_hr, wl_hk, wl_hi, wl_eq, wl_ne, stI, fI, f_ss, f_sR, f_sL, lc0, lc1, lc01, fa_lit, hO.k32, hO.k33, hO.k34, hO.r32_0, hP.k, hP.k9, hP.r8, hP.r9, hP.r10, hP.r11, hP.r12, hP.r13, hP.r14, hP.r15, hP.r16, hP.c3, hP.c4, hP.c5, hP.c6, hP.c7, hP.c8, x1, x2, L1, w0.1.1, w0.1.2.1, c1.1.1, c1.1.2.1, c2.1.1, c2.1.2.1]
end
