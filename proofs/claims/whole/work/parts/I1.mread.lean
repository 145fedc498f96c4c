set_option maxRecDepth 100000
set_option maxHeartbeats 1000000
/-! the text of a PORT: the model takes a token, on; its parts of reading -/
section
variable {B : Nat → Int32} {n p q lo top : Nat} {h g : St}
theorem m_nextG (H : MTp B n h) {e : Nat} (he : e ≤ n) (s7 : hi h oM 7 = nI e) : ∃ g, DX12_next (sR fr0 0 oM) h = some ((), g) ∧ Ch mTD h g ∧ MK B n (skp B n e) g ∧ ∀ k, k < 7 ∨ 12 ≤ k → hi g oM k = hi h oM k := by
  have hs1 := skp_le (B := B) he
  have hn1 := H.2.1
  obtain ⟨g1, L1, c1, t1, u7, u⟩ := m_nx1 H he s7
  have c2 : Ch mTD g1 (wL (wI (wI g1 oM 9 (nI (skp B n e))) oM 10 (nI 0)) oM 11 (lN 0)) := ((Ch.w (D := mTD) rfl _ _ _).tr (Ch.w (D := mTD) rfl _ _ _)).tr (Ch.wl (D := mTD) rfl _ _ _)
  have hM := H.1
  have hk1 := t1.1.k
  have s6 := t1.2.2.1
  by_cases z : skp B n e < n
  · have e1 : (nI (skp B n e) = nI n) = False := by rw [nI_eq (by omega) (by omega)]; exact eq_false (by omega)
    have hen := enq_lt (B := B) z
    by_cases z1 : kb (B (skp B n e)) = 1
    · have t2 : MTp B n (wL (wI (wI g1 oM 9 (nI (skp B n e))) oM 10 (nI 0)) oM 11 (lN 0)) := t1.to c2 m5 (by rw [wl_hi, w_ne (by omega), w_ne (by omega)])
      have c3 : Ch mTD (wL (wI (wI g1 oM 9 (nI (skp B n e))) oM 10 (nI 0)) oM 11 (lN 0)) (wI (wL (wI (wI g1 oM 9 (nI (skp B n e))) oM 10 (nI 0)) oM 11 (lN 0)) oM 8 (nI 1)) := Ch.w (D := mTD) rfl _ _ _
      have t3 := t2.to c3 m5 (by rw [w_ne (by omega)])
      have x1 := m_by1 t2 z (a := nI 97) (b := nI 122) (kb_1.1 z1)
      obtain ⟨g2, L2, c4, t4, v7, v11, v⟩ := m_nx2 z z1 t3 (by rw [w_ne (by omega), wl_hi, w_ne (by omega), w_ne (by omega)]; exact u7) (by rw [w_hl, wl_eq])
      refine ⟨g2, ?_, ((c1.tr c2).tr c3).tr c4, ⟨t4, hs1.2, ?_, ?_, ?_, ?_, v7⟩, fun k hk1 => ?_⟩
      · simp (disch := omega) only [DX12_next, BX12_next, nI_n10, ob_t, ob_n, ob_ite, e_cI, e_cL, e_cR, e_vI, e_vL, e_vR, e_d2, e_d2_a, e_d2_b, e_d2z, e_d2z_a, e_d2z_b, e_d1, e_d1_a, e_GI, e_GI_a, e_GL, e_GL_a, e_GR, e_GR_a, e_AI, e_AI_a, e_AI_b, e_AB, e_AB_a, e_AB_b, e_AZ, e_AZ_a, e_AZ_b, e_AL, e_AL_a, e_AL_b, e_AR, e_AR_a, e_AR_b, e_Len, e_Len_a, e_CI, e_CI_a, e_CI_b, e_CZ, e_CZ_a, e_And, e_kAnd, e_Or, e_kOr, e_Not, e_kNot, e_B, e_kB, e_T, e_kT, e_NN, e_kNN, e_NewA, e_NewA_a, e_NewC, e_kNewC, e_aN, e_aI, e_aI_a, e_aI_b, e_aL, e_aL_a, e_aL_b, e_aR, e_aR_a, e_aR_b, e_Call, e_kCall, e_CallV, e_kCallV, e_SetI, e_kSetI, e_SetL, e_kSetL, e_SetR, e_kSetR, e_Inc, e_Skip, e_Brk, e_Cnt, e_Ret, e_kRet, e_Ret0, e_Seq, e_kSeq0, e_kSeq1, e_kSeq2, e_kSeqR, e_If, e_kIf, e_Do, e_kDo, e_Sup, e_kN0, e_d3, e_k3a, e_k3b, e_k3c, e_P, e_kPa, e_kPb, e_UA, e_kUAa, e_kUAb, e_kUAc, e_UL, e_kULa, e_kULb, e_kULc, e_UF, e_kUFa, e_kUFb, e_Cp, e_kCp, e_Sw, e_kSwa, e_kSwb0, e_kSwb1, e_kSwbR, e_M1, e_kM1, e_MZ, e_kMZ, e_MN, e_kMN, e_Tv, e_kTv, e_Tc, e_kTc, e_lpS, e_kLp, e_kLpB0, e_kLpB1, e_kLpB2, e_kLpBR, e_kLpU, e_dwS, e_kDwB0, e_kDwC, f_II, f_LL, f_RR, f_IL, f_IR, f_LI, f_LR, f_RI, f_RL, and_true, true_and, and_false, false_and, or_true, true_or, or_false, false_or, not_true_eq_false, not_false_eq_true, if_true, if_false, ite_self, Bool.not_true, Bool.not_false, Bool.false_eq_true, Bool.true_eq_false, decide_true, decide_false, ne_eq, reduceIte, Nat.reduceEqDiff, Option.some.injEq, Prod.mk.injEq, eq_self, r_lt, r_le, r_gt, r_ge, r_eq, r_ne, q_lt, q_le, q_gt, q_ge, q_eq, q_ne, decide_eq_true_eq, b01, b0, b1, o_iadd, o_imul, n_inb, nI_clamp, w_hr, w_hk, w_hl, w_eq, w_ne, wl_hr, wl_hk, wl_hi, wl_eq, wl_ne, stI, fI, fL, f_ss, f_sR, f_sL, lc0, lc1, lc01, fa_lit, fa_litL, hM.k, hM.k5, hM.r5, hk1, L1, L2, u7, s6, e1, x1]
      · rw [v 8 (by omega), w_eq, kd_lt z, z1]
      · rw [v 9 (by omega), w_ne (by omega), wl_hi, w_ne (by omega), w_eq]
      · rw [v 10 (by omega), w_ne (by omega), wl_hi, w_eq]
        unfold mv
        rw [kd_lt z, z1, if_neg (by decide)]
      · rw [v11]
        unfold wd
        rw [kd_lt z, if_pos z1]
      · rw [v k (by omega), w_ne (by omega), wl_hi, w_ne (by omega), w_ne (by omega), u k (by omega)]
    · have t2 : MTp B n (wL (wI (wI g1 oM 9 (nI (skp B n e))) oM 10 (nI 0)) oM 11 (lN 0)) := t1.to c2 m5 (by rw [wl_hi, w_ne (by omega), w_ne (by omega)])
      have x1 := m_by0 t2 (i := skp B n e) (by omega) (a := nI 97) (b := nI 122) (fun y => z1 (kb_1.2 y.2))
      by_cases z2 : kb (B (skp B n e)) = 2
      · have c3 : Ch mTD (wL (wI (wI g1 oM 9 (nI (skp B n e))) oM 10 (nI 0)) oM 11 (lN 0)) (wI (wL (wI (wI g1 oM 9 (nI (skp B n e))) oM 10 (nI 0)) oM 11 (lN 0)) oM 8 (nI 2)) := Ch.w (D := mTD) rfl _ _ _
        have t3 := t2.to c3 m5 (by rw [w_ne (by omega)])
        have x2 := m_by1 t2 z (a := nI 48) (b := nI 57) (kb_2.1 z2)
        obtain ⟨g2, L2, c4, t4, v7, v10, v11, v⟩ := m_nx3 z z2 t3 (by rw [w_ne (by omega), wl_hi, w_ne (by omega), w_ne (by omega)]; exact u7) (by rw [w_ne (by omega), wl_hi, w_eq])
        refine ⟨g2, ?_, ((c1.tr c2).tr c3).tr c4, ⟨t4, hs1.2, ?_, ?_, ?_, ?_, v7⟩, fun k hk1 => ?_⟩
        · simp (disch := omega) only [DX12_next, BX12_next, nI_n10, ob_t, ob_n, ob_ite, e_cI, e_cL, e_cR, e_vI, e_vL, e_vR, e_d2, e_d2_a, e_d2_b, e_d2z, e_d2z_a, e_d2z_b, e_d1, e_d1_a, e_GI, e_GI_a, e_GL, e_GL_a, e_GR, e_GR_a, e_AI, e_AI_a, e_AI_b, e_AB, e_AB_a, e_AB_b, e_AZ, e_AZ_a, e_AZ_b, e_AL, e_AL_a, e_AL_b, e_AR, e_AR_a, e_AR_b, e_Len, e_Len_a, e_CI, e_CI_a, e_CI_b, e_CZ, e_CZ_a, e_And, e_kAnd, e_Or, e_kOr, e_Not, e_kNot, e_B, e_kB, e_T, e_kT, e_NN, e_kNN, e_NewA, e_NewA_a, e_NewC, e_kNewC, e_aN, e_aI, e_aI_a, e_aI_b, e_aL, e_aL_a, e_aL_b, e_aR, e_aR_a, e_aR_b, e_Call, e_kCall, e_CallV, e_kCallV, e_SetI, e_kSetI, e_SetL, e_kSetL, e_SetR, e_kSetR, e_Inc, e_Skip, e_Brk, e_Cnt, e_Ret, e_kRet, e_Ret0, e_Seq, e_kSeq0, e_kSeq1, e_kSeq2, e_kSeqR, e_If, e_kIf, e_Do, e_kDo, e_Sup, e_kN0, e_d3, e_k3a, e_k3b, e_k3c, e_P, e_kPa, e_kPb, e_UA, e_kUAa, e_kUAb, e_kUAc, e_UL, e_kULa, e_kULb, e_kULc, e_UF, e_kUFa, e_kUFb, e_Cp, e_kCp, e_Sw, e_kSwa, e_kSwb0, e_kSwb1, e_kSwbR, e_M1, e_kM1, e_MZ, e_kMZ, e_MN, e_kMN, e_Tv, e_kTv, e_Tc, e_kTc, e_lpS, e_kLp, e_kLpB0, e_kLpB1, e_kLpB2, e_kLpBR, e_kLpU, e_dwS, e_kDwB0, e_kDwC, f_II, f_LL, f_RR, f_IL, f_IR, f_LI, f_LR, f_RI, f_RL, and_true, true_and, and_false, false_and, or_true, true_or, or_false, false_or, not_true_eq_false, not_false_eq_true, if_true, if_false, ite_self, Bool.not_true, Bool.not_false, Bool.false_eq_true, Bool.true_eq_false, decide_true, decide_false, ne_eq, reduceIte, Nat.reduceEqDiff, Option.some.injEq, Prod.mk.injEq, eq_self, r_lt, r_le, r_gt, r_ge, r_eq, r_ne, q_lt, q_le, q_gt, q_ge, q_eq, q_ne, decide_eq_true_eq, b01, b0, b1, o_iadd, o_imul, n_inb, nI_clamp, w_hr, w_hk, w_hl, w_eq, w_ne, wl_hr, wl_hk, wl_hi, wl_eq, wl_ne, stI, fI, fL, f_ss, f_sR, f_sL, lc0, lc1, lc01, fa_lit, fa_litL, hM.k, hM.k5, hM.r5, hk1, L1, L2, u7, s6, e1, x1, x2]
        · rw [v 8 (by omega) (by omega), w_eq, kd_lt z, z2]
        · rw [v 9 (by omega) (by omega), w_ne (by omega), wl_hi, w_ne (by omega), w_eq]
        · rw [v10]
          unfold mv
          rw [kd_lt z, if_pos z2]
        · rw [v11, w_hl, wl_eq]
          unfold wd
          rw [kd_lt z, z2, if_neg (by decide)]
        · rw [v k (by omega) (by omega), w_ne (by omega), wl_hi, w_ne (by omega), w_ne (by omega), u k (by omega)]
      · have x2 := m_by0 t2 (i := skp B n e) (by omega) (a := nI 48) (b := nI 57) (fun y => z2 (kb_2.2 y.2))
        have hb := kb_pos (B (skp B n e))
        have eb := t1.2.2.2 _ z
        have e5 : nI (skp B n e) + nI 1 = nI (skp B n e + 1) := nI_add _ _
        have c3 : Ch mTD (wL (wI (wI g1 oM 9 (nI (skp B n e))) oM 10 (nI 0)) oM 11 (lN 0)) (wI (wI (wL (wI (wI g1 oM 9 (nI (skp B n e))) oM 10 (nI 0)) oM 11 (lN 0)) oM 8 (nI (kb (B (skp B n e))))) oM 7 (nI (skp B n e + 1))) := (Ch.w (D := mTD) rfl _ _ _).tr (Ch.w (D := mTD) rfl _ _ _)
        have t3 := t2.to c3 m5 (by rw [w_ne (by omega), w_ne (by omega)])
        refine ⟨_, ?_, (c1.tr c2).tr c3, ⟨t3, hs1.2, ?_, ?_, ?_, ?_, ?_⟩, fun k hk1 => ?_⟩
        · have hM := hM.to c1.1
          have ekb : nI (kb (B (skp B n e))) = if B (skp B n e) = nI 59 then nI 3 else nI 4 := by
            have h1 : ¬ (nI 97 ≤ B (skp B n e) ∧ B (skp B n e) ≤ nI 122) := fun y => z1 (kb_1.2 y)
            have h2 : ¬ (nI 48 ≤ B (skp B n e) ∧ B (skp B n e) ≤ nI 57) := fun y => z2 (kb_2.2 y)
            unfold kb
            rw [if_neg h1, if_neg h2]
            split <;> rfl
          rw [ekb]
          rcases Classical.propComplete (B (skp B n e) = nI 59) with y | y
          · simp (disch := omega) only [DX12_next, BX12_next, nI_n10, ob_t, ob_n, ob_ite, e_cI, e_cL, e_cR, e_vI, e_vL, e_vR, e_d2, e_d2_a, e_d2_b, e_d2z, e_d2z_a, e_d2z_b, e_d1, e_d1_a, e_GI, e_GI_a, e_GL, e_GL_a, e_GR, e_GR_a, e_AI, e_AI_a, e_AI_b, e_AB, e_AB_a, e_AB_b, e_AZ, e_AZ_a, e_AZ_b, e_AL, e_AL_a, e_AL_b, e_AR, e_AR_a, e_AR_b, e_Len, e_Len_a, e_CI, e_CI_a, e_CI_b, e_CZ, e_CZ_a, e_And, e_kAnd, e_Or, e_kOr, e_Not, e_kNot, e_B, e_kB, e_T, e_kT, e_NN, e_kNN, e_NewA, e_NewA_a, e_NewC, e_kNewC, e_aN, e_aI, e_aI_a, e_aI_b, e_aL, e_aL_a, e_aL_b, e_aR, e_aR_a, e_aR_b, e_Call, e_kCall, e_CallV, e_kCallV, e_SetI, e_kSetI, e_SetL, e_kSetL, e_SetR, e_kSetR, e_Inc, e_Skip, e_Brk, e_Cnt, e_Ret, e_kRet, e_Ret0, e_Seq, e_kSeq0, e_kSeq1, e_kSeq2, e_kSeqR, e_If, e_kIf, e_Do, e_kDo, e_Sup, e_kN0, e_d3, e_k3a, e_k3b, e_k3c, e_P, e_kPa, e_kPb, e_UA, e_kUAa, e_kUAb, e_kUAc, e_UL, e_kULa, e_kULb, e_kULc, e_UF, e_kUFa, e_kUFb, e_Cp, e_kCp, e_Sw, e_kSwa, e_kSwb0, e_kSwb1, e_kSwbR, e_M1, e_kM1, e_MZ, e_kMZ, e_MN, e_kMN, e_Tv, e_kTv, e_Tc, e_kTc, e_lpS, e_kLp, e_kLpB0, e_kLpB1, e_kLpB2, e_kLpBR, e_kLpU, e_dwS, e_kDwB0, e_kDwC, f_II, f_LL, f_RR, f_IL, f_IR, f_LI, f_LR, f_RI, f_RL, and_true, true_and, and_false, false_and, or_true, true_or, or_false, false_or, not_true_eq_false, not_false_eq_true, if_true, if_false, ite_self, Bool.not_true, Bool.not_false, Bool.false_eq_true, Bool.true_eq_false, decide_true, decide_false, ne_eq, reduceIte, Nat.reduceEqDiff, Option.some.injEq, Prod.mk.injEq, eq_self, r_lt, r_le, r_gt, r_ge, r_eq, r_ne, q_lt, q_le, q_gt, q_ge, q_eq, q_ne, decide_eq_true_eq, b01, b0, b1, o_iadd, o_imul, n_inb, nI_clamp, w_hr, w_hk, w_hl, w_eq, w_ne, wl_hr, wl_hk, wl_hi, wl_eq, wl_ne, stI, fI, fL, f_ss, f_sR, f_sL, lc0, lc1, lc01, fa_lit, fa_litL, hM.k, hM.k5, hM.r5, hk1, L1, u7, s6, e1, x1, x2, eb, e5, y]
          · simp (disch := omega) only [DX12_next, BX12_next, nI_n10, ob_t, ob_n, ob_ite, e_cI, e_cL, e_cR, e_vI, e_vL, e_vR, e_d2, e_d2_a, e_d2_b, e_d2z, e_d2z_a, e_d2z_b, e_d1, e_d1_a, e_GI, e_GI_a, e_GL, e_GL_a, e_GR, e_GR_a, e_AI, e_AI_a, e_AI_b, e_AB, e_AB_a, e_AB_b, e_AZ, e_AZ_a, e_AZ_b, e_AL, e_AL_a, e_AL_b, e_AR, e_AR_a, e_AR_b, e_Len, e_Len_a, e_CI, e_CI_a, e_CI_b, e_CZ, e_CZ_a, e_And, e_kAnd, e_Or, e_kOr, e_Not, e_kNot, e_B, e_kB, e_T, e_kT, e_NN, e_kNN, e_NewA, e_NewA_a, e_NewC, e_kNewC, e_aN, e_aI, e_aI_a, e_aI_b, e_aL, e_aL_a, e_aL_b, e_aR, e_aR_a, e_aR_b, e_Call, e_kCall, e_CallV, e_kCallV, e_SetI, e_kSetI, e_SetL, e_kSetL, e_SetR, e_kSetR, e_Inc, e_Skip, e_Brk, e_Cnt, e_Ret, e_kRet, e_Ret0, e_Seq, e_kSeq0, e_kSeq1, e_kSeq2, e_kSeqR, e_If, e_kIf, e_Do, e_kDo, e_Sup, e_kN0, e_d3, e_k3a, e_k3b, e_k3c, e_P, e_kPa, e_kPb, e_UA, e_kUAa, e_kUAb, e_kUAc, e_UL, e_kULa, e_kULb, e_kULc, e_UF, e_kUFa, e_kUFb, e_Cp, e_kCp, e_Sw, e_kSwa, e_kSwb0, e_kSwb1, e_kSwbR, e_M1, e_kM1, e_MZ, e_kMZ, e_MN, e_kMN, e_Tv, e_kTv, e_Tc, e_kTc, e_lpS, e_kLp, e_kLpB0, e_kLpB1, e_kLpB2, e_kLpBR, e_kLpU, e_dwS, e_kDwB0, e_kDwC, f_II, f_LL, f_RR, f_IL, f_IR, f_LI, f_LR, f_RI, f_RL, and_true, true_and, and_false, false_and, or_true, true_or, or_false, false_or, not_true_eq_false, not_false_eq_true, if_true, if_false, ite_self, Bool.not_true, Bool.not_false, Bool.false_eq_true, Bool.true_eq_false, decide_true, decide_false, ne_eq, reduceIte, Nat.reduceEqDiff, Option.some.injEq, Prod.mk.injEq, eq_self, r_lt, r_le, r_gt, r_ge, r_eq, r_ne, q_lt, q_le, q_gt, q_ge, q_eq, q_ne, decide_eq_true_eq, b01, b0, b1, o_iadd, o_imul, n_inb, nI_clamp, w_hr, w_hk, w_hl, w_eq, w_ne, wl_hr, wl_hk, wl_hi, wl_eq, wl_ne, stI, fI, fL, f_ss, f_sR, f_sL, lc0, lc1, lc01, fa_lit, fa_litL, hM.k, hM.k5, hM.r5, hk1, L1, u7, s6, e1, x1, x2, eb, e5, y]
        · rw [w_ne (by omega), w_eq, kd_lt z]
        · rw [w_ne (by omega), w_ne (by omega), wl_hi, w_ne (by omega), w_eq]
        · rw [w_ne (by omega), w_ne (by omega), wl_hi, w_eq]
          unfold mv
          rw [kd_lt z, if_neg z2]
        · rw [w_hl, w_hl, wl_eq]
          unfold wd
          rw [kd_lt z, if_neg z1]
        · rw [w_eq, enq_one z (by omega)]
        · rw [w_ne (by omega), w_ne (by omega), wl_hi, w_ne (by omega), w_ne (by omega), u k (by omega)]
  · have e1 : (nI (skp B n e) = nI n) = True := eq_true (by rw [show skp B n e = n by omega])
    have c3 : Ch mTD (wL (wI (wI g1 oM 9 (nI (skp B n e))) oM 10 (nI 0)) oM 11 (lN 0)) (wI (wL (wI (wI g1 oM 9 (nI (skp B n e))) oM 10 (nI 0)) oM 11 (lN 0)) oM 8 (nI 0)) := Ch.w (D := mTD) rfl _ _ _
    refine ⟨_, ?_, (c1.tr c2).tr c3, ⟨t1.to (c2.tr c3) m5 (by rw [w_ne (by omega), wl_hi, w_ne (by omega), w_ne (by omega)]), hs1.2, ?_, ?_, ?_, ?_, ?_⟩, fun k hk1 => ?_⟩
    · simp (disch := omega) only [DX12_next, BX12_next, nI_n10, ob_t, ob_n, ob_ite, e_cI, e_cL, e_cR, e_vI, e_vL, e_vR, e_d2, e_d2_a, e_d2_b, e_d2z, e_d2z_a, e_d2z_b, e_d1, e_d1_a, e_GI, e_GI_a, e_GL, e_GL_a, e_GR, e_GR_a, e_AI, e_AI_a, e_AI_b, e_AB, e_AB_a, e_AB_b, e_AZ, e_AZ_a, e_AZ_b, e_AL, e_AL_a, e_AL_b, e_AR, e_AR_a, e_AR_b, e_Len, e_Len_a, e_CI, e_CI_a, e_CI_b, e_CZ, e_CZ_a, e_And, e_kAnd, e_Or, e_kOr, e_Not, e_kNot, e_B, e_kB, e_T, e_kT, e_NN, e_kNN, e_NewA, e_NewA_a, e_NewC, e_kNewC, e_aN, e_aI, e_aI_a, e_aI_b, e_aL, e_aL_a, e_aL_b, e_aR, e_aR_a, e_aR_b, e_Call, e_kCall, e_CallV, e_kCallV, e_SetI, e_kSetI, e_SetL, e_kSetL, e_SetR, e_kSetR, e_Inc, e_Skip, e_Brk, e_Cnt, e_Ret, e_kRet, e_Ret0, e_Seq, e_kSeq0, e_kSeq1, e_kSeq2, e_kSeqR, e_If, e_kIf, e_Do, e_kDo, e_Sup, e_kN0, e_d3, e_k3a, e_k3b, e_k3c, e_P, e_kPa, e_kPb, e_UA, e_kUAa, e_kUAb, e_kUAc, e_UL, e_kULa, e_kULb, e_kULc, e_UF, e_kUFa, e_kUFb, e_Cp, e_kCp, e_Sw, e_kSwa, e_kSwb0, e_kSwb1, e_kSwbR, e_M1, e_kM1, e_MZ, e_kMZ, e_MN, e_kMN, e_Tv, e_kTv, e_Tc, e_kTc, e_lpS, e_kLp, e_kLpB0, e_kLpB1, e_kLpB2, e_kLpBR, e_kLpU, e_dwS, e_kDwB0, e_kDwC, f_II, f_LL, f_RR, f_IL, f_IR, f_LI, f_LR, f_RI, f_RL, and_true, true_and, and_false, false_and, or_true, true_or, or_false, false_or, not_true_eq_false, not_false_eq_true, if_true, if_false, ite_self, Bool.not_true, Bool.not_false, Bool.false_eq_true, Bool.true_eq_false, decide_true, decide_false, ne_eq, reduceIte, Nat.reduceEqDiff, Option.some.injEq, Prod.mk.injEq, eq_self, r_lt, r_le, r_gt, r_ge, r_eq, r_ne, q_lt, q_le, q_gt, q_ge, q_eq, q_ne, decide_eq_true_eq, b01, b0, b1, o_iadd, o_imul, n_inb, nI_clamp, w_hr, w_hk, w_hl, w_eq, w_ne, wl_hr, wl_hk, wl_hi, wl_eq, wl_ne, stI, fI, fL, f_ss, f_sR, f_sL, lc0, lc1, lc01, fa_lit, fa_litL, hM.k, hM.k5, hM.r5, hk1, L1, u7, s6, e1]
    · rw [w_eq, kd_ge (by omega)]
    · rw [w_ne (by omega), wl_hi, w_ne (by omega), w_eq]
    · rw [w_ne (by omega), wl_hi, w_eq]
      unfold mv
      rw [kd_ge (by omega), if_neg (by decide)]
    · rw [w_hl, wl_eq]
      unfold wd
      rw [kd_ge (by omega), if_neg (by decide)]
    · rw [w_ne (by omega), wl_hi, w_ne (by omega), w_ne (by omega), enq_ge (by omega)]; exact u7
    · rw [w_ne (by omega), wl_hi, w_ne (by omega), w_ne (by omega), u k (by omega)]
/-- the model reads on at p; it has stopped -/
def MRd (B : Nat → Int32) (n p : Nat) (h : St) : Prop := MK B n p h ∧ hi h oM 12 = nI 0
def MFl (e : Nat × Nat) (h : St) : Prop := MS h oM ∧ (e.1 = 1 ∨ e.1 = 2 ∨ e.1 = 3) ∧ hi h oM 12 = nI e.1 ∧ hi h oM 13 = nI e.2
theorem MK.to (H : MK B n p h) {D : Nat → Prop} (k : Ch D h g) (d1 : ¬ D oM) (d2 : ¬ D (oM + 5)) : MK B n p g := by
  have e := (k.2 oM d1).1
  have e2 := (k.2 oM d1).2
  exact ⟨H.1.to k d2 (e 6), H.2.1, (e 8).trans H.2.2.1, (e 9).trans H.2.2.2.1, (e 10).trans H.2.2.2.2.1, (e2 11).trans H.2.2.2.2.2.1, (e 7).trans H.2.2.2.2.2.2⟩
theorem MRd.to (H : MRd B n p h) {D : Nat → Prop} (k : Ch D h g) (d1 : ¬ D oM) (d2 : ¬ D (oM + 5)) : MRd B n p g := ⟨H.1.to k d1 d2, ((k.2 oM d1).1 12).trans H.2⟩
theorem MFl.to {e : Nat × Nat} (H : MFl e h) {D : Nat → Prop} (k : Ch D h g) (d1 : ¬ D oM) : MFl e g := ⟨H.1.to k.1, H.2.1, ((k.2 oM d1).1 12).trans H.2.2.1, ((k.2 oM d1).1 13).trans H.2.2.2⟩
theorem MFl.ne {e : Nat × Nat} (H : MFl e h) : ∃ x, hi h oM 12 = x ∧ (x = nI 0) = False := ⟨nI e.1, H.2.2.1, by
  have := H.2.1
  rw [nI_eq (by omega) (by decide)]
  exact eq_false (by omega)⟩
theorem mr_next (H : MRd B n p h) : ∃ g, DX12_next (sR fr0 0 oM) h = some ((), g) ∧ Ch mTD h g ∧ MRd B n (nxt B n p) g := by
  obtain ⟨g, x1, c1, K, u⟩ := m_nextG H.1.1 (enq_le H.1.2.1).2 H.1.2.2.2.2.2.2
  exact ⟨g, x1, c1, K, (u 12 (by omega)).trans H.2⟩
theorem mr_fail (H : MRd B n p h) {w : Nat} (hw : w = 1 ∨ w = 2 ∨ w = 3) : ∃ g, DX12_fails (sI (sR fr0 0 oM) 1 (nI w)) h = some ((), g) ∧ Ch mTD h g ∧ MFl (w, p) g := by
  have hM := H.1.1.1
  have s12 := H.2
  have s9 := H.1.2.2.2.1
  refine ⟨wI (wI h oM 12 (nI w)) oM 13 (nI p), ?_, (Ch.w (D := mTD) rfl _ _ _).tr (Ch.w (D := mTD) rfl _ _ _), hM.to ⟨rfl, rfl, rfl, rfl⟩, hw, by rw [w_ne (by omega), w_eq], w_eq _ _ _ _⟩
  simp (disch := omega) only [DX12_fails, BX12_fails, nI_n10, ob_t, ob_n, ob_ite, e_cI, e_cL, e_cR, e_vI, e_vL, e_vR, e_d2, e_d2_a, e_d2_b, e_d2z, e_d2z_a, e_d2z_b, e_d1, e_d1_a, e_GI, e_GI_a, e_GL, e_GL_a, e_GR, e_GR_a, e_AI, e_AI_a, e_AI_b, e_AB, e_AB_a, e_AB_b, e_AZ, e_AZ_a, e_AZ_b, e_AL, e_AL_a, e_AL_b, e_AR, e_AR_a, e_AR_b, e_Len, e_Len_a, e_CI, e_CI_a, e_CI_b, e_CZ, e_CZ_a, e_And, e_kAnd, e_Or, e_kOr, e_Not, e_kNot, e_B, e_kB, e_T, e_kT, e_NN, e_kNN, e_NewA, e_NewA_a, e_NewC, e_kNewC, e_aN, e_aI, e_aI_a, e_aI_b, e_aL, e_aL_a, e_aL_b, e_aR, e_aR_a, e_aR_b, e_Call, e_kCall, e_CallV, e_kCallV, e_SetI, e_kSetI, e_SetL, e_kSetL, e_SetR, e_kSetR, e_Inc, e_Skip, e_Brk, e_Cnt, e_Ret, e_kRet, e_Ret0, e_Seq, e_kSeq0, e_kSeq1, e_kSeq2, e_kSeqR, e_If, e_kIf, e_Do, e_kDo, e_Sup, e_kN0, e_d3, e_k3a, e_k3b, e_k3c, e_P, e_kPa, e_kPb, e_UA, e_kUAa, e_kUAb, e_kUAc, e_UL, e_kULa, e_kULb, e_kULc, e_UF, e_kUFa, e_kUFb, e_Cp, e_kCp, e_Sw, e_kSwa, e_kSwb0, e_kSwb1, e_kSwbR, e_M1, e_kM1, e_MZ, e_kMZ, e_MN, e_kMN, e_Tv, e_kTv, e_Tc, e_kTc, e_lpS, e_kLp, e_kLpB0, e_kLpB1, e_kLpB2, e_kLpBR, e_kLpU, e_dwS, e_kDwB0, e_kDwC, f_II, f_LL, f_RR, f_IL, f_IR, f_LI, f_LR, f_RI, f_RL, and_true, true_and, and_false, false_and, or_true, true_or, or_false, false_or, not_true_eq_false, not_false_eq_true, if_true, if_false, ite_self, Bool.not_true, Bool.not_false, Bool.false_eq_true, Bool.true_eq_false, decide_true, decide_false, ne_eq, reduceIte, Nat.reduceEqDiff, Option.some.injEq, Prod.mk.injEq, eq_self, r_lt, r_le, r_gt, r_ge, r_eq, r_ne, q_lt, q_le, q_gt, q_ge, q_eq, q_ne, decide_eq_true_eq, b01, b0, b1, o_iadd, o_imul, n_inb, nI_clamp, w_hr, w_hk, w_hl, w_eq, w_ne, wl_hr, wl_hk, wl_hi, wl_eq, wl_ne, stI, fI, fL, f_ss, f_sR, f_sL, lc0, lc1, lc01, fa_lit, fa_litL, hM.k, s12, s9]
theorem mf_fail {e : Nat × Nat} (H : MFl e h) (v : Int32) : DX12_fails (sI (sR fr0 0 oM) 1 v) h = some ((), h) := by
  have hM := H.1
  obtain ⟨x, f1, f2⟩ := H.ne
  simp (disch := omega) only [DX12_fails, BX12_fails, nI_n10, ob_t, ob_n, ob_ite, e_cI, e_cL, e_cR, e_vI, e_vL, e_vR, e_d2, e_d2_a, e_d2_b, e_d2z, e_d2z_a, e_d2z_b, e_d1, e_d1_a, e_GI, e_GI_a, e_GL, e_GL_a, e_GR, e_GR_a, e_AI, e_AI_a, e_AI_b, e_AB, e_AB_a, e_AB_b, e_AZ, e_AZ_a, e_AZ_b, e_AL, e_AL_a, e_AL_b, e_AR, e_AR_a, e_AR_b, e_Len, e_Len_a, e_CI, e_CI_a, e_CI_b, e_CZ, e_CZ_a, e_And, e_kAnd, e_Or, e_kOr, e_Not, e_kNot, e_B, e_kB, e_T, e_kT, e_NN, e_kNN, e_NewA, e_NewA_a, e_NewC, e_kNewC, e_aN, e_aI, e_aI_a, e_aI_b, e_aL, e_aL_a, e_aL_b, e_aR, e_aR_a, e_aR_b, e_Call, e_kCall, e_CallV, e_kCallV, e_SetI, e_kSetI, e_SetL, e_kSetL, e_SetR, e_kSetR, e_Inc, e_Skip, e_Brk, e_Cnt, e_Ret, e_kRet, e_Ret0, e_Seq, e_kSeq0, e_kSeq1, e_kSeq2, e_kSeqR, e_If, e_kIf, e_Do, e_kDo, e_Sup, e_kN0, e_d3, e_k3a, e_k3b, e_k3c, e_P, e_kPa, e_kPb, e_UA, e_kUAa, e_kUAb, e_kUAc, e_UL, e_kULa, e_kULb, e_kULc, e_UF, e_kUFa, e_kUFb, e_Cp, e_kCp, e_Sw, e_kSwa, e_kSwb0, e_kSwb1, e_kSwbR, e_M1, e_kM1, e_MZ, e_kMZ, e_MN, e_kMN, e_Tv, e_kTv, e_Tc, e_kTc, e_lpS, e_kLp, e_kLpB0, e_kLpB1, e_kLpB2, e_kLpBR, e_kLpU, e_dwS, e_kDwB0, e_kDwC, f_II, f_LL, f_RR, f_IL, f_IR, f_LI, f_LR, f_RI, f_RL, and_true, true_and, and_false, false_and, or_true, true_or, or_false, false_or, not_true_eq_false, not_false_eq_true, if_true, if_false, ite_self, Bool.not_true, Bool.not_false, Bool.false_eq_true, Bool.true_eq_false, decide_true, decide_false, ne_eq, reduceIte, Nat.reduceEqDiff, Option.some.injEq, Prod.mk.injEq, eq_self, r_lt, r_le, r_gt, r_ge, r_eq, r_ne, q_lt, q_le, q_gt, q_ge, q_eq, q_ne, decide_eq_true_eq, b01, b0, b1, o_iadd, o_imul, n_inb, nI_clamp, w_hr, w_hk, w_hl, w_eq, w_ne, wl_hr, wl_hk, wl_hi, wl_eq, wl_ne, stI, fI, fL, f_ss, f_sR, f_sL, lc0, lc1, lc01, fa_lit, fa_litL, hM.k, f1, f2]
theorem mr_is (H : MRd B n p h) {j : Nat} {c : Int64} (hc : c = cdW j) : DX12_is (sL (sR fr0 0 oM) 1 c) h = some (if isW B n p j = true then nI 1 else nI 0, h) := by
  subst hc
  have hM := H.1.1.1
  have s12 := H.2
  obtain ⟨-, -, s8, -, -, s11, -⟩ := H.1
  have hkd := kd_le (B := B) (n := n) (q := p)
  have ec : ∀ x y : Int64, (o_lcmp x y = nI 0) = (x = y) := fun x y => by
    unfold o_lcmp lg_cmp
    apply propext
    by_cases z : x > y
    · rw [if_pos z]
      exact ⟨fun q => absurd q (by decide), fun q => absurd z (by rw [q]; exact Int64.lt_irrefl)⟩
    · rw [if_neg z]
      by_cases w : x = y
      · rw [if_pos w]; exact ⟨fun _ => w, fun _ => rfl⟩
      · rw [if_neg w]; exact ⟨fun q => absurd q (by decide), fun q => absurd q w⟩
  unfold isW
  by_cases z : kd B n p = 1
  · have e1 : (nI (kd B n p) = nI 1) = True := eq_true (by rw [z])
    have z' : (kd B n p = 1) = True := eq_true z
    rcases Classical.propComplete (wd B n p = cdW j) with y | y
    · have e2 : (o_lcmp (wd B n p) (cdW j) = nI 0) = True := by rw [ec, y]
      simp (disch := omega) only [DX12_is, BX12_is, nI_n10, ob_t, ob_n, ob_ite, e_cI, e_cL, e_cR, e_vI, e_vL, e_vR, e_d2, e_d2_a, e_d2_b, e_d2z, e_d2z_a, e_d2z_b, e_d1, e_d1_a, e_GI, e_GI_a, e_GL, e_GL_a, e_GR, e_GR_a, e_AI, e_AI_a, e_AI_b, e_AB, e_AB_a, e_AB_b, e_AZ, e_AZ_a, e_AZ_b, e_AL, e_AL_a, e_AL_b, e_AR, e_AR_a, e_AR_b, e_Len, e_Len_a, e_CI, e_CI_a, e_CI_b, e_CZ, e_CZ_a, e_And, e_kAnd, e_Or, e_kOr, e_Not, e_kNot, e_B, e_kB, e_T, e_kT, e_NN, e_kNN, e_NewA, e_NewA_a, e_NewC, e_kNewC, e_aN, e_aI, e_aI_a, e_aI_b, e_aL, e_aL_a, e_aL_b, e_aR, e_aR_a, e_aR_b, e_Call, e_kCall, e_CallV, e_kCallV, e_SetI, e_kSetI, e_SetL, e_kSetL, e_SetR, e_kSetR, e_Inc, e_Skip, e_Brk, e_Cnt, e_Ret, e_kRet, e_Ret0, e_Seq, e_kSeq0, e_kSeq1, e_kSeq2, e_kSeqR, e_If, e_kIf, e_Do, e_kDo, e_Sup, e_kN0, e_d3, e_k3a, e_k3b, e_k3c, e_P, e_kPa, e_kPb, e_UA, e_kUAa, e_kUAb, e_kUAc, e_UL, e_kULa, e_kULb, e_kULc, e_UF, e_kUFa, e_kUFb, e_Cp, e_kCp, e_Sw, e_kSwa, e_kSwb0, e_kSwb1, e_kSwbR, e_M1, e_kM1, e_MZ, e_kMZ, e_MN, e_kMN, e_Tv, e_kTv, e_Tc, e_kTc, e_lpS, e_kLp, e_kLpB0, e_kLpB1, e_kLpB2, e_kLpBR, e_kLpU, e_dwS, e_kDwB0, e_kDwC, f_II, f_LL, f_RR, f_IL, f_IR, f_LI, f_LR, f_RI, f_RL, and_true, true_and, and_false, false_and, or_true, true_or, or_false, false_or, not_true_eq_false, not_false_eq_true, if_true, if_false, ite_self, Bool.not_true, Bool.not_false, Bool.false_eq_true, Bool.true_eq_false, decide_true, decide_false, ne_eq, reduceIte, Nat.reduceEqDiff, Option.some.injEq, Prod.mk.injEq, eq_self, r_lt, r_le, r_gt, r_ge, r_eq, r_ne, q_lt, q_le, q_gt, q_ge, q_eq, q_ne, decide_eq_true_eq, b01, b0, b1, o_iadd, o_imul, n_inb, nI_clamp, w_hr, w_hk, w_hl, w_eq, w_ne, wl_hr, wl_hk, wl_hi, wl_eq, wl_ne, stI, fI, fL, f_ss, f_sR, f_sL, lc0, lc1, lc01, fa_lit, fa_litL, hM.k, s12, s8, s11, e1, e2, z', y]
    · have e2 : (o_lcmp (wd B n p) (cdW j) = nI 0) = False := by rw [ec, y]
      simp (disch := omega) only [DX12_is, BX12_is, nI_n10, ob_t, ob_n, ob_ite, e_cI, e_cL, e_cR, e_vI, e_vL, e_vR, e_d2, e_d2_a, e_d2_b, e_d2z, e_d2z_a, e_d2z_b, e_d1, e_d1_a, e_GI, e_GI_a, e_GL, e_GL_a, e_GR, e_GR_a, e_AI, e_AI_a, e_AI_b, e_AB, e_AB_a, e_AB_b, e_AZ, e_AZ_a, e_AZ_b, e_AL, e_AL_a, e_AL_b, e_AR, e_AR_a, e_AR_b, e_Len, e_Len_a, e_CI, e_CI_a, e_CI_b, e_CZ, e_CZ_a, e_And, e_kAnd, e_Or, e_kOr, e_Not, e_kNot, e_B, e_kB, e_T, e_kT, e_NN, e_kNN, e_NewA, e_NewA_a, e_NewC, e_kNewC, e_aN, e_aI, e_aI_a, e_aI_b, e_aL, e_aL_a, e_aL_b, e_aR, e_aR_a, e_aR_b, e_Call, e_kCall, e_CallV, e_kCallV, e_SetI, e_kSetI, e_SetL, e_kSetL, e_SetR, e_kSetR, e_Inc, e_Skip, e_Brk, e_Cnt, e_Ret, e_kRet, e_Ret0, e_Seq, e_kSeq0, e_kSeq1, e_kSeq2, e_kSeqR, e_If, e_kIf, e_Do, e_kDo, e_Sup, e_kN0, e_d3, e_k3a, e_k3b, e_k3c, e_P, e_kPa, e_kPb, e_UA, e_kUAa, e_kUAb, e_kUAc, e_UL, e_kULa, e_kULb, e_kULc, e_UF, e_kUFa, e_kUFb, e_Cp, e_kCp, e_Sw, e_kSwa, e_kSwb0, e_kSwb1, e_kSwbR, e_M1, e_kM1, e_MZ, e_kMZ, e_MN, e_kMN, e_Tv, e_kTv, e_Tc, e_kTc, e_lpS, e_kLp, e_kLpB0, e_kLpB1, e_kLpB2, e_kLpBR, e_kLpU, e_dwS, e_kDwB0, e_kDwC, f_II, f_LL, f_RR, f_IL, f_IR, f_LI, f_LR, f_RI, f_RL, and_true, true_and, and_false, false_and, or_true, true_or, or_false, false_or, not_true_eq_false, not_false_eq_true, if_true, if_false, ite_self, Bool.not_true, Bool.not_false, Bool.false_eq_true, Bool.true_eq_false, decide_true, decide_false, ne_eq, reduceIte, Nat.reduceEqDiff, Option.some.injEq, Prod.mk.injEq, eq_self, r_lt, r_le, r_gt, r_ge, r_eq, r_ne, q_lt, q_le, q_gt, q_ge, q_eq, q_ne, decide_eq_true_eq, b01, b0, b1, o_iadd, o_imul, n_inb, nI_clamp, w_hr, w_hk, w_hl, w_eq, w_ne, wl_hr, wl_hk, wl_hi, wl_eq, wl_ne, stI, fI, fL, f_ss, f_sR, f_sL, lc0, lc1, lc01, fa_lit, fa_litL, hM.k, s12, s8, s11, e1, e2, z', y]
  · have e1 : (nI (kd B n p) = nI 1) = False := by rw [nI_eq (by omega) (by omega)]; exact eq_false z
    have z' : (kd B n p = 1) = False := eq_false z
    simp (disch := omega) only [DX12_is, BX12_is, nI_n10, ob_t, ob_n, ob_ite, e_cI, e_cL, e_cR, e_vI, e_vL, e_vR, e_d2, e_d2_a, e_d2_b, e_d2z, e_d2z_a, e_d2z_b, e_d1, e_d1_a, e_GI, e_GI_a, e_GL, e_GL_a, e_GR, e_GR_a, e_AI, e_AI_a, e_AI_b, e_AB, e_AB_a, e_AB_b, e_AZ, e_AZ_a, e_AZ_b, e_AL, e_AL_a, e_AL_b, e_AR, e_AR_a, e_AR_b, e_Len, e_Len_a, e_CI, e_CI_a, e_CI_b, e_CZ, e_CZ_a, e_And, e_kAnd, e_Or, e_kOr, e_Not, e_kNot, e_B, e_kB, e_T, e_kT, e_NN, e_kNN, e_NewA, e_NewA_a, e_NewC, e_kNewC, e_aN, e_aI, e_aI_a, e_aI_b, e_aL, e_aL_a, e_aL_b, e_aR, e_aR_a, e_aR_b, e_Call, e_kCall, e_CallV, e_kCallV, e_SetI, e_kSetI, e_SetL, e_kSetL, e_SetR, e_kSetR, e_Inc, e_Skip, e_Brk, e_Cnt, e_Ret, e_kRet, e_Ret0, e_Seq, e_kSeq0, e_kSeq1, e_kSeq2, e_kSeqR, e_If, e_kIf, e_Do, e_kDo, e_Sup, e_kN0, e_d3, e_k3a, e_k3b, e_k3c, e_P, e_kPa, e_kPb, e_UA, e_kUAa, e_kUAb, e_kUAc, e_UL, e_kULa, e_kULb, e_kULc, e_UF, e_kUFa, e_kUFb, e_Cp, e_kCp, e_Sw, e_kSwa, e_kSwb0, e_kSwb1, e_kSwbR, e_M1, e_kM1, e_MZ, e_kMZ, e_MN, e_kMN, e_Tv, e_kTv, e_Tc, e_kTc, e_lpS, e_kLp, e_kLpB0, e_kLpB1, e_kLpB2, e_kLpBR, e_kLpU, e_dwS, e_kDwB0, e_kDwC, f_II, f_LL, f_RR, f_IL, f_IR, f_LI, f_LR, f_RI, f_RL, and_true, true_and, and_false, false_and, or_true, true_or, or_false, false_or, not_true_eq_false, not_false_eq_true, if_true, if_false, ite_self, Bool.not_true, Bool.not_false, Bool.false_eq_true, Bool.true_eq_false, decide_true, decide_false, ne_eq, reduceIte, Nat.reduceEqDiff, Option.some.injEq, Prod.mk.injEq, eq_self, r_lt, r_le, r_gt, r_ge, r_eq, r_ne, q_lt, q_le, q_gt, q_ge, q_eq, q_ne, decide_eq_true_eq, b01, b0, b1, o_iadd, o_imul, n_inb, nI_clamp, w_hr, w_hk, w_hl, w_eq, w_ne, wl_hr, wl_hk, wl_hi, wl_eq, wl_ne, stI, fI, fL, f_ss, f_sR, f_sL, lc0, lc1, lc01, fa_lit, fa_litL, hM.k, s12, s8, e1, z']
theorem mf_is {e : Nat × Nat} (H : MFl e h) (c : Int64) : DX12_is (sL (sR fr0 0 oM) 1 c) h = some (nI 0, h) := by
  have hM := H.1
  obtain ⟨x, f1, f2⟩ := H.ne
  simp (disch := omega) only [DX12_is, BX12_is, nI_n10, ob_t, ob_n, ob_ite, e_cI, e_cL, e_cR, e_vI, e_vL, e_vR, e_d2, e_d2_a, e_d2_b, e_d2z, e_d2z_a, e_d2z_b, e_d1, e_d1_a, e_GI, e_GI_a, e_GL, e_GL_a, e_GR, e_GR_a, e_AI, e_AI_a, e_AI_b, e_AB, e_AB_a, e_AB_b, e_AZ, e_AZ_a, e_AZ_b, e_AL, e_AL_a, e_AL_b, e_AR, e_AR_a, e_AR_b, e_Len, e_Len_a, e_CI, e_CI_a, e_CI_b, e_CZ, e_CZ_a, e_And, e_kAnd, e_Or, e_kOr, e_Not, e_kNot, e_B, e_kB, e_T, e_kT, e_NN, e_kNN, e_NewA, e_NewA_a, e_NewC, e_kNewC, e_aN, e_aI, e_aI_a, e_aI_b, e_aL, e_aL_a, e_aL_b, e_aR, e_aR_a, e_aR_b, e_Call, e_kCall, e_CallV, e_kCallV, e_SetI, e_kSetI, e_SetL, e_kSetL, e_SetR, e_kSetR, e_Inc, e_Skip, e_Brk, e_Cnt, e_Ret, e_kRet, e_Ret0, e_Seq, e_kSeq0, e_kSeq1, e_kSeq2, e_kSeqR, e_If, e_kIf, e_Do, e_kDo, e_Sup, e_kN0, e_d3, e_k3a, e_k3b, e_k3c, e_P, e_kPa, e_kPb, e_UA, e_kUAa, e_kUAb, e_kUAc, e_UL, e_kULa, e_kULb, e_kULc, e_UF, e_kUFa, e_kUFb, e_Cp, e_kCp, e_Sw, e_kSwa, e_kSwb0, e_kSwb1, e_kSwbR, e_M1, e_kM1, e_MZ, e_kMZ, e_MN, e_kMN, e_Tv, e_kTv, e_Tc, e_kTc, e_lpS, e_kLp, e_kLpB0, e_kLpB1, e_kLpB2, e_kLpBR, e_kLpU, e_dwS, e_kDwB0, e_kDwC, f_II, f_LL, f_RR, f_IL, f_IR, f_LI, f_LR, f_RI, f_RL, and_true, true_and, and_false, false_and, or_true, true_or, or_false, false_or, not_true_eq_false, not_false_eq_true, if_true, if_false, ite_self, Bool.not_true, Bool.not_false, Bool.false_eq_true, Bool.true_eq_false, decide_true, decide_false, ne_eq, reduceIte, Nat.reduceEqDiff, Option.some.injEq, Prod.mk.injEq, eq_self, r_lt, r_le, r_gt, r_ge, r_eq, r_ne, q_lt, q_le, q_gt, q_ge, q_eq, q_ne, decide_eq_true_eq, b01, b0, b1, o_iadd, o_imul, n_inb, nI_clamp, w_hr, w_hk, w_hl, w_eq, w_ne, wl_hr, wl_hk, wl_hi, wl_eq, wl_ne, stI, fI, fL, f_ss, f_sR, f_sL, lc0, lc1, lc01, fa_lit, fa_litL, hM.k, f1, f2]
end
