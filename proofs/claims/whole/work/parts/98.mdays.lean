set_option maxRecDepth 100000
set_option maxHeartbeats 1000000
/-! the model's DAYS: a CARRY that is done, how they begin -/
theorem up_self {P S : PT} {j k : Nat} : ∀ a b, up S j k (S j k) a b = S a b := by
  intro a b
  unfold up
  split
  · rename_i q; rw [q.1, q.2]
  · rfl
section
variable {h : St} {m : Nat} {P S : PT}
theorem m_does (H : MG h m P) (hR : RN h m P S) (hS : WFS P S) {i : Nat} (hi1 : i < P 9 1) {d : Nat} (hd31 : d < 31) : ∃ g, DX12_does (sI (sI (sR fr0 0 m) 1 (nI i)) 2 (nI d)) h = some ((), g) ∧ RN g m P (carS P S i ((S 0 3).testBit d)) ∧ CY m h g := by
  have hM := H.s
  have hb := H.w.all
  obtain ⟨hm, hs, ha, hd⟩ := H.w.cy hi1
  have hx := hS.1
  unfold WFX at hx
  have h6 := hS.2.1
  have h7 := hS.2.2.1
  have h3 := hS.2.2.2.2.2.1 _ hs
  have h5 := hS.2.2.2.2.2.2.1 _ hs
  have h64 := pw6 H.w hs
  obtain ⟨b, hbb⟩ : ∃ b, b = (S 0 3).testBit d := ⟨_, rfl⟩
  obtain ⟨w, hww⟩ : ∃ w, w = wetS P S (P 11 i) b := ⟨_, rfl⟩
  have hwl : w ≤ S 3 (P 11 i) := by rw [hww]; exact wetS_le P S (P 11 i) b
  have e1 : DX12_carryPart (sI (sI (sR fr0 0 m) 1 (nI i)) 2 (nI 0)) h = some (nI (P 10 i), h) := m_carryPart H hi1 (t := 0) (by decide)
  have e2 : DX12_carryPart (sI (sI (sR fr0 0 m) 1 (nI i)) 2 (nI 1)) h = some (nI (P 11 i), h) := m_carryPart H hi1 (t := 1) (by decide)
  have e3 : DX12_carryPart (sI (sI (sR fr0 0 m) 1 (nI i)) 2 (nI 2)) h = some (nI (P 12 i), h) := m_carryPart H hi1 (t := 2) (by decide)
  have f6 := hR.n6
  obtain ⟨g1, a1, b1, c1⟩ := M_fld hM hR (k := 6) (S 0 6 ||| 2 ^ P 10 i) (Or.inl rfl)
  have a1 : fI 12 45 m (nI (S 0 6 ||| 2 ^ P 10 i)) h = some g1 := a1
  have f7 : hi g1 m 46 = nI (S 0 7) := b1.n7
  obtain ⟨g2, a2, b2, c2⟩ := M_fld (hM.to c1.1.1.1) b1 (k := 7) (S 0 7 ||| 2 ^ P 11 i) (Or.inr rfl)
  have a2 : fI 12 46 m (nI (S 0 7 ||| 2 ^ P 11 i)) g1 = some g2 := a2
  have q2 := c1.tr c2
  obtain ⟨g3, a3, b3, c3⟩ := M_put b2 (j := 1) (k := P 10 i) (P 12 i) (by decide) (by decide) (hM.to q2.1.1.1).k23 (by omega) (by decide)
  have a3 : stI 13 idI (m + 23) (nI (P 10 i)) (nI (P 12 i)) g2 = some g3 := a3
  have q3 := q2.tr c3
  obtain ⟨g4, a4, b4, c4⟩ := M_put b3 (j := 2) (k := P 11 i) (P 12 i) (by decide) (by decide) (hM.to q3.1.1.1).k24 (by omega) (by decide)
  have a4 : stI 13 idI (m + 24) (nI (P 11 i)) (nI (P 12 i)) g3 = some g4 := a4
  have q4 := q3.tr c4
  have f28 : hi g4 m 28 = nI (S 0 3) := b4.n3
  have f25 : hi g4 (m + 25) (P 11 i) = nI (S 3 (P 11 i)) := by rw [b4.a3 hs]; simp [up]
  have H4 := H.cm q4.cm
  obtain ⟨T, hT⟩ : ∃ T, T = up (up (up (up S 0 6 (S 0 6 ||| 2 ^ P 10 i)) 0 7 (S 0 7 ||| 2 ^ P 11 i)) 1 (P 10 i) (P 12 i)) 2 (P 11 i) (P 12 i) := ⟨_, rfl⟩
  rw [← hT] at b4
  -- the rain
  obtain ⟨g5, a5, b5, c5⟩ : ∃ g, (if b = true then stI 13 idI (m + 25) (nI (P 11 i)) (nI (rubL P (P 11 i) (S 3 (P 11 i)) 1)) g4 else some g4) = some g ∧ RN g m P (up T 3 (P 11 i) w) ∧ CY m g4 g := by
    cases b
    · refine ⟨g4, rfl, b4.cong (fun j k _ => ?_), CY.rf _ _⟩
      have e : w = T 3 (P 11 i) := by rw [hww, hT]; simp [up, wetS]
      rw [e]
      exact (up_self (P := P) j k).symm
    · obtain ⟨g5, a5, b5, c5⟩ := M_put b4 (j := 3) (k := P 11 i) w (by decide) (by decide) (hM.to q4.1.1.1).k25 (by omega) (by decide)
      have e : w = rubL P (P 11 i) (S 3 (P 11 i)) 1 := hww
      rw [e] at a5
      exact ⟨g5, by rw [if_pos rfl]; exact a5, b5, c5⟩
  have er1 := m_rubs H4 hs h3 (law := 1) (by decide)
  have q5 := q4.tr c5
  have f25b : hi g5 (m + 25) (P 11 i) = nI w := by rw [b5.a3 hs, up_eq]
  have f27 : hi g5 (m + 27) (8 * P 11 i + P 12 i) = nI (S 4 (8 * P 11 i + P 12 i)) := by rw [b5.a4 hs ha hb.2.2.2.1, hT]; simp [up]
  obtain ⟨g6, a6, b6, c6⟩ := M_put b5 (j := 4) (k := 8 * P 11 i + P 12 i) (S 4 (8 * P 11 i + P 12 i) ||| w) (by decide) (by decide) (hM.to q5.1.1.1).k27 (by omega) (by decide)
  have a6 : stI 13 idI (m + 27) (nI (8 * P 11 i + P 12 i)) (nI (S 4 (8 * P 11 i + P 12 i) ||| w)) g5 = some g6 := a6
  have q6 := q5.tr c6
  have f25c : hi g6 (m + 25) (P 11 i) = nI w := by rw [b6.a3 hs]; simp [up]
  obtain ⟨a7, b7, c7⟩ := M_oth b6 (r := 30) (k := i) (nI w) (Or.inr rfl) (hM.to q6.1.1.1).k30 (by omega) (by decide)
  obtain ⟨g7, hg7⟩ : ∃ g7, g7 = wI g6 (m + 30) i (nI w) := ⟨_, rfl⟩
  have c7' : CY m g6 g7 := ⟨by rw [hg7]; exact c7, fun c => by rw [hg7, wI_hi, if_neg (by omega)]⟩
  rw [← hg7] at a7 b7
  have q7 := q6.tr c7'
  have f26 : hi g7 (m + 26) (P 11 i) = nI (S 5 (P 11 i)) := by rw [b7.a5 hs, hT]; simp [up]
  have f25d : hi g7 (m + 25) (P 11 i) = nI w := by rw [b7.a3 hs]; simp [up]
  have f27' : hi g7 m 27 = nI (S 0 0) := by rw [b7.n0, hT]; simp [up]
  have H7 := H.cm q7.cm
  have er2 := m_rubs H7 hs (l := w) (law := S 0 0) (by omega) hx.1
  obtain ⟨g8, a8, b8, c8⟩ : ∃ g, (if (S 5 (P 11 i)).testBit (P 12 i) = true then some g7 else stI 13 idI (m + 25) (nI (P 11 i)) (nI (rubL P (P 11 i) w (S 0 0))) g7) = some g ∧ RN g m P (up (up (up T 3 (P 11 i) w) 4 (8 * P 11 i + P 12 i) (S 4 (8 * P 11 i + P 12 i) ||| w)) 3 (P 11 i) (if (S 5 (P 11 i)).testBit (P 12 i) = true then w else rubL P (P 11 i) w (S 0 0))) ∧ CY m g7 g := by
    by_cases t : (S 5 (P 11 i)).testBit (P 12 i) = true
    · rw [if_pos t]
      refine ⟨g7, rfl, b7.cong (fun j k _ => ?_), CY.rf _ _⟩
      rw [if_pos t]
      unfold up
      by_cases z : j = 3 ∧ k = P 11 i
      · rw [if_pos z, if_neg (by omega), if_pos z]
      · simp only [if_neg z]
    · rw [if_neg t, if_neg t]
      obtain ⟨g8, a8, b8, c8⟩ := M_put b7 (j := 3) (k := P 11 i) (rubL P (P 11 i) w (S 0 0)) (by decide) (by decide) (hM.to q7.1.1.1).k25 (by omega) (by decide)
      exact ⟨g8, a8, b8, c8⟩
  have q8 := q7.tr c8
  have f26b : hi g8 (m + 26) (P 11 i) = nI (S 5 (P 11 i)) := by rw [b8.a5 hs, hT]; simp [up]
  obtain ⟨g9, a9, b9, c9⟩ := M_put b8 (j := 5) (k := P 11 i) (S 5 (P 11 i) ||| 2 ^ P 12 i) (by decide) (by decide) (hM.to q8.1.1.1).k26 (by omega) (by decide)
  have a9 : stI 13 idI (m + 26) (nI (P 11 i)) (nI (S 5 (P 11 i) ||| 2 ^ P 12 i)) g8 = some g9 := a9
  rw [← hbb]
  refine ⟨g9, ?_, b9.cong (fun j k hjk => ?_), q8.tr c9⟩
  · have hr1 := c1.hr
    have hk1 := c1.hk
    have hr2 := c2.hr
    have hk2 := c2.hk
    have hr3 := c3.hr
    have hk3 := c3.hk
    have hr4 := c4.hr
    have hk4 := c4.hk
    have hr5 := c5.hr
    have hk5 := c5.hk
    have hr6 := c6.hr
    have hk6 := c6.hk
    have hr7 := c7'.hr
    have hk7 := c7'.hk
    have hr8 := c8.hr
    have hk8 := c8.hk
    by_cases t : (S 5 (P 11 i)).testBit (P 12 i) = true
    · rw [if_pos t] at a8
      have a8 : g7 = g8 := Option.some.inj a8
      subst a8
      by_cases hb2 : b = true
      · rw [if_pos hb2] at a5
        have hb3 : (S 0 3).testBit d = true := by rw [← hbb]; exact hb2
        simp (disch := omega) only [ob_t, ob_n, ob_ite, e_cI, e_cL, e_cR, e_vI, e_vL, e_vR, e_d2, e_d2_a, e_d2_b, e_d2z, e_d2z_a, e_d2z_b, e_d1, e_d1_a, e_GI, e_GI_a, e_GL, e_GL_a, e_GR, e_GR_a, e_AI, e_AI_a, e_AI_b, e_AB, e_AB_a, e_AB_b, e_AZ, e_AZ_a, e_AZ_b, e_AL, e_AL_a, e_AL_b, e_AR, e_AR_a, e_AR_b, e_Len, e_Len_a, e_CI, e_CI_a, e_CI_b, e_CZ, e_CZ_a, e_And, e_kAnd, e_Or, e_kOr, e_Not, e_kNot, e_B, e_kB, e_T, e_kT, e_NN, e_kNN, e_NewA, e_NewA_a, e_NewC, e_kNewC, e_aN, e_aI, e_aI_a, e_aI_b, e_aL, e_aL_a, e_aL_b, e_aR, e_aR_a, e_aR_b, e_Call, e_kCall, e_CallV, e_kCallV, e_SetI, e_kSetI, e_SetL, e_kSetL, e_SetR, e_kSetR, e_Inc, e_Skip, e_Brk, e_Cnt, e_Ret, e_kRet, e_Ret0, e_Seq, e_kSeq0, e_kSeq1, e_kSeq2, e_kSeqR, e_If, e_kIf, e_Do, e_kDo, e_Sup, e_kN0, e_d3, e_k3a, e_k3b, e_k3c, e_P, e_kPa, e_kPb, e_UA, e_kUAa, e_kUAb, e_kUAc, e_UL, e_kULa, e_kULb, e_kULc, e_UF, e_kUFa, e_kUFb, e_Cp, e_kCp, e_Sw, e_kSwa, e_kSwb0, e_kSwb1, e_kSwbR, e_M1, e_kM1, e_MZ, e_kMZ, e_MN, e_kMN, e_Tv, e_kTv, e_Tc, e_kTc, e_lpS, e_kLp, e_kLpB0, e_kLpB1, e_kLpB2, e_kLpBR, e_kLpU, e_dwS, e_kDwB0, e_kDwC, f_II, f_LL, f_RR, f_IL, f_IR, f_LI, f_LR, f_RI, f_RL, o_iadd, o_isub, o_imul, o_iand, o_ior, o_ixor, o_ladd, o_lsub, o_lmul, o_land, o_lor, o_ishl, o_ishr, o_iushr, o_lshl, o_lcmp, o_i2l, o_l2i, o_i2b, o_i2s, o_lneg, o_imax, o_imin, o_idiv, o_irem, o_ldiv, o_lrem, r_lt, r_le, r_gt, r_ge, r_eq, r_ne, q_lt, q_le, q_gt, q_ge, q_eq, q_ne, decide_eq_true_eq, idI, and_true, true_and, and_false, false_and, or_true, true_or, or_false, false_or, not_true_eq_false, not_false_eq_true, if_true, if_false, ite_self, Bool.not_true, Bool.not_false, Bool.false_eq_true, Bool.true_eq_false, decide_true, decide_false, ne_eq, reduceIte, Nat.reduceEqDiff, Option.some.injEq, Prod.mk.injEq, eq_self, fa_lit, nI_add, pk_mul, nI_ltI, nI_leI, nI_eq, b01, b0, b1, x_hasBit, Nat.reduceLeDiff, Nat.reduceAdd, Nat.reduceMul, Nat.reduceSub, Nat.lt_irrefl, Nat.reduceLT, n_inb, nI_clamp, w_hr, w_hk, w_hl, w_eq, w_ne, wl_hr, wl_hk, wl_hi, wl_eq, wl_ne, hM.k, hM.k1, hM.k2, hM.k3, hM.k4, hM.k5, hM.k6, hM.k7, hM.k8, hM.k9, hM.k10, hM.k11, hM.k12, hM.k13, hM.k14, hM.k15, hM.k16, hM.k17, hM.k18, hM.k19, hM.k20, hM.k21, hM.k22, hM.k23, hM.k24, hM.k25, hM.k26, hM.k27, hM.k28, hM.k29, hM.k30, hM.k31, hM.k32, hM.k33, hM.k34, hM.k35, hM.r1, hM.r2, hM.r3, hM.r4, hM.r5, hM.r16, hM.r17, hM.r18, hM.r19, hM.r20, hM.r21, hM.r22, hM.r23, hM.r24, hM.r25, hM.r26, hM.r31, hM.r32, hM.r33, hM.r34, hM.r35, hM.r36, hM.r37, hM.r38, hM.r39, hM.r40, hM.r41, hM.r42, hM.r43, hM.r44, hM.r47, hM.r48, hM.r49, hM.r50, hM.r54, DX12_does, BX12_does, e1, e2, e3, f6, f7, n_shl, fa_or, a1, a2, a3, a4, hr1, hk1, hr2, hk2, hr3, hk3, hr4, hk4, hr5, hk5, hr6, hk6, hr7, hk7, f28, m_isBit, hb3, f25, er1, a5, f25b, f27, a6, f25c, a7, f26, t, a9]
      · rw [if_neg hb2] at a5
        have a5 : g4 = g5 := Option.some.inj a5
        subst a5
        have hb3 : ¬ (S 0 3).testBit d = true := by rw [← hbb]; exact hb2
        simp (disch := omega) only [ob_t, ob_n, ob_ite, e_cI, e_cL, e_cR, e_vI, e_vL, e_vR, e_d2, e_d2_a, e_d2_b, e_d2z, e_d2z_a, e_d2z_b, e_d1, e_d1_a, e_GI, e_GI_a, e_GL, e_GL_a, e_GR, e_GR_a, e_AI, e_AI_a, e_AI_b, e_AB, e_AB_a, e_AB_b, e_AZ, e_AZ_a, e_AZ_b, e_AL, e_AL_a, e_AL_b, e_AR, e_AR_a, e_AR_b, e_Len, e_Len_a, e_CI, e_CI_a, e_CI_b, e_CZ, e_CZ_a, e_And, e_kAnd, e_Or, e_kOr, e_Not, e_kNot, e_B, e_kB, e_T, e_kT, e_NN, e_kNN, e_NewA, e_NewA_a, e_NewC, e_kNewC, e_aN, e_aI, e_aI_a, e_aI_b, e_aL, e_aL_a, e_aL_b, e_aR, e_aR_a, e_aR_b, e_Call, e_kCall, e_CallV, e_kCallV, e_SetI, e_kSetI, e_SetL, e_kSetL, e_SetR, e_kSetR, e_Inc, e_Skip, e_Brk, e_Cnt, e_Ret, e_kRet, e_Ret0, e_Seq, e_kSeq0, e_kSeq1, e_kSeq2, e_kSeqR, e_If, e_kIf, e_Do, e_kDo, e_Sup, e_kN0, e_d3, e_k3a, e_k3b, e_k3c, e_P, e_kPa, e_kPb, e_UA, e_kUAa, e_kUAb, e_kUAc, e_UL, e_kULa, e_kULb, e_kULc, e_UF, e_kUFa, e_kUFb, e_Cp, e_kCp, e_Sw, e_kSwa, e_kSwb0, e_kSwb1, e_kSwbR, e_M1, e_kM1, e_MZ, e_kMZ, e_MN, e_kMN, e_Tv, e_kTv, e_Tc, e_kTc, e_lpS, e_kLp, e_kLpB0, e_kLpB1, e_kLpB2, e_kLpBR, e_kLpU, e_dwS, e_kDwB0, e_kDwC, f_II, f_LL, f_RR, f_IL, f_IR, f_LI, f_LR, f_RI, f_RL, o_iadd, o_isub, o_imul, o_iand, o_ior, o_ixor, o_ladd, o_lsub, o_lmul, o_land, o_lor, o_ishl, o_ishr, o_iushr, o_lshl, o_lcmp, o_i2l, o_l2i, o_i2b, o_i2s, o_lneg, o_imax, o_imin, o_idiv, o_irem, o_ldiv, o_lrem, r_lt, r_le, r_gt, r_ge, r_eq, r_ne, q_lt, q_le, q_gt, q_ge, q_eq, q_ne, decide_eq_true_eq, idI, and_true, true_and, and_false, false_and, or_true, true_or, or_false, false_or, not_true_eq_false, not_false_eq_true, if_true, if_false, ite_self, Bool.not_true, Bool.not_false, Bool.false_eq_true, Bool.true_eq_false, decide_true, decide_false, ne_eq, reduceIte, Nat.reduceEqDiff, Option.some.injEq, Prod.mk.injEq, eq_self, fa_lit, nI_add, pk_mul, nI_ltI, nI_leI, nI_eq, b01, b0, b1, x_hasBit, Nat.reduceLeDiff, Nat.reduceAdd, Nat.reduceMul, Nat.reduceSub, Nat.lt_irrefl, Nat.reduceLT, n_inb, nI_clamp, w_hr, w_hk, w_hl, w_eq, w_ne, wl_hr, wl_hk, wl_hi, wl_eq, wl_ne, hM.k, hM.k1, hM.k2, hM.k3, hM.k4, hM.k5, hM.k6, hM.k7, hM.k8, hM.k9, hM.k10, hM.k11, hM.k12, hM.k13, hM.k14, hM.k15, hM.k16, hM.k17, hM.k18, hM.k19, hM.k20, hM.k21, hM.k22, hM.k23, hM.k24, hM.k25, hM.k26, hM.k27, hM.k28, hM.k29, hM.k30, hM.k31, hM.k32, hM.k33, hM.k34, hM.k35, hM.r1, hM.r2, hM.r3, hM.r4, hM.r5, hM.r16, hM.r17, hM.r18, hM.r19, hM.r20, hM.r21, hM.r22, hM.r23, hM.r24, hM.r25, hM.r26, hM.r31, hM.r32, hM.r33, hM.r34, hM.r35, hM.r36, hM.r37, hM.r38, hM.r39, hM.r40, hM.r41, hM.r42, hM.r43, hM.r44, hM.r47, hM.r48, hM.r49, hM.r50, hM.r54, DX12_does, BX12_does, e1, e2, e3, f6, f7, n_shl, fa_or, a1, a2, a3, a4, hr1, hk1, hr2, hk2, hr3, hk3, hr4, hk4, hr6, hk6, hr7, hk7, f28, m_isBit, hb3, f25b, f27, a6, f25c, a7, f26, t, a9]
    · rw [if_neg t] at a8
      by_cases hb2 : b = true
      · rw [if_pos hb2] at a5
        have hb3 : (S 0 3).testBit d = true := by rw [← hbb]; exact hb2
        simp (disch := omega) only [ob_t, ob_n, ob_ite, e_cI, e_cL, e_cR, e_vI, e_vL, e_vR, e_d2, e_d2_a, e_d2_b, e_d2z, e_d2z_a, e_d2z_b, e_d1, e_d1_a, e_GI, e_GI_a, e_GL, e_GL_a, e_GR, e_GR_a, e_AI, e_AI_a, e_AI_b, e_AB, e_AB_a, e_AB_b, e_AZ, e_AZ_a, e_AZ_b, e_AL, e_AL_a, e_AL_b, e_AR, e_AR_a, e_AR_b, e_Len, e_Len_a, e_CI, e_CI_a, e_CI_b, e_CZ, e_CZ_a, e_And, e_kAnd, e_Or, e_kOr, e_Not, e_kNot, e_B, e_kB, e_T, e_kT, e_NN, e_kNN, e_NewA, e_NewA_a, e_NewC, e_kNewC, e_aN, e_aI, e_aI_a, e_aI_b, e_aL, e_aL_a, e_aL_b, e_aR, e_aR_a, e_aR_b, e_Call, e_kCall, e_CallV, e_kCallV, e_SetI, e_kSetI, e_SetL, e_kSetL, e_SetR, e_kSetR, e_Inc, e_Skip, e_Brk, e_Cnt, e_Ret, e_kRet, e_Ret0, e_Seq, e_kSeq0, e_kSeq1, e_kSeq2, e_kSeqR, e_If, e_kIf, e_Do, e_kDo, e_Sup, e_kN0, e_d3, e_k3a, e_k3b, e_k3c, e_P, e_kPa, e_kPb, e_UA, e_kUAa, e_kUAb, e_kUAc, e_UL, e_kULa, e_kULb, e_kULc, e_UF, e_kUFa, e_kUFb, e_Cp, e_kCp, e_Sw, e_kSwa, e_kSwb0, e_kSwb1, e_kSwbR, e_M1, e_kM1, e_MZ, e_kMZ, e_MN, e_kMN, e_Tv, e_kTv, e_Tc, e_kTc, e_lpS, e_kLp, e_kLpB0, e_kLpB1, e_kLpB2, e_kLpBR, e_kLpU, e_dwS, e_kDwB0, e_kDwC, f_II, f_LL, f_RR, f_IL, f_IR, f_LI, f_LR, f_RI, f_RL, o_iadd, o_isub, o_imul, o_iand, o_ior, o_ixor, o_ladd, o_lsub, o_lmul, o_land, o_lor, o_ishl, o_ishr, o_iushr, o_lshl, o_lcmp, o_i2l, o_l2i, o_i2b, o_i2s, o_lneg, o_imax, o_imin, o_idiv, o_irem, o_ldiv, o_lrem, r_lt, r_le, r_gt, r_ge, r_eq, r_ne, q_lt, q_le, q_gt, q_ge, q_eq, q_ne, decide_eq_true_eq, idI, and_true, true_and, and_false, false_and, or_true, true_or, or_false, false_or, not_true_eq_false, not_false_eq_true, if_true, if_false, ite_self, Bool.not_true, Bool.not_false, Bool.false_eq_true, Bool.true_eq_false, decide_true, decide_false, ne_eq, reduceIte, Nat.reduceEqDiff, Option.some.injEq, Prod.mk.injEq, eq_self, fa_lit, nI_add, pk_mul, nI_ltI, nI_leI, nI_eq, b01, b0, b1, x_hasBit, Nat.reduceLeDiff, Nat.reduceAdd, Nat.reduceMul, Nat.reduceSub, Nat.lt_irrefl, Nat.reduceLT, n_inb, nI_clamp, w_hr, w_hk, w_hl, w_eq, w_ne, wl_hr, wl_hk, wl_hi, wl_eq, wl_ne, hM.k, hM.k1, hM.k2, hM.k3, hM.k4, hM.k5, hM.k6, hM.k7, hM.k8, hM.k9, hM.k10, hM.k11, hM.k12, hM.k13, hM.k14, hM.k15, hM.k16, hM.k17, hM.k18, hM.k19, hM.k20, hM.k21, hM.k22, hM.k23, hM.k24, hM.k25, hM.k26, hM.k27, hM.k28, hM.k29, hM.k30, hM.k31, hM.k32, hM.k33, hM.k34, hM.k35, hM.r1, hM.r2, hM.r3, hM.r4, hM.r5, hM.r16, hM.r17, hM.r18, hM.r19, hM.r20, hM.r21, hM.r22, hM.r23, hM.r24, hM.r25, hM.r26, hM.r31, hM.r32, hM.r33, hM.r34, hM.r35, hM.r36, hM.r37, hM.r38, hM.r39, hM.r40, hM.r41, hM.r42, hM.r43, hM.r44, hM.r47, hM.r48, hM.r49, hM.r50, hM.r54, DX12_does, BX12_does, e1, e2, e3, f6, f7, n_shl, fa_or, a1, a2, a3, a4, hr1, hk1, hr2, hk2, hr3, hk3, hr4, hk4, hr5, hk5, hr6, hk6, hr7, hk7, hr8, hk8, f28, m_isBit, hb3, f25, er1, a5, f25b, f27, a6, f25c, a7, f26, t, f25d, f27', er2, a8, f26b, a9]
      · rw [if_neg hb2] at a5
        have a5 : g4 = g5 := Option.some.inj a5
        subst a5
        have hb3 : ¬ (S 0 3).testBit d = true := by rw [← hbb]; exact hb2
        simp (disch := omega) only [ob_t, ob_n, ob_ite, e_cI, e_cL, e_cR, e_vI, e_vL, e_vR, e_d2, e_d2_a, e_d2_b, e_d2z, e_d2z_a, e_d2z_b, e_d1, e_d1_a, e_GI, e_GI_a, e_GL, e_GL_a, e_GR, e_GR_a, e_AI, e_AI_a, e_AI_b, e_AB, e_AB_a, e_AB_b, e_AZ, e_AZ_a, e_AZ_b, e_AL, e_AL_a, e_AL_b, e_AR, e_AR_a, e_AR_b, e_Len, e_Len_a, e_CI, e_CI_a, e_CI_b, e_CZ, e_CZ_a, e_And, e_kAnd, e_Or, e_kOr, e_Not, e_kNot, e_B, e_kB, e_T, e_kT, e_NN, e_kNN, e_NewA, e_NewA_a, e_NewC, e_kNewC, e_aN, e_aI, e_aI_a, e_aI_b, e_aL, e_aL_a, e_aL_b, e_aR, e_aR_a, e_aR_b, e_Call, e_kCall, e_CallV, e_kCallV, e_SetI, e_kSetI, e_SetL, e_kSetL, e_SetR, e_kSetR, e_Inc, e_Skip, e_Brk, e_Cnt, e_Ret, e_kRet, e_Ret0, e_Seq, e_kSeq0, e_kSeq1, e_kSeq2, e_kSeqR, e_If, e_kIf, e_Do, e_kDo, e_Sup, e_kN0, e_d3, e_k3a, e_k3b, e_k3c, e_P, e_kPa, e_kPb, e_UA, e_kUAa, e_kUAb, e_kUAc, e_UL, e_kULa, e_kULb, e_kULc, e_UF, e_kUFa, e_kUFb, e_Cp, e_kCp, e_Sw, e_kSwa, e_kSwb0, e_kSwb1, e_kSwbR, e_M1, e_kM1, e_MZ, e_kMZ, e_MN, e_kMN, e_Tv, e_kTv, e_Tc, e_kTc, e_lpS, e_kLp, e_kLpB0, e_kLpB1, e_kLpB2, e_kLpBR, e_kLpU, e_dwS, e_kDwB0, e_kDwC, f_II, f_LL, f_RR, f_IL, f_IR, f_LI, f_LR, f_RI, f_RL, o_iadd, o_isub, o_imul, o_iand, o_ior, o_ixor, o_ladd, o_lsub, o_lmul, o_land, o_lor, o_ishl, o_ishr, o_iushr, o_lshl, o_lcmp, o_i2l, o_l2i, o_i2b, o_i2s, o_lneg, o_imax, o_imin, o_idiv, o_irem, o_ldiv, o_lrem, r_lt, r_le, r_gt, r_ge, r_eq, r_ne, q_lt, q_le, q_gt, q_ge, q_eq, q_ne, decide_eq_true_eq, idI, and_true, true_and, and_false, false_and, or_true, true_or, or_false, false_or, not_true_eq_false, not_false_eq_true, if_true, if_false, ite_self, Bool.not_true, Bool.not_false, Bool.false_eq_true, Bool.true_eq_false, decide_true, decide_false, ne_eq, reduceIte, Nat.reduceEqDiff, Option.some.injEq, Prod.mk.injEq, eq_self, fa_lit, nI_add, pk_mul, nI_ltI, nI_leI, nI_eq, b01, b0, b1, x_hasBit, Nat.reduceLeDiff, Nat.reduceAdd, Nat.reduceMul, Nat.reduceSub, Nat.lt_irrefl, Nat.reduceLT, n_inb, nI_clamp, w_hr, w_hk, w_hl, w_eq, w_ne, wl_hr, wl_hk, wl_hi, wl_eq, wl_ne, hM.k, hM.k1, hM.k2, hM.k3, hM.k4, hM.k5, hM.k6, hM.k7, hM.k8, hM.k9, hM.k10, hM.k11, hM.k12, hM.k13, hM.k14, hM.k15, hM.k16, hM.k17, hM.k18, hM.k19, hM.k20, hM.k21, hM.k22, hM.k23, hM.k24, hM.k25, hM.k26, hM.k27, hM.k28, hM.k29, hM.k30, hM.k31, hM.k32, hM.k33, hM.k34, hM.k35, hM.r1, hM.r2, hM.r3, hM.r4, hM.r5, hM.r16, hM.r17, hM.r18, hM.r19, hM.r20, hM.r21, hM.r22, hM.r23, hM.r24, hM.r25, hM.r26, hM.r31, hM.r32, hM.r33, hM.r34, hM.r35, hM.r36, hM.r37, hM.r38, hM.r39, hM.r40, hM.r41, hM.r42, hM.r43, hM.r44, hM.r47, hM.r48, hM.r49, hM.r50, hM.r54, DX12_does, BX12_does, e1, e2, e3, f6, f7, n_shl, fa_or, a1, a2, a3, a4, hr1, hk1, hr2, hk2, hr3, hk3, hr4, hk4, hr6, hk6, hr7, hk7, hr8, hk8, f28, m_isBit, hb3, f25b, f27, a6, f25c, a7, f26, t, f25d, f27', er2, a8, f26b, a9]
  · have j7 : ¬ j = 7 := by have := hjk.1; omega
    unfold carS
    rw [← hww]
    by_cases t : (S 5 (P 11 i)).testBit (P 12 i) = true
    · rw [if_pos t, if_pos t, hT]
      unfold outS up
      by_cases j5 : j = 5
      · subst j5
        by_cases k5 : k = P 11 i
        · subst k5
          simp
          apply Nat.eq_of_testBit_eq
          intro n
          rw [fb_bit_set]
          by_cases zn : n = P 12 i
          · subst zn; simp [t]
          · simp [zn]
        · simp [k5]
      · by_cases j3 : j = 3
        · subst j3
          by_cases k5 : k = P 11 i <;> simp [k5]
        · simp [j5, j3, j7]
    · rw [if_neg t, if_neg t, hT]
      unfold outS up
      by_cases j5 : j = 5
      · subst j5
        by_cases k5 : k = P 11 i <;> simp [k5]
      · by_cases j3 : j = 3
        · subst j3
          by_cases k5 : k = P 11 i <;> simp [k5]
        · simp [j5, j3, j7]
end
