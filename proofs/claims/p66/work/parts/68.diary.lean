set_option maxRecDepth 100000
set_option maxHeartbeats 1000000
/-! the DAYS run through; a Diary -/
section
variable {h : St} {c p d : Nat} {S P : PT}
theorem lf0_lt (hW : WFP P) {s : Nat} (hs : s < P 0 7) : lf0 P s < 2 ^ P 7 s := by
  have h1 := clr_le (allW P s) (ruN P s (P 9 2))
  have h2 : 1 ≤ 2 ^ P 7 s := Nat.one_le_two_pow
  have h3 : allW P s = 2 ^ P 7 s - 1 := rfl
  unfold lf0
  omega
theorem begS_0 (P S : PT) (k : Nat) : begS P S 0 k = S 0 k := by
  unfold begS
  simp
theorem WFB_beg (hW : WFP P) (hS : WFX P S) : WFB P (begS P S) := by
  have hb := hW.all
  have e0 : ∀ k, k < 6 → up (up (begS P S) 0 6 0) 0 7 0 0 k = S 0 k := fun k hk1 => by
    unfold up
    rw [if_neg (by omega), if_neg (by omega)]
    exact begS_0 P S k
  have e1 : ∀ j k, j ≠ 0 → up (up (begS P S) 0 6 0) 0 7 0 j k = begS P S j k := fun j k hj => by
    unfold up
    rw [if_neg (by omega), if_neg (by omega)]
  refine ⟨?_, ?_, ?_, fun m hm => ?_, fun s hs => ?_, fun s hs => ?_, fun s hs => ?_, fun k hk1 => ?_, fun i hi1 => ?_, fun i hi1 => ?_⟩
  · unfold WFX
    rw [e0 0 (by decide), e0 1 (by decide), e0 2 (by decide), e0 3 (by decide), e0 4 (by decide), e0 5 (by decide)]
    exact hS
  · show (0 : Nat) < 32
    decide
  · show (0 : Nat) < 8
    decide
  · rw [e1 _ _ (by decide)]
    have := (hW.cr hm).1
    simp [begS, hm, this]
  · rw [e1 _ _ (by decide)]
    have := fsS_lt hW hS hs
    simp [begS, hs, this]
  · rw [e1 _ _ (by decide)]
    have := lf0_lt hW hs
    simp [begS, hs, this]
  · rw [e1 _ _ (by decide)]
    have h1 : 2 ^ fsS P S s < 2 ^ 8 := pow_lt (by have := fsS_lt hW hS hs; omega)
    simp [begS, hs]
    exact h1
  · rw [e1 _ _ (by decide)]
    unfold begS
    simp
    split
    · rename_i q
      have := lf0_lt hW q.1
      have := pw6 hW q.1
      omega
    · omega
  · rw [e1 _ _ (by decide)]
    simp [begS]
  · rw [e1 _ _ (by decide)]
    simp [begS]
theorem WFB_run (hW : WFP P) (hS : WFX P S) : ∀ k, WFB P (runN P S k) := by
  intro k
  induction k with
  | zero => exact WFB_beg hW hS
  | succ k ih => exact (WFS_day hW ih k).b
theorem WFS_run (hW : WFP P) (hS : WFX P S) (k : Nat) : WFS P (runN P S (k + 1)) := WFS_day hW (WFB_run hW hS k) k
theorem x_runThrough (hC : CS h c) (hR : RC h c S) (hG : PG h p P) (hS : WFX P S) (hd : p + 16 ≤ c ∨ c + 8 ≤ p) : ∃ g, DX2_runThrough (sR (sR fr0 0 c) 1 p) h = some ((), g) ∧ RC g c (runN P S (P 0 1)) ∧ Ch (cD c) h g := by
  have hW := hG.w
  have hb := hW.all
  obtain ⟨g1, a1, b1, c1⟩ := x_begin hC hR hG hS hd
  obtain ⟨g2, L, b2, c2⟩ : ∃ g, LX2_runThrough_1 (sI (sR (sR fr0 0 c) 1 p) 2 (nI 0)) g1 = some (.inl 0, sI (sR (sR fr0 0 c) 1 p) 2 (nI (P 0 1)), g) ∧ RC g c (runN P S (P 0 1)) ∧ Ch (cD c) h g := by
    unfold LX2_runThrough_1
    refine loop_g (fun k => sI (sR (sR fr0 0 c) 1 p) 2 (nI k)) (fun k g => RC g c (runN P S k) ∧ Ch (cD c) h g) (P 0 1) rfl ⟨b1, c1⟩ (fun k g hk hI => ?_) (fun g hI => ?_)
    · obtain ⟨hRg, hq⟩ := hI
      have hGg := hG.cc hq hd
      have hC := hC.to hq.1
      have hP := hGg.s
      have e1 := hGg.r.sc (k := 1) (by decide)
      obtain ⟨g5, a5, b5, c5⟩ := x_passDay hC hRg hGg (WFB_run hW hS k) hd (d := k) (by omega)
      refine ⟨g5, ?_, b5, hq.tr c5⟩
      simp (disch := omega) only [ob_t, ob_n, ob_ite, e_cI, e_cL, e_cR, e_vI, e_vL, e_vR, e_d2, e_d2_a, e_d2_b, e_d2z, e_d2z_a, e_d2z_b, e_d1, e_d1_a, e_GI, e_GI_a, e_GL, e_GL_a, e_GR, e_GR_a, e_AI, e_AI_a, e_AI_b, e_AB, e_AB_a, e_AB_b, e_AZ, e_AZ_a, e_AZ_b, e_AL, e_AL_a, e_AL_b, e_AR, e_AR_a, e_AR_b, e_Len, e_Len_a, e_CI, e_CI_a, e_CI_b, e_CZ, e_CZ_a, e_And, e_kAnd, e_Or, e_kOr, e_Not, e_kNot, e_B, e_kB, e_T, e_kT, e_NN, e_kNN, e_NewA, e_NewA_a, e_NewC, e_kNewC, e_aN, e_aI, e_aI_a, e_aI_b, e_aL, e_aL_a, e_aL_b, e_aR, e_aR_a, e_aR_b, e_Call, e_kCall, e_CallV, e_kCallV, e_SetI, e_kSetI, e_SetL, e_kSetL, e_SetR, e_kSetR, e_Inc, e_Skip, e_Brk, e_Cnt, e_Ret, e_kRet, e_Ret0, e_Seq, e_kSeq0, e_kSeq1, e_kSeq2, e_kSeqR, e_If, e_kIf, e_Do, e_kDo, e_Sup, e_kN0, e_d3, e_k3a, e_k3b, e_k3c, e_P, e_kPa, e_kPb, e_UA, e_kUAa, e_kUAb, e_kUAc, e_UL, e_kULa, e_kULb, e_kULc, e_UF, e_kUFa, e_kUFb, e_Cp, e_kCp, e_Sw, e_kSwa, e_kSwb0, e_kSwb1, e_kSwbR, e_M1, e_kM1, e_MZ, e_kMZ, e_MN, e_kMN, e_Tv, e_kTv, e_Tc, e_kTc, e_lpS, e_kLp, e_kLpB0, e_kLpB1, e_kLpB2, e_kLpBR, e_kLpU, e_dwS, e_kDwB0, e_kDwC, f_II, f_LL, f_RR, f_IL, f_IR, f_LI, f_LR, f_RI, f_RL, o_iadd, o_isub, o_imul, o_iand, o_ior, o_ixor, o_ladd, o_lsub, o_lmul, o_land, o_lor, o_ishl, o_ishr, o_iushr, o_lshl, o_lshr, o_lcmp, o_i2l, o_l2i, o_i2b, o_i2s, o_lneg, o_ineg, o_imax, o_imin, o_idiv, o_irem, o_ldiv, o_lrem, r_lt, r_le, r_gt, r_ge, r_eq, r_ne, q_lt, q_le, q_gt, q_ge, q_eq, q_ne, decide_eq_true_eq, idI, and_true, true_and, and_false, false_and, or_true, true_or, or_false, false_or, not_true_eq_false, not_false_eq_true, if_true, if_false, ite_self, Bool.not_true, Bool.not_false, Bool.false_eq_true, Bool.true_eq_false, decide_true, decide_false, ne_eq, reduceIte, Nat.reduceEqDiff, Option.some.injEq, Prod.mk.injEq, eq_self, fa_lit, nI_add, pk_mul, nI_ltI, nI_leI, nI_eq, b01, b0, b1, x_hasBit, Nat.reduceLeDiff, Nat.reduceAdd, Nat.reduceMul, Nat.reduceSub, Nat.lt_irrefl, Nat.reduceLT, hP.k, hP.k9, hP.r8, hP.r9, hP.r10, hP.r11, hP.r12, hP.r13, hP.r14, hP.r15, hP.r16, hP.c3, hP.c4, hP.c5, hP.c6, hP.c7, hP.c8, hC.k, hC.r8, hC.r9, hC.r10, hC.r11, hC.r12, hC.r13, hC.r14, e1, hk, a5]
    · obtain ⟨hRg, hq⟩ := hI
      have hGg := hG.cc hq hd
      have hP := hGg.s
      have e1 := hGg.r.sc (k := 1) (by decide)
      simp (disch := omega) only [ob_t, ob_n, ob_ite, e_cI, e_cL, e_cR, e_vI, e_vL, e_vR, e_d2, e_d2_a, e_d2_b, e_d2z, e_d2z_a, e_d2z_b, e_d1, e_d1_a, e_GI, e_GI_a, e_GL, e_GL_a, e_GR, e_GR_a, e_AI, e_AI_a, e_AI_b, e_AB, e_AB_a, e_AB_b, e_AZ, e_AZ_a, e_AZ_b, e_AL, e_AL_a, e_AL_b, e_AR, e_AR_a, e_AR_b, e_Len, e_Len_a, e_CI, e_CI_a, e_CI_b, e_CZ, e_CZ_a, e_And, e_kAnd, e_Or, e_kOr, e_Not, e_kNot, e_B, e_kB, e_T, e_kT, e_NN, e_kNN, e_NewA, e_NewA_a, e_NewC, e_kNewC, e_aN, e_aI, e_aI_a, e_aI_b, e_aL, e_aL_a, e_aL_b, e_aR, e_aR_a, e_aR_b, e_Call, e_kCall, e_CallV, e_kCallV, e_SetI, e_kSetI, e_SetL, e_kSetL, e_SetR, e_kSetR, e_Inc, e_Skip, e_Brk, e_Cnt, e_Ret, e_kRet, e_Ret0, e_Seq, e_kSeq0, e_kSeq1, e_kSeq2, e_kSeqR, e_If, e_kIf, e_Do, e_kDo, e_Sup, e_kN0, e_d3, e_k3a, e_k3b, e_k3c, e_P, e_kPa, e_kPb, e_UA, e_kUAa, e_kUAb, e_kUAc, e_UL, e_kULa, e_kULb, e_kULc, e_UF, e_kUFa, e_kUFb, e_Cp, e_kCp, e_Sw, e_kSwa, e_kSwb0, e_kSwb1, e_kSwbR, e_M1, e_kM1, e_MZ, e_kMZ, e_MN, e_kMN, e_Tv, e_kTv, e_Tc, e_kTc, e_lpS, e_kLp, e_kLpB0, e_kLpB1, e_kLpB2, e_kLpBR, e_kLpU, e_dwS, e_kDwB0, e_kDwC, f_II, f_LL, f_RR, f_IL, f_IR, f_LI, f_LR, f_RI, f_RL, o_iadd, o_isub, o_imul, o_iand, o_ior, o_ixor, o_ladd, o_lsub, o_lmul, o_land, o_lor, o_ishl, o_ishr, o_iushr, o_lshl, o_lshr, o_lcmp, o_i2l, o_l2i, o_i2b, o_i2s, o_lneg, o_ineg, o_imax, o_imin, o_idiv, o_irem, o_ldiv, o_lrem, r_lt, r_le, r_gt, r_ge, r_eq, r_ne, q_lt, q_le, q_gt, q_ge, q_eq, q_ne, decide_eq_true_eq, idI, and_true, true_and, and_false, false_and, or_true, true_or, or_false, false_or, not_true_eq_false, not_false_eq_true, if_true, if_false, ite_self, Bool.not_true, Bool.not_false, Bool.false_eq_true, Bool.true_eq_false, decide_true, decide_false, ne_eq, reduceIte, Nat.reduceEqDiff, Option.some.injEq, Prod.mk.injEq, eq_self, fa_lit, nI_add, pk_mul, nI_ltI, nI_leI, nI_eq, b01, b0, b1, x_hasBit, Nat.reduceLeDiff, Nat.reduceAdd, Nat.reduceMul, Nat.reduceSub, Nat.lt_irrefl, Nat.reduceLT, hP.k, hP.k9, hP.r8, hP.r9, hP.r10, hP.r11, hP.r12, hP.r13, hP.r14, hP.r15, hP.r16, hP.c3, hP.c4, hP.c5, hP.c6, hP.c7, hP.c8, e1]
  refine ⟨g2, ?_, b2, c2⟩
  simp (disch := omega) only [DX2_runThrough, BX2_runThrough, ob_t, ob_n, ob_ite, e_cI, e_cL, e_cR, e_vI, e_vL, e_vR, e_d2, e_d2_a, e_d2_b, e_d2z, e_d2z_a, e_d2z_b, e_d1, e_d1_a, e_GI, e_GI_a, e_GL, e_GL_a, e_GR, e_GR_a, e_AI, e_AI_a, e_AI_b, e_AB, e_AB_a, e_AB_b, e_AZ, e_AZ_a, e_AZ_b, e_AL, e_AL_a, e_AL_b, e_AR, e_AR_a, e_AR_b, e_Len, e_Len_a, e_CI, e_CI_a, e_CI_b, e_CZ, e_CZ_a, e_And, e_kAnd, e_Or, e_kOr, e_Not, e_kNot, e_B, e_kB, e_T, e_kT, e_NN, e_kNN, e_NewA, e_NewA_a, e_NewC, e_kNewC, e_aN, e_aI, e_aI_a, e_aI_b, e_aL, e_aL_a, e_aL_b, e_aR, e_aR_a, e_aR_b, e_Call, e_kCall, e_CallV, e_kCallV, e_SetI, e_kSetI, e_SetL, e_kSetL, e_SetR, e_kSetR, e_Inc, e_Skip, e_Brk, e_Cnt, e_Ret, e_kRet, e_Ret0, e_Seq, e_kSeq0, e_kSeq1, e_kSeq2, e_kSeqR, e_If, e_kIf, e_Do, e_kDo, e_Sup, e_kN0, e_d3, e_k3a, e_k3b, e_k3c, e_P, e_kPa, e_kPb, e_UA, e_kUAa, e_kUAb, e_kUAc, e_UL, e_kULa, e_kULb, e_kULc, e_UF, e_kUFa, e_kUFb, e_Cp, e_kCp, e_Sw, e_kSwa, e_kSwb0, e_kSwb1, e_kSwbR, e_M1, e_kM1, e_MZ, e_kMZ, e_MN, e_kMN, e_Tv, e_kTv, e_Tc, e_kTc, e_lpS, e_kLp, e_kLpB0, e_kLpB1, e_kLpB2, e_kLpBR, e_kLpU, e_dwS, e_kDwB0, e_kDwC, f_II, f_LL, f_RR, f_IL, f_IR, f_LI, f_LR, f_RI, f_RL, o_iadd, o_isub, o_imul, o_iand, o_ior, o_ixor, o_ladd, o_lsub, o_lmul, o_land, o_lor, o_ishl, o_ishr, o_iushr, o_lshl, o_lshr, o_lcmp, o_i2l, o_l2i, o_i2b, o_i2s, o_lneg, o_ineg, o_imax, o_imin, o_idiv, o_irem, o_ldiv, o_lrem, r_lt, r_le, r_gt, r_ge, r_eq, r_ne, q_lt, q_le, q_gt, q_ge, q_eq, q_ne, decide_eq_true_eq, idI, and_true, true_and, and_false, false_and, or_true, true_or, or_false, false_or, not_true_eq_false, not_false_eq_true, if_true, if_false, ite_self, Bool.not_true, Bool.not_false, Bool.false_eq_true, Bool.true_eq_false, decide_true, decide_false, ne_eq, reduceIte, Nat.reduceEqDiff, Option.some.injEq, Prod.mk.injEq, eq_self, fa_lit, nI_add, pk_mul, nI_ltI, nI_leI, nI_eq, b01, b0, b1, x_hasBit, Nat.reduceLeDiff, Nat.reduceAdd, Nat.reduceMul, Nat.reduceSub, Nat.lt_irrefl, Nat.reduceLT, hC.k, a1, L]
theorem cp_ok {r0 r1 sp dp n N0 N1 : Nat} (h0 : hk h r0 = (13, N0)) (h1 : hk h r1 = (13, N1)) (hn0 : sp + n ≤ N0) (hn1 : dp + n ≤ N1) (hN0 : N0 < 2 ^ 30) (hN1 : N1 < 2 ^ 30) : ∃ g, cpF 13 (sI (sI (sR (sI (sR fr0 0 r0) 1 (nI sp)) 2 r1) 3 (nI dp)) 4 (nI n)) h = some g ∧ (∀ k, hi g r1 k = if dp ≤ k ∧ k < dp + n then hi h r0 (sp + (k - dp)) else hi h r1 k) ∧ Ch (fun o => o = r1) h g := by
  refine ⟨cpI h r0 sp r1 dp n, ?_, fun k => ?_, ⟨rfl, rfl, rfl, rfl⟩, fun o ho => ⟨fun k => ?_, fun k => rfl⟩⟩
  · unfold cpF
    simp only [f_II, f_LL, f_RR, f_IL, f_IR, f_LI, f_LR, f_RI, f_RL, and_true, true_and, and_false, false_and, or_true, true_or, or_false, false_or, not_true_eq_false, not_false_eq_true, if_true, if_false, ite_self, Bool.not_true, Bool.not_false, Bool.false_eq_true, Bool.true_eq_false, decide_true, decide_false, ne_eq, reduceIte, Nat.reduceEqDiff, Option.some.injEq, Prod.mk.injEq, eq_self, Nat.reduceEqDiff, h0, h1, nI_clamp (show sp < 2 ^ 31 by omega), nI_clamp (show dp < 2 ^ 31 by omega), nI_clamp (show n < 2 ^ 31 by omega), nI_pos' (show sp < 2 ^ 31 by omega), nI_pos' (show dp < 2 ^ 31 by omega), nI_pos' (show n < 2 ^ 31 by omega), hn0, hn1]
  · show (if r1 = r1 then va_cpy (hi h r0) (hi h r1) sp dp n else hi h r1) k = _
    rw [if_pos rfl]
    rfl
  · show (if o = r1 then va_cpy (hi h r0) (hi h r1) sp dp n else hi h o) k = _
    rw [if_neg ho]
end
