set_option maxRecDepth 100000
set_option maxHeartbeats 4000000
/-! the law's own going through: how it begins; all of it -/
theorem fld_hi {n i w : Nat} (h : n < 2 ^ i) : fld n i w = 0 := by
  unfold fld
  rw [Nat.div_eq_of_lt h, Nat.zero_mod]
section
variable {h g : St} {P C S : PT} {e d : Nat}
theorem x_run1 (H : LR h P C) (hW : WFP P) : ∃ (n : Nat) (g : St), LL_run_1 (sI (rF0 e 0 0) 15 (nI 0)) h = some (.inl 0, sI (rF0 e n 0) 15 (nI (P 0 6)), g) ∧ g = h ∧ n < 2 ^ (4 * P 0 6) ∧ ∀ m, m < P 0 6 → fld n (4 * m) 4 = P 4 m := by
  have hb := hW.all
  obtain ⟨⟨kt, t0, t1, t2, t3, t4, t5, t6, t7⟩, -, ⟨kz, zz⟩, -⟩ := H.v
  unfold LL_run_1
  refine loop_a (fun k (n : Nat) => sI (rF0 e n 0) 15 (nI k)) (fun k n g => g = h ∧ n < 2 ^ (4 * k) ∧ ∀ m, m < k → fld n (4 * m) 4 = P 4 m) (P 0 6) 0 rfl ⟨rfl, by decide, fun m hm => absurd hm (Nat.not_lt_zero m)⟩ (fun k n g hk1 hI => ?_) (fun n g hI => ?_)
  · obtain ⟨rfl, i1, i2⟩ := hI
    have hc := (hW.cr hk1).1
    obtain ⟨z1, z2⟩ := zz k hk1 (by omega)
    have hv : P 4 k < 2 ^ 4 := by omega
    have a1 : o_ishl (nI (P 4 k)) (nI (4 * k)) = nI (P 4 k * 2 ^ (4 * k)) := q_ishl (by omega) (Nat.lt_trans (mul_pow_lt hv (show 4 * k + 4 ≤ 20 by omega)) (by decide))
    refine ⟨n ||| P 4 k * 2 ^ (4 * k), g, ?_, rfl, ?_, fun m hm => ?_⟩
    · simp (maxSteps := 4000000) (disch := omega) only [ob_t, ob_n, ob_ite, e_cI, e_cL, e_cR, e_vI, e_vL, e_vR, e_d2, e_d2_a, e_d2_b, e_d2z, e_d2z_a, e_d2z_b, e_d1, e_d1_a, e_GI, e_GI_a, e_GL, e_GL_a, e_GR, e_GR_a, e_AI, e_AI_a, e_AI_b, e_AB, e_AB_a, e_AB_b, e_AZ, e_AZ_a, e_AZ_b, e_AL, e_AL_a, e_AL_b, e_AR, e_AR_a, e_AR_b, e_Len, e_Len_a, e_CI, e_CI_a, e_CI_b, e_CZ, e_CZ_a, e_And, e_kAnd, e_Or, e_kOr, e_Not, e_kNot, e_B, e_kB, e_T, e_kT, e_NN, e_kNN, e_NewA, e_NewA_a, e_NewC, e_kNewC, e_aN, e_aI, e_aI_a, e_aI_b, e_aL, e_aL_a, e_aL_b, e_aR, e_aR_a, e_aR_b, e_Call, e_kCall, e_CallV, e_kCallV, e_SetI, e_kSetI, e_SetL, e_kSetL, e_SetR, e_kSetR, e_Inc, e_Skip, e_Brk, e_Cnt, e_Ret, e_kRet, e_Ret0, e_Seq, e_kSeq0, e_kSeq1, e_kSeq2, e_kSeqR, e_If, e_kIf, e_Do, e_kDo, e_Sup, e_kN0, e_d3, e_k3a, e_k3b, e_k3c, e_P, e_kPa, e_kPb, e_UA, e_kUAa, e_kUAb, e_kUAc, e_UL, e_kULa, e_kULb, e_kULc, e_UF, e_kUFa, e_kUFb, e_Cp, e_kCp, e_Sw, e_kSwa, e_kSwb0, e_kSwb1, e_kSwbR, e_M1, e_kM1, e_MZ, e_kMZ, e_MN, e_kMN, e_Tv, e_kTv, e_Tc, e_kTc, e_lpS, e_kLp, e_kLpB0, e_kLpB1, e_kLpB2, e_kLpBR, e_kLpU, e_dwS, e_kDwB0, e_kDwC, f_II, f_LL, f_RR, f_IL, f_IR, f_LI, f_LR, f_RI, f_RL, o_iadd, o_isub, o_imul, o_iand, o_ior, o_ixor, o_ladd, o_lsub, o_lmul, o_land, o_lor, o_i2b, o_i2s, o_lneg, o_imax, o_imin, r_lt, r_le, r_gt, r_ge, r_eq, r_ne, q_lt, q_le, q_gt, q_ge, q_eq, q_ne, decide_eq_true_eq, idI, and_true, true_and, and_false, false_and, or_true, true_or, or_false, false_or, not_true_eq_false, not_false_eq_true, if_true, if_false, ite_self, Bool.not_true, Bool.not_false, Bool.false_eq_true, Bool.true_eq_false, decide_true, decide_false, ne_eq, reduceIte, Nat.reduceEqDiff, Option.some.injEq, Prod.mk.injEq, eq_self, n_inb, nI_clamp, w_hr, w_hk, w_hl, w_eq, w_ne, wl_hr, wl_hk, wl_hi, wl_eq, wl_ne, fa_lit, fa_litL, nI_add, pk_mul, nI_ltI, nI_leI, nI_eq, b01, b0, b1, Nat.reduceLeDiff, Nat.reduceAdd, Nat.reduceMul, Nat.reduceSub, Nat.lt_irrefl, Nat.reduceLT, f_ss, f_sR, f_sL, lc0, lc1, lc01, stI, stL, rF0, kt, t3, hk1, kz, z1, a1, fa_or]
    · exact or_lt (Nat.lt_of_lt_of_le i1 (Nat.pow_le_pow_right (by decide) (by omega))) (mul_pow_lt hv (by omega))
    · by_cases y : m = k
      · subst y
        rw [orF_in hv, fld_hi i1, Nat.zero_or]
      · rw [orF_out hv (by omega)]
        exact i2 m (by omega)
  · obtain ⟨rfl, i1, i2⟩ := hI
    refine lp_out ?_
    simp (maxSteps := 4000000) (disch := omega) only [ob_t, ob_n, ob_ite, e_cI, e_cL, e_cR, e_vI, e_vL, e_vR, e_d2, e_d2_a, e_d2_b, e_d2z, e_d2z_a, e_d2z_b, e_d1, e_d1_a, e_GI, e_GI_a, e_GL, e_GL_a, e_GR, e_GR_a, e_AI, e_AI_a, e_AI_b, e_AB, e_AB_a, e_AB_b, e_AZ, e_AZ_a, e_AZ_b, e_AL, e_AL_a, e_AL_b, e_AR, e_AR_a, e_AR_b, e_Len, e_Len_a, e_CI, e_CI_a, e_CI_b, e_CZ, e_CZ_a, e_And, e_kAnd, e_Or, e_kOr, e_Not, e_kNot, e_B, e_kB, e_T, e_kT, e_NN, e_kNN, e_NewA, e_NewA_a, e_NewC, e_kNewC, e_aN, e_aI, e_aI_a, e_aI_b, e_aL, e_aL_a, e_aL_b, e_aR, e_aR_a, e_aR_b, e_Call, e_kCall, e_CallV, e_kCallV, e_SetI, e_kSetI, e_SetL, e_kSetL, e_SetR, e_kSetR, e_Inc, e_Skip, e_Brk, e_Cnt, e_Ret, e_kRet, e_Ret0, e_Seq, e_kSeq0, e_kSeq1, e_kSeq2, e_kSeqR, e_If, e_kIf, e_Do, e_kDo, e_Sup, e_kN0, e_d3, e_k3a, e_k3b, e_k3c, e_P, e_kPa, e_kPb, e_UA, e_kUAa, e_kUAb, e_kUAc, e_UL, e_kULa, e_kULb, e_kULc, e_UF, e_kUFa, e_kUFb, e_Cp, e_kCp, e_Sw, e_kSwa, e_kSwb0, e_kSwb1, e_kSwbR, e_M1, e_kM1, e_MZ, e_kMZ, e_MN, e_kMN, e_Tv, e_kTv, e_Tc, e_kTc, e_lpS, e_kLp, e_kLpB0, e_kLpB1, e_kLpB2, e_kLpBR, e_kLpU, e_dwS, e_kDwB0, e_kDwC, f_II, f_LL, f_RR, f_IL, f_IR, f_LI, f_LR, f_RI, f_RL, o_iadd, o_isub, o_imul, o_iand, o_ior, o_ixor, o_ladd, o_lsub, o_lmul, o_land, o_lor, o_i2b, o_i2s, o_lneg, o_imax, o_imin, r_lt, r_le, r_gt, r_ge, r_eq, r_ne, q_lt, q_le, q_gt, q_ge, q_eq, q_ne, decide_eq_true_eq, idI, and_true, true_and, and_false, false_and, or_true, true_or, or_false, false_or, not_true_eq_false, not_false_eq_true, if_true, if_false, ite_self, Bool.not_true, Bool.not_false, Bool.false_eq_true, Bool.true_eq_false, decide_true, decide_false, ne_eq, reduceIte, Nat.reduceEqDiff, Option.some.injEq, Prod.mk.injEq, eq_self, n_inb, nI_clamp, w_hr, w_hk, w_hl, w_eq, w_ne, wl_hr, wl_hk, wl_hi, wl_eq, wl_ne, fa_lit, fa_litL, nI_add, pk_mul, nI_ltI, nI_leI, nI_eq, b01, b0, b1, Nat.reduceLeDiff, Nat.reduceAdd, Nat.reduceMul, Nat.reduceSub, Nat.lt_irrefl, Nat.reduceLT, f_ss, f_sR, f_sL, lc0, lc1, lc01, stI, stL, rF0, kt, t3]
def rDe (e : Nat) (o : Nat) : Prop := o = e ∨ o = e + 1
theorem x_run2 (H : LR h P C) (hW : WFP P) (hC : WFX P C) (he : 135 ≤ e) (k1 : hk h e = (13, 3)) (k2 : hk h (e + 1) = (16, 3)) {men : Nat} : ∃ (n : Nat) (g : St), LL_run_2 (sI (rF0 e men 0) 15 (nI 0)) h = some (.inl 0, sI (rF0 e men n) 15 (nI (P 0 7)), g) ∧ Ch (rDe e) h g ∧ n < 2 ^ (10 * P 0 7) ∧ (∀ s, s < P 0 7 → fld n (10 * s) 4 = fsS P C s ∧ fld n (10 * s + 4) 6 = lf0 P s) ∧ (∀ s, s < P 0 7 → hi g e s = nI (2 ^ fsS P C s)) ∧ ∀ s, s < P 0 7 → hl g (e + 1) s = lN (lf0 P s * 2 ^ (6 * fsS P C s)) := by
  have hb := hW.all
  unfold LL_run_2
  refine loop_a (fun k (n : Nat) => sI (rF0 e men n) 15 (nI k)) (fun k n g => Ch (rDe e) h g ∧ n < 2 ^ (10 * k) ∧ (∀ s, s < k → fld n (10 * s) 4 = fsS P C s ∧ fld n (10 * s + 4) 6 = lf0 P s) ∧ (∀ s, s < k → hi g e s = nI (2 ^ fsS P C s)) ∧ ∀ s, s < k → hl g (e + 1) s = lN (lf0 P s * 2 ^ (6 * fsS P C s))) (P 0 7) 0 rfl ⟨Ch.rf _ _, by decide, fun m hm => absurd hm (Nat.not_lt_zero m), fun m hm => absurd hm (Nat.not_lt_zero m), fun m hm => absurd hm (Nat.not_lt_zero m)⟩ (fun k n g hk1 hI => ?_) (fun n g hI => ?_)
  · obtain ⟨q, i1, i2, i3, i4⟩ := hI
    obtain ⟨⟨kt, t0, t1, t2, t3, t4, t5, t6, t7⟩, -, -, -, ⟨kf, ff⟩⟩ := (H.ch q (fun o h1 h2 h3 => by unfold rDe at h3; omega)).v
    obtain ⟨f1, f2⟩ := ff k hk1 (by omega)
    have x1 : hk g e = (13, 3) := by rw [q.1.2.1]; exact k1
    have x2 : hk g (e + 1) = (16, 3) := by rw [q.1.2.1]; exact k2
    have hf := fsS_lt hW hC hk1
    have hl := lf0_lt hW hk1
    have h64 := pw6 hW hk1
    obtain ⟨a, ea⟩ : ∃ a, a = fsS P C k := ⟨_, rfl⟩
    obtain ⟨l, el⟩ : ∃ l, l = lf0 P k := ⟨_, rfl⟩
    rw [← ea] at f1 hf
    rw [← el] at f2 hl
    have pa : 2 ^ a < 2 ^ 8 := pow_lt (by omega)
    have ev : a ||| l * 2 ^ 4 = a + l * 2 ^ 4 := n_or2 (show a < 2 ^ 4 by omega)
    have hv : a ||| l * 2 ^ 4 < 2 ^ 10 := by rw [ev]; omega
    have a6 : o_ishl (nI l) (nI 4) = nI (l * 2 ^ 4) := q_ishl (by decide) (by omega)
    have a7 : o_ishl (nI (a ||| l * 2 ^ 4)) (nI (10 * k)) = nI ((a ||| l * 2 ^ 4) * 2 ^ (10 * k)) := q_ishl (by omega) (Nat.lt_trans (mul_pow_lt hv (show 10 * k + 10 ≤ 30 by omega)) (by decide))
    have a10 : o_ishl (nI 1) (nI a) = nI (2 ^ a) := by rw [q_ishl (by omega) (by omega), Nat.one_mul]
    have a11 : o_lshl (o_i2l (nI l)) (nI (6 * a)) = lN (l * 2 ^ (6 * a)) := by rw [ol_i2l (by omega), q_lshl _ (by omega)]
    refine ⟨n ||| (a ||| l * 2 ^ 4) * 2 ^ (10 * k), wL (wI g e k (nI (2 ^ a))) (e + 1) k (lN (l * 2 ^ (6 * a))), ?_, (q.tr (Ch.w (D := rDe e) (Or.inl rfl) g k _)).tr (Ch.wl (D := rDe e) (Or.inr rfl) _ k _), ?_, fun m hm => ?_, fun m hm => ?_, fun m hm => ?_⟩
    · simp (maxSteps := 4000000) (disch := omega) only [ob_t, ob_n, ob_ite, e_cI, e_cL, e_cR, e_vI, e_vL, e_vR, e_d2, e_d2_a, e_d2_b, e_d2z, e_d2z_a, e_d2z_b, e_d1, e_d1_a, e_GI, e_GI_a, e_GL, e_GL_a, e_GR, e_GR_a, e_AI, e_AI_a, e_AI_b, e_AB, e_AB_a, e_AB_b, e_AZ, e_AZ_a, e_AZ_b, e_AL, e_AL_a, e_AL_b, e_AR, e_AR_a, e_AR_b, e_Len, e_Len_a, e_CI, e_CI_a, e_CI_b, e_CZ, e_CZ_a, e_And, e_kAnd, e_Or, e_kOr, e_Not, e_kNot, e_B, e_kB, e_T, e_kT, e_NN, e_kNN, e_NewA, e_NewA_a, e_NewC, e_kNewC, e_aN, e_aI, e_aI_a, e_aI_b, e_aL, e_aL_a, e_aL_b, e_aR, e_aR_a, e_aR_b, e_Call, e_kCall, e_CallV, e_kCallV, e_SetI, e_kSetI, e_SetL, e_kSetL, e_SetR, e_kSetR, e_Inc, e_Skip, e_Brk, e_Cnt, e_Ret, e_kRet, e_Ret0, e_Seq, e_kSeq0, e_kSeq1, e_kSeq2, e_kSeqR, e_If, e_kIf, e_Do, e_kDo, e_Sup, e_kN0, e_d3, e_k3a, e_k3b, e_k3c, e_P, e_kPa, e_kPb, e_UA, e_kUAa, e_kUAb, e_kUAc, e_UL, e_kULa, e_kULb, e_kULc, e_UF, e_kUFa, e_kUFb, e_Cp, e_kCp, e_Sw, e_kSwa, e_kSwb0, e_kSwb1, e_kSwbR, e_M1, e_kM1, e_MZ, e_kMZ, e_MN, e_kMN, e_Tv, e_kTv, e_Tc, e_kTc, e_lpS, e_kLp, e_kLpB0, e_kLpB1, e_kLpB2, e_kLpBR, e_kLpU, e_dwS, e_kDwB0, e_kDwC, f_II, f_LL, f_RR, f_IL, f_IR, f_LI, f_LR, f_RI, f_RL, o_iadd, o_isub, o_imul, o_iand, o_ior, o_ixor, o_ladd, o_lsub, o_lmul, o_land, o_lor, o_i2b, o_i2s, o_lneg, o_imax, o_imin, r_lt, r_le, r_gt, r_ge, r_eq, r_ne, q_lt, q_le, q_gt, q_ge, q_eq, q_ne, decide_eq_true_eq, idI, and_true, true_and, and_false, false_and, or_true, true_or, or_false, false_or, not_true_eq_false, not_false_eq_true, if_true, if_false, ite_self, Bool.not_true, Bool.not_false, Bool.false_eq_true, Bool.true_eq_false, decide_true, decide_false, ne_eq, reduceIte, Nat.reduceEqDiff, Option.some.injEq, Prod.mk.injEq, eq_self, n_inb, nI_clamp, w_hr, w_hk, w_hl, w_eq, w_ne, wl_hr, wl_hk, wl_hi, wl_eq, wl_ne, fa_lit, fa_litL, nI_add, pk_mul, nI_ltI, nI_leI, nI_eq, b01, b0, b1, Nat.reduceLeDiff, Nat.reduceAdd, Nat.reduceMul, Nat.reduceSub, Nat.lt_irrefl, Nat.reduceLT, f_ss, f_sR, f_sL, lc0, lc1, lc01, stI, stL, rF0, kt, t4, hk1, kf, f1, f2, a6, a7, a10, a11, fa_or, x1, x2]
    · exact or_lt (Nat.lt_of_lt_of_le i1 (Nat.pow_le_pow_right (by decide) (by omega))) (mul_pow_lt hv (by omega))
    · by_cases y : m = k
      · subst y
        rw [← ea, ← el]
        have b1 : ∀ u b, u + b ≤ 10 → fld (n ||| (a ||| l * 2 ^ 4) * 2 ^ (10 * m)) (10 * m + u) b = fld (a ||| l * 2 ^ 4) u b := fun u b hub => by
          refine Nat.eq_of_testBit_eq fun j => ?_
          rw [fld_bit, fld_bit]
          by_cases z : j < b
          · rw [orF_bit hv, if_pos (by omega), Nat.testBit_lt_two_pow (Nat.lt_of_lt_of_le i1 (Nat.pow_le_pow_right (by decide) (show 10 * m ≤ j + (10 * m + u) by omega))), Bool.false_or, show j + (10 * m + u) - 10 * m = j + u by omega]
          · rw [decide_eq_false z, Bool.false_and, Bool.false_and]
        have b2 := b1 0 4 (by decide)
        rw [Nat.add_zero] at b2
        rw [b2, b1 4 6 (by decide), ev]
        unfold fld
        omega
      · rw [orF_out hv (by omega), orF_out hv (by omega)]
        exact i2 m (by omega)
    · by_cases y : m = k
      · subst y
        rw [wl_hi, w_eq, ea]
      · rw [wl_hi, w_ne (by omega)]
        exact i3 m (by omega)
    · by_cases y : m = k
      · subst y
        rw [wl_eq, ea, el]
      · rw [wl_ne (by omega), w_hl]
        exact i4 m (by omega)
  · obtain ⟨q, i1, i2, i3, i4⟩ := hI
    obtain ⟨⟨kt, t0, t1, t2, t3, t4, t5, t6, t7⟩, -⟩ := (H.ch q (fun o h1 h2 h3 => by unfold rDe at h3; omega)).v
    refine lp_out ?_
    simp (maxSteps := 4000000) (disch := omega) only [ob_t, ob_n, ob_ite, e_cI, e_cL, e_cR, e_vI, e_vL, e_vR, e_d2, e_d2_a, e_d2_b, e_d2z, e_d2z_a, e_d2z_b, e_d1, e_d1_a, e_GI, e_GI_a, e_GL, e_GL_a, e_GR, e_GR_a, e_AI, e_AI_a, e_AI_b, e_AB, e_AB_a, e_AB_b, e_AZ, e_AZ_a, e_AZ_b, e_AL, e_AL_a, e_AL_b, e_AR, e_AR_a, e_AR_b, e_Len, e_Len_a, e_CI, e_CI_a, e_CI_b, e_CZ, e_CZ_a, e_And, e_kAnd, e_Or, e_kOr, e_Not, e_kNot, e_B, e_kB, e_T, e_kT, e_NN, e_kNN, e_NewA, e_NewA_a, e_NewC, e_kNewC, e_aN, e_aI, e_aI_a, e_aI_b, e_aL, e_aL_a, e_aL_b, e_aR, e_aR_a, e_aR_b, e_Call, e_kCall, e_CallV, e_kCallV, e_SetI, e_kSetI, e_SetL, e_kSetL, e_SetR, e_kSetR, e_Inc, e_Skip, e_Brk, e_Cnt, e_Ret, e_kRet, e_Ret0, e_Seq, e_kSeq0, e_kSeq1, e_kSeq2, e_kSeqR, e_If, e_kIf, e_Do, e_kDo, e_Sup, e_kN0, e_d3, e_k3a, e_k3b, e_k3c, e_P, e_kPa, e_kPb, e_UA, e_kUAa, e_kUAb, e_kUAc, e_UL, e_kULa, e_kULb, e_kULc, e_UF, e_kUFa, e_kUFb, e_Cp, e_kCp, e_Sw, e_kSwa, e_kSwb0, e_kSwb1, e_kSwbR, e_M1, e_kM1, e_MZ, e_kMZ, e_MN, e_kMN, e_Tv, e_kTv, e_Tc, e_kTc, e_lpS, e_kLp, e_kLpB0, e_kLpB1, e_kLpB2, e_kLpBR, e_kLpU, e_dwS, e_kDwB0, e_kDwC, f_II, f_LL, f_RR, f_IL, f_IR, f_LI, f_LR, f_RI, f_RL, o_iadd, o_isub, o_imul, o_iand, o_ior, o_ixor, o_ladd, o_lsub, o_lmul, o_land, o_lor, o_i2b, o_i2s, o_lneg, o_imax, o_imin, r_lt, r_le, r_gt, r_ge, r_eq, r_ne, q_lt, q_le, q_gt, q_ge, q_eq, q_ne, decide_eq_true_eq, idI, and_true, true_and, and_false, false_and, or_true, true_or, or_false, false_or, not_true_eq_false, not_false_eq_true, if_true, if_false, ite_self, Bool.not_true, Bool.not_false, Bool.false_eq_true, Bool.true_eq_false, decide_true, decide_false, ne_eq, reduceIte, Nat.reduceEqDiff, Option.some.injEq, Prod.mk.injEq, eq_self, n_inb, nI_clamp, w_hr, w_hk, w_hl, w_eq, w_ne, wl_hr, wl_hk, wl_hi, wl_eq, wl_ne, fa_lit, fa_litL, nI_add, pk_mul, nI_ltI, nI_leI, nI_eq, b01, b0, b1, Nat.reduceLeDiff, Nat.reduceAdd, Nat.reduceMul, Nat.reduceSub, Nat.lt_irrefl, Nat.reduceLT, f_ss, f_sR, f_sL, lc0, lc1, lc01, stI, stL, rF0, kt, t4]
def rDw (o : Nat) : Prop := o = 133 ∨ o = 134
theorem x_run3 (H : LR h P C) {men sl : Nat} : ∃ g, LL_run_3 (sI (rF0 e men sl) 15 (nI 0)) h = some (.inl 0, sI (rF0 e men sl) 15 (nI (P 9 1)), g) ∧ Ch rDw h g ∧ ∀ j, j < P 9 1 → hi g 133 j = nI 1 := by
  have h16 := H.2.2.2.2.2.2.2
  obtain ⟨k130, k131, k132, k133, k134⟩ := H.2.2.2.2.2.2.1
  unfold LL_run_3
  refine loop_g (fun k => sI (rF0 e men sl) 15 (nI k)) (fun k g => Ch rDw h g ∧ ∀ j, j < k → hi g 133 j = nI 1) (P 9 1) rfl ⟨Ch.rf _ _, fun m hm => absurd hm (Nat.not_lt_zero m)⟩ (fun k g hk1 hI => ?_) (fun g hI => ?_)
  · obtain ⟨q, i1⟩ := hI
    obtain ⟨⟨kt, t0, t1, t2, t3, t4, t5, t6, t7⟩, -⟩ := (H.ch q (fun o h1 h2 h3 => by unfold rDw at h3; omega)).v
    have x1 : hk g 133 = (13, 16) := by rw [q.1.2.1]; exact k133
    have x2 : hk g 134 = (13, 16) := by rw [q.1.2.1]; exact k134
    refine ⟨wI (wI g 133 k (nI 1)) 134 k (nI 0), ?_, (q.tr (Ch.w (D := rDw) (Or.inl rfl) g k _)).tr (Ch.w (D := rDw) (Or.inr rfl) _ k _), fun j hj => ?_⟩
    · simp (maxSteps := 4000000) (disch := omega) only [ob_t, ob_n, ob_ite, e_cI, e_cL, e_cR, e_vI, e_vL, e_vR, e_d2, e_d2_a, e_d2_b, e_d2z, e_d2z_a, e_d2z_b, e_d1, e_d1_a, e_GI, e_GI_a, e_GL, e_GL_a, e_GR, e_GR_a, e_AI, e_AI_a, e_AI_b, e_AB, e_AB_a, e_AB_b, e_AZ, e_AZ_a, e_AZ_b, e_AL, e_AL_a, e_AL_b, e_AR, e_AR_a, e_AR_b, e_Len, e_Len_a, e_CI, e_CI_a, e_CI_b, e_CZ, e_CZ_a, e_And, e_kAnd, e_Or, e_kOr, e_Not, e_kNot, e_B, e_kB, e_T, e_kT, e_NN, e_kNN, e_NewA, e_NewA_a, e_NewC, e_kNewC, e_aN, e_aI, e_aI_a, e_aI_b, e_aL, e_aL_a, e_aL_b, e_aR, e_aR_a, e_aR_b, e_Call, e_kCall, e_CallV, e_kCallV, e_SetI, e_kSetI, e_SetL, e_kSetL, e_SetR, e_kSetR, e_Inc, e_Skip, e_Brk, e_Cnt, e_Ret, e_kRet, e_Ret0, e_Seq, e_kSeq0, e_kSeq1, e_kSeq2, e_kSeqR, e_If, e_kIf, e_Do, e_kDo, e_Sup, e_kN0, e_d3, e_k3a, e_k3b, e_k3c, e_P, e_kPa, e_kPb, e_UA, e_kUAa, e_kUAb, e_kUAc, e_UL, e_kULa, e_kULb, e_kULc, e_UF, e_kUFa, e_kUFb, e_Cp, e_kCp, e_Sw, e_kSwa, e_kSwb0, e_kSwb1, e_kSwbR, e_M1, e_kM1, e_MZ, e_kMZ, e_MN, e_kMN, e_Tv, e_kTv, e_Tc, e_kTc, e_lpS, e_kLp, e_kLpB0, e_kLpB1, e_kLpB2, e_kLpBR, e_kLpU, e_dwS, e_kDwB0, e_kDwC, f_II, f_LL, f_RR, f_IL, f_IR, f_LI, f_LR, f_RI, f_RL, o_iadd, o_isub, o_imul, o_iand, o_ior, o_ixor, o_ladd, o_lsub, o_lmul, o_land, o_lor, o_i2b, o_i2s, o_lneg, o_imax, o_imin, r_lt, r_le, r_gt, r_ge, r_eq, r_ne, q_lt, q_le, q_gt, q_ge, q_eq, q_ne, decide_eq_true_eq, idI, and_true, true_and, and_false, false_and, or_true, true_or, or_false, false_or, not_true_eq_false, not_false_eq_true, if_true, if_false, ite_self, Bool.not_true, Bool.not_false, Bool.false_eq_true, Bool.true_eq_false, decide_true, decide_false, ne_eq, reduceIte, Nat.reduceEqDiff, Option.some.injEq, Prod.mk.injEq, eq_self, n_inb, nI_clamp, w_hr, w_hk, w_hl, w_eq, w_ne, wl_hr, wl_hk, wl_hi, wl_eq, wl_ne, fa_lit, fa_litL, nI_add, pk_mul, nI_ltI, nI_leI, nI_eq, b01, b0, b1, Nat.reduceLeDiff, Nat.reduceAdd, Nat.reduceMul, Nat.reduceSub, Nat.lt_irrefl, Nat.reduceLT, f_ss, f_sR, f_sL, lc0, lc1, lc01, stI, stL, rF0, kt, t5, hk1, x1, x2]
    · by_cases y : j = k
      · subst y
        rw [w_ne (by omega), w_eq]
      · rw [w_ne (by omega), w_ne (by omega)]
        exact i1 j (by omega)
  · obtain ⟨q, i1⟩ := hI
    obtain ⟨⟨kt, t0, t1, t2, t3, t4, t5, t6, t7⟩, -⟩ := (H.ch q (fun o h1 h2 h3 => by unfold rDw at h3; omega)).v
    refine lp_out ?_
    simp (maxSteps := 4000000) (disch := omega) only [ob_t, ob_n, ob_ite, e_cI, e_cL, e_cR, e_vI, e_vL, e_vR, e_d2, e_d2_a, e_d2_b, e_d2z, e_d2z_a, e_d2z_b, e_d1, e_d1_a, e_GI, e_GI_a, e_GL, e_GL_a, e_GR, e_GR_a, e_AI, e_AI_a, e_AI_b, e_AB, e_AB_a, e_AB_b, e_AZ, e_AZ_a, e_AZ_b, e_AL, e_AL_a, e_AL_b, e_AR, e_AR_a, e_AR_b, e_Len, e_Len_a, e_CI, e_CI_a, e_CI_b, e_CZ, e_CZ_a, e_And, e_kAnd, e_Or, e_kOr, e_Not, e_kNot, e_B, e_kB, e_T, e_kT, e_NN, e_kNN, e_NewA, e_NewA_a, e_NewC, e_kNewC, e_aN, e_aI, e_aI_a, e_aI_b, e_aL, e_aL_a, e_aL_b, e_aR, e_aR_a, e_aR_b, e_Call, e_kCall, e_CallV, e_kCallV, e_SetI, e_kSetI, e_SetL, e_kSetL, e_SetR, e_kSetR, e_Inc, e_Skip, e_Brk, e_Cnt, e_Ret, e_kRet, e_Ret0, e_Seq, e_kSeq0, e_kSeq1, e_kSeq2, e_kSeqR, e_If, e_kIf, e_Do, e_kDo, e_Sup, e_kN0, e_d3, e_k3a, e_k3b, e_k3c, e_P, e_kPa, e_kPb, e_UA, e_kUAa, e_kUAb, e_kUAc, e_UL, e_kULa, e_kULb, e_kULc, e_UF, e_kUFa, e_kUFb, e_Cp, e_kCp, e_Sw, e_kSwa, e_kSwb0, e_kSwb1, e_kSwbR, e_M1, e_kM1, e_MZ, e_kMZ, e_MN, e_kMN, e_Tv, e_kTv, e_Tc, e_kTc, e_lpS, e_kLp, e_kLpB0, e_kLpB1, e_kLpB2, e_kLpBR, e_kLpU, e_dwS, e_kDwB0, e_kDwC, f_II, f_LL, f_RR, f_IL, f_IR, f_LI, f_LR, f_RI, f_RL, o_iadd, o_isub, o_imul, o_iand, o_ior, o_ixor, o_ladd, o_lsub, o_lmul, o_land, o_lor, o_i2b, o_i2s, o_lneg, o_imax, o_imin, r_lt, r_le, r_gt, r_ge, r_eq, r_ne, q_lt, q_le, q_gt, q_ge, q_eq, q_ne, decide_eq_true_eq, idI, and_true, true_and, and_false, false_and, or_true, true_or, or_false, false_or, not_true_eq_false, not_false_eq_true, if_true, if_false, ite_self, Bool.not_true, Bool.not_false, Bool.false_eq_true, Bool.true_eq_false, decide_true, decide_false, ne_eq, reduceIte, Nat.reduceEqDiff, Option.some.injEq, Prod.mk.injEq, eq_self, n_inb, nI_clamp, w_hr, w_hk, w_hl, w_eq, w_ne, wl_hr, wl_hk, wl_hi, wl_eq, wl_ne, fa_lit, fa_litL, nI_add, pk_mul, nI_ltI, nI_leI, nI_eq, b01, b0, b1, Nat.reduceLeDiff, Nat.reduceAdd, Nat.reduceMul, Nat.reduceSub, Nat.lt_irrefl, Nat.reduceLT, f_ss, f_sR, f_sL, lc0, lc1, lc01, stI, stL, rF0, kt, t5]
/-- what stays in going through -/
def RK (h g : St) : Prop := (∀ o, o < 130 → hk g o = hk h o ∧ (∀ k, hi g o k = hi h o k) ∧ (∀ k, hl g o k = hl h o k) ∧ ∀ k, hr g o k = hr h o k) ∧ hn g = hn h + 2 ∧ hs g = hs h + 6
theorem AR.rk {r n : Nat} {f : Nat → Nat} (H : AR h r n f) (q : ∀ o, o < hn h → hk g o = hk h o ∧ (∀ k, hi g o k = hi h o k)) (hr1 : r < hn h) : AR g r n f := ⟨by rw [(q r hr1).1]; exact H.1, fun k hk1 => by rw [(q r hr1).2]; exact H.2 k hk1⟩
theorem LR.nw (H : LR h P C) (q : ∀ o, o < hn h → hk g o = hk h o ∧ (∀ k, hi g o k = hi h o k)) (hn1 : 135 ≤ hn h) : LR g P C := by
  obtain ⟨⟨tf, a1, a2⟩, ⟨vf, b1, b2⟩, ⟨zf, c1, c2⟩, ⟨wf, d1, d2⟩, ⟨qf, e1, e2⟩, ⟨ff, f1, f2⟩, k, n⟩ := H
  refine ⟨⟨tf, a1.rk q (by omega), a2⟩, ⟨vf, b1.rk q (by omega), b2⟩, ⟨zf, c1.rk q (by omega), c2⟩, ⟨wf, d1.rk q (by omega), d2⟩, ⟨qf, e1.rk q (by omega), e2⟩, ⟨ff, f1.rk q (by omega), f2⟩, ?_, n⟩
  unfold LRk
  rw [(q 130 (by omega)).1, (q 131 (by omega)).1, (q 132 (by omega)).1, (q 133 (by omega)).1, (q 134 (by omega)).1]
  exact k
theorem x_lrun (hW : WFP P) (hC : WFX P C) (hC1 : C 0 1 = 0) (H : LR h P C) (he : 135 ≤ hn h) : ∃ g, DL_run (sR (sR (sR (sR (sR (sR (sR (sR (sR (sR (sR fr0 0 124) 1 125) 2 126) 3 127) 4 128) 5 129) 6 130) 7 131) 8 132) 9 133) 10 134) h = some ((), g) ∧ LR g P C ∧ (∀ d, d ≤ P 0 1 → DPg g P C d) ∧ (∀ j, j < P 9 1 → hi g 133 j = nI (runN P C (P 0 1) 6 j)) ∧ RK h g := by
  have hb := hW.all
  obtain ⟨e, eh⟩ : ∃ e, hn h = e := ⟨_, rfl⟩
  rw [eh] at he
  obtain ⟨h2, hh2⟩ : ∃ x, x = wN (wN h (13, 3) 3) (16, 3) 3 := ⟨_, rfl⟩
  have e1 : hn (wN h (13, 3) 3) = e + 1 := by rw [wN_hn, eh]
  have old : ∀ o, o < hn h → hk h2 o = hk h o ∧ (∀ k, hi h2 o k = hi h o k) := fun o ho => by
    rw [hh2, wN_hk (by omega), wN_hi (by omega), wN_hk (by omega), wN_hi (by omega)]
    exact ⟨rfl, fun _ => rfl⟩
  have H2 : LR h2 P C := H.nw old (by omega)
  have k1 : hk h2 e = (13, 3) := by rw [hh2, wN_hk (by omega), ← eh]; exact wN_hk'
  have k2 : hk h2 (e + 1) = (16, 3) := by rw [hh2, ← e1]; exact wN_hk'
  obtain ⟨men, g1, L1, rfl, m1, m2⟩ := x_run1 (e := e) H2 hW
  obtain ⟨sl, g2, L2, c2, s1, s2, s3, s4⟩ := x_run2 H2 hW hC he k1 k2 (men := men)
  have H3 := H2.ch c2 (fun o h1 h2 h3 => by unfold rDe at h3; omega)
  obtain ⟨g3, L3, c3, w1⟩ := x_run3 (e := e) H3 (men := men) (sl := sl)
  have H4 := H3.ch c3 (fun o h1 h2 h3 => by unfold rDw at h3; omega)
  have J : RJ g3 P C (z0S (runN P C 0)) e (men, sl, 0) := by
    have eb : ∀ j k, j ≠ 0 → z0S (runN P C 0) j k = begS P C j k := fun j k q => z0_o _ (Or.inl q)
    refine ⟨H4, by rw [c3.1.2.1, c2.1.2.1]; exact k1, by rw [c3.1.2.1, c2.1.2.1]; exact k2, ⟨Nat.lt_of_lt_of_le m1 (Nat.pow_le_pow_right (by decide) (by omega)), fun m hm => ?_⟩, ⟨Nat.lt_of_lt_of_le s1 (Nat.pow_le_pow_right (by decide) (by omega)), fun s hs => ?_⟩, PKg.z0, fun s hs => ?_, fun s hs => ?_, fun j hj => ?_, WFB_run hW hC 0, fun k hk1 => ?_⟩
    · rw [eb _ _ (by decide), m2 m hm]
      simp [begS, hm]
    · rw [eb _ _ (by decide), eb _ _ (by decide), (s2 s hs).1, (s2 s hs).2]
      simp [begS, hs]
    · rw [eb _ _ (by decide), (c3.2 e (by unfold rDw; omega)).1, s3 s hs]
      simp [begS, hs]
    · have hf := fsS_lt hW hC hs
      have hl := lf0_lt hW hs
      have h64 := pw6 hW hs
      have hl6 : lf0 P s < 2 ^ 6 := by omega
      refine ⟨_, by rw [(c3.2 (e + 1) (by unfold rDw; omega)).2, s4 s hs], mul_pow_lt hl6 (by omega), fun x hx => ?_⟩
      rw [eb _ _ (by decide)]
      have o1 := orF_in (n := 0) (i := 6 * fsS P C s) hl6
      rw [Nat.zero_or, fld_0, Nat.zero_or] at o1
      have e8 : (8 * s + x) / 8 = s := by omega
      have e9 : (8 * s + x) % 8 = x := by omega
      by_cases y : x = fsS P C s
      · rw [y, o1]
        simp [begS, ← y, e8, e9, hs]
      · have o2 := orF_out (n := 0) (i := 6 * fsS P C s) (j := 6 * x) (b := 6) hl6 (by omega)
        rw [Nat.zero_or, fld_0] at o2
        rw [o2]
        simp [begS, e8, e9, y]
    · rw [eb _ _ (by decide), w1 j hj]
      simp [begS]
    · rw [z0_o _ (Or.inr hk1)]
      exact begS_0 P C k
  obtain ⟨a, g, L6, J6, pg, c6⟩ := x_run6 hW hC1 he J
  rw [Nat.min_eq_right (by omega)] at J6
  refine ⟨g, ?_, J6.1, fun d hd => pg d (by omega), fun j hj => ?_, fun o ho => ?_, ?_, ?_⟩
  · unfold rF0 at L1 L2 L3 L6
    rw [hh2] at L1 L2
    simp (maxSteps := 4000000) (disch := omega) only [ob_t, ob_n, ob_ite, e_cI, e_cL, e_cR, e_vI, e_vL, e_vR, e_d2, e_d2_a, e_d2_b, e_d2z, e_d2z_a, e_d2z_b, e_d1, e_d1_a, e_GI, e_GI_a, e_GL, e_GL_a, e_GR, e_GR_a, e_AI, e_AI_a, e_AI_b, e_AB, e_AB_a, e_AB_b, e_AZ, e_AZ_a, e_AZ_b, e_AL, e_AL_a, e_AL_b, e_AR, e_AR_a, e_AR_b, e_Len, e_Len_a, e_CI, e_CI_a, e_CI_b, e_CZ, e_CZ_a, e_And, e_kAnd, e_Or, e_kOr, e_Not, e_kNot, e_B, e_kB, e_T, e_kT, e_NN, e_kNN, e_NewA, e_NewA_a, e_NewC, e_kNewC, e_aN, e_aI, e_aI_a, e_aI_b, e_aL, e_aL_a, e_aL_b, e_aR, e_aR_a, e_aR_b, e_Call, e_kCall, e_CallV, e_kCallV, e_SetI, e_kSetI, e_SetL, e_kSetL, e_SetR, e_kSetR, e_Inc, e_Skip, e_Brk, e_Cnt, e_Ret, e_kRet, e_Ret0, e_Seq, e_kSeq0, e_kSeq1, e_kSeq2, e_kSeqR, e_If, e_kIf, e_Do, e_kDo, e_Sup, e_kN0, e_d3, e_k3a, e_k3b, e_k3c, e_P, e_kPa, e_kPb, e_UA, e_kUAa, e_kUAb, e_kUAc, e_UL, e_kULa, e_kULb, e_kULc, e_UF, e_kUFa, e_kUFb, e_Cp, e_kCp, e_Sw, e_kSwa, e_kSwb0, e_kSwb1, e_kSwbR, e_M1, e_kM1, e_MZ, e_kMZ, e_MN, e_kMN, e_Tv, e_kTv, e_Tc, e_kTc, e_lpS, e_kLp, e_kLpB0, e_kLpB1, e_kLpB2, e_kLpBR, e_kLpU, e_dwS, e_kDwB0, e_kDwC, f_II, f_LL, f_RR, f_IL, f_IR, f_LI, f_LR, f_RI, f_RL, o_iadd, o_isub, o_imul, o_iand, o_ior, o_ixor, o_ladd, o_lsub, o_lmul, o_land, o_lor, o_i2b, o_i2s, o_lneg, o_imax, o_imin, r_lt, r_le, r_gt, r_ge, r_eq, r_ne, q_lt, q_le, q_gt, q_ge, q_eq, q_ne, decide_eq_true_eq, idI, and_true, true_and, and_false, false_and, or_true, true_or, or_false, false_or, not_true_eq_false, not_false_eq_true, if_true, if_false, ite_self, Bool.not_true, Bool.not_false, Bool.false_eq_true, Bool.true_eq_false, decide_true, decide_false, ne_eq, reduceIte, Nat.reduceEqDiff, Option.some.injEq, Prod.mk.injEq, eq_self, n_inb, nI_clamp, w_hr, w_hk, w_hl, w_eq, w_ne, wl_hr, wl_hk, wl_hi, wl_eq, wl_ne, fa_lit, fa_litL, nI_add, pk_mul, nI_ltI, nI_leI, nI_eq, b01, b0, b1, Nat.reduceLeDiff, Nat.reduceAdd, Nat.reduceMul, Nat.reduceSub, Nat.lt_irrefl, Nat.reduceLT, f_ss, f_sR, f_sL, lc0, lc1, lc01, stI, stL, DL_run, BL_run, eh, e1, L1, L2, L3, L6]
  · have := J6.2.2.2.2.2.2.2.2.1 j hj
    rw [z0_o _ (Or.inl (by decide))] at this
    exact this
  · have d2 := c2.2 o (by unfold rDe; omega)
    have d3 := c3.2 o (by unfold rDw; omega)
    have d6 := c6.2 o (by unfold rD6; omega)
    refine ⟨?_, fun k => ?_, fun k => ?_, fun k => ?_⟩
    · rw [c6.1.2.1, c3.1.2.1, c2.1.2.1]
      exact (old o (by omega)).1
    · rw [d6.1, d3.1, d2.1]
      exact (old o (by omega)).2 k
    · rw [d6.2, d3.2, d2.2, hh2, wN_hl (by omega), wN_hl (by omega)]
    · rw [c6.1.1, c3.1.1, c2.1.1, hh2, wN_hr (by omega), wN_hr (by omega)]
  · rw [c6.1.2.2.1, c3.1.2.2.1, c2.1.2.2.1, hh2, wN_hn, e1, eh]
  · rw [c6.1.2.2.2, c3.1.2.2.2, c2.1.2.2.2, hh2, wN_hs, wN_hs]
end
