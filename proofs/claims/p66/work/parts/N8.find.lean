set_option maxRecDepth 100000
set_option maxHeartbeats 4000000
/-! the law: by whom a slate is brought -/
theorem n_ge {s : Nat} (h : s < 2 ^ 31) : (nI 0 ≤ nI s + -nI 1) = (s ≠ 0) := by
  by_cases z : s = 0
  · subst z
    rw [show nI 0 + -nI 1 = -nI 1 by decide]
    exact propext ⟨fun q => absurd q (by decide), fun q => absurd rfl q⟩
  · rw [n_pred (by omega), nI_leI (by decide) (by omega)]
    exact propext ⟨fun _ => z, fun _ => Nat.zero_le _⟩
theorem n_lt0 {s : Nat} (h : s < 2 ^ 31) : (nI s + -nI 1 < nI 0) = (s = 0) := by
  by_cases z : s = 0
  · subst z
    rw [show nI 0 + -nI 1 = -nI 1 by decide]
    exact propext ⟨fun _ => rfl, fun _ => by decide⟩
  · rw [n_pred (by omega), nI_ltI (by omega) (by decide)]
    exact propext ⟨fun q => by omega, fun q => absurd q z⟩
section
variable {L : Nat} {xs : Nat → Int32} {h g : St} {P C C' : PT} {a b : Nat}
section
variable {D S A l x : Nat} {F19 F20 F21 F22 F23 : Int32}
theorem x_l9 (H : LW L xs h P (told P) a b) (hl : l < P 0 7) (hx : x < P 0 4) : ∃ g, Llaw_9 (sI (sI (sI (sI (sI (sI (sI (sI (sI (sI (sI (sR (sR (sR (sR (sR (sI (sI (sR (sR (sR (sR (sR (sR (sR (sR (sR (sR fr0 0 1) 1 31) 2 122) 3 123) 4 124) 5 125) 6 126) 7 127) 8 128) 9 129) 10 (nI D)) 11 (nI S)) 12 130) 13 131) 14 132) 15 133) 16 134) 17 (nI A)) 18 (nI l)) 19 F19) 20 F20) 21 F21) 22 F22) 23 F23) 24 (nI x)) 25 (nI (neE P l x) + -nI 1)) 26 (nI 0)) 27 (nI 0)) h = some (.inl 0, sI (sI (sI (sI (sI (sI (sI (sI (sI (sI (sI (sR (sR (sR (sR (sR (sI (sI (sR (sR (sR (sR (sR (sR (sR (sR (sR (sR fr0 0 1) 1 31) 2 122) 3 123) 4 124) 5 125) 6 126) 7 127) 8 128) 9 129) 10 (nI D)) 11 (nI S)) 12 130) 13 131) 14 132) 15 133) 16 134) 17 (nI A)) 18 (nI l)) 19 F19) 20 F20) 21 F21) 22 F22) 23 F23) 24 (nI x)) 25 (nI (neE P l x) + -nI 1)) 26 (nI (sumN P (P 0 6)))) 27 (nI (P 0 6)), g) ∧ LW L xs g P (told P) a b := by
  have hW := H.1.w
  have hb := hW.all
  have sl := hW.sl hl
  obtain ⟨nv, env⟩ : ∃ nv : Int32, nv = nI (neE P l x) + -nI 1 := ⟨_, rfl⟩
  rw [← env]
  unfold Llaw_9
  refine loop_g (fun k => sI (sI (sI (sI (sI (sI (sI (sI (sI (sI (sI (sR (sR (sR (sR (sR (sI (sI (sR (sR (sR (sR (sR (sR (sR (sR (sR (sR fr0 0 1) 1 31) 2 122) 3 123) 4 124) 5 125) 6 126) 7 127) 8 128) 9 129) 10 (nI D)) 11 (nI S)) 12 130) 13 131) 14 132) 15 133) 16 134) 17 (nI A)) 18 (nI l)) 19 F19) 20 F20) 21 F21) 22 F22) 23 F23) 24 (nI x)) 25 nv) 26 (nI (sumN P k))) 27 (nI k)) (fun k g => LW L xs g P (told P) a b) (P 0 6) rfl H (fun k g hk1 hI => ?_) (fun g hI => ?_)
  · obtain ⟨⟨tf, t1, t2⟩, -, ⟨zf, z1, z2⟩, -⟩ := hI.2.2.1
    have kt := t1.1
    have kz := z1.1
    have v3 : hi g 124 3 = nI (P 0 6) := by rw [t1.2 3 (by decide), t2.2.2.2.1]
    have zk : hi g 126 (2 * k + 1) = nI (P 5 k) := by rw [z1.2 _ (by omega), (z2 k hk1).2]
    have p5 := (hW.cr hk1).2
    have es : sumN P k + P 5 k = sumN P (k + 1) := rfl
    have kX : hk g 31 = (11, 0) := hI.1.co.koX
    obtain ⟨so, eso⟩ : ∃ so, so = soE P l (P 5 k) x := ⟨_, rfl⟩
    obtain ⟨bv, ebv⟩ : ∃ bv : Int32, bv = nI so + -nI 1 := ⟨_, rfl⟩
    have so_l : so < 2 ^ 31 := by
      have := so_lt hW hl (P 5 k) x
      omega
    have ns := ne_so (t := P 5 k) hW hl x
    rw [← eso] at ns
    have ne_l : neE P l x ≤ 202 := by
      unfold neE
      have := fa_first_le (fun t => decide (soE P l t x ≠ 0)) 201
      split <;> omega
    have br : ∀ {g0 : St}, LW L xs g0 P (told P) a b → ∃ g1, DX11_brings (sI (sI (sI (sR fr0 0 31) 1 (nI k)) 2 (nI l)) 3 (nI x)) g0 = some (bv, g1) ∧ LW L xs g1 P (told P) a b := fun H0 => by
      obtain ⟨g1, q, I⟩ := c_brings H0.1 hk1 hl hx
      rw [ebv, eso]
      exact ⟨g1, q, H0.call I⟩
    obtain ⟨g1, b1, H1⟩ := br hI
    obtain ⟨g2, b2, H2⟩ := br H1
    have kX1 : hk g1 31 = (11, 0) := H1.1.co.koX
    have kX2 : hk g2 31 = (11, 0) := H2.1.co.koX
    have kz1 : hk g1 126 = (13, 10) := by obtain ⟨-, -, ⟨zf, z1, z2⟩, -⟩ := H1.2.2.1; exact z1.1
    have zk1 : hi g1 126 (2 * k + 1) = nI (P 5 k) := by
      obtain ⟨-, -, ⟨zf, z1, z2⟩, -⟩ := H1.2.2.1
      rw [z1.2 _ (by omega), (z2 k hk1).2]
    have nge : (nI 0 ≤ nv) = (neE P l x ≠ 0) := by rw [env]; exact n_ge (by omega)
    have bge : (nI 0 ≤ bv) = (so ≠ 0) := by rw [ebv]; exact n_ge so_l
    by_cases z : so = 0
    · have bF : (nI 0 ≤ bv) = False := by rw [bge]; exact eq_false (fun q => q z)
      refine ⟨g2, ?_, H2⟩
      by_cases w : neE P l x = 0
      · have nF : (nI 0 ≤ nv) = False := by rw [nge]; exact eq_false (fun q => q w)
        simp (maxSteps := 4000000) (disch := omega) only [ob_t, ob_n, ob_ite, e_cI, e_cL, e_cR, e_vI, e_vL, e_vR, e_d2, e_d2_a, e_d2_b, e_d2z, e_d2z_a, e_d2z_b, e_d1, e_d1_a, e_GI, e_GI_a, e_GL, e_GL_a, e_GR, e_GR_a, e_AI, e_AI_a, e_AI_b, e_AB, e_AB_a, e_AB_b, e_AZ, e_AZ_a, e_AZ_b, e_AL, e_AL_a, e_AL_b, e_AR, e_AR_a, e_AR_b, e_Len, e_Len_a, e_CI, e_CI_a, e_CI_b, e_CZ, e_CZ_a, e_And, e_kAnd, e_Or, e_kOr, e_Not, e_kNot, e_B, e_kB, e_T, e_kT, e_NN, e_kNN, e_NewA, e_NewA_a, e_NewC, e_kNewC, e_aN, e_aI, e_aI_a, e_aI_b, e_aL, e_aL_a, e_aL_b, e_aR, e_aR_a, e_aR_b, e_Call, e_kCall, e_CallV, e_kCallV, e_SetI, e_kSetI, e_SetL, e_kSetL, e_SetR, e_kSetR, e_Inc, e_Skip, e_Brk, e_Cnt, e_Ret, e_kRet, e_Ret0, e_Seq, e_kSeq0, e_kSeq1, e_kSeq2, e_kSeqR, e_If, e_kIf, e_Do, e_kDo, e_Sup, e_kN0, e_d3, e_k3a, e_k3b, e_k3c, e_P, e_kPa, e_kPb, e_UA, e_kUAa, e_kUAb, e_kUAc, e_UL, e_kULa, e_kULb, e_kULc, e_UF, e_kUFa, e_kUFb, e_Cp, e_kCp, e_Sw, e_kSwa, e_kSwb0, e_kSwb1, e_kSwbR, e_M1, e_kM1, e_MZ, e_kMZ, e_MN, e_kMN, e_Tv, e_kTv, e_Tc, e_kTc, e_lpS, e_kLp, e_kLpB0, e_kLpB1, e_kLpB2, e_kLpBR, e_kLpU, e_dwS, e_kDwB0, e_kDwC, f_II, f_LL, f_RR, f_IL, f_IR, f_LI, f_LR, f_RI, f_RL, o_iadd, o_isub, o_imul, o_iand, o_ior, o_ixor, o_ladd, o_lsub, o_lmul, o_land, o_lor, o_i2b, o_i2s, o_lneg, o_imax, o_imin, r_lt, r_le, r_gt, r_ge, r_eq, r_ne, q_lt, q_le, q_gt, q_ge, q_eq, q_ne, decide_eq_true_eq, idI, and_true, true_and, and_false, false_and, or_true, true_or, or_false, false_or, not_true_eq_false, not_false_eq_true, if_true, if_false, ite_self, Bool.not_true, Bool.not_false, Bool.false_eq_true, Bool.true_eq_false, decide_true, decide_false, ne_eq, reduceIte, Nat.reduceEqDiff, Option.some.injEq, Prod.mk.injEq, eq_self, n_inb, nI_clamp, w_hr, w_hk, w_hl, w_eq, w_ne, wl_hr, wl_hk, wl_hi, wl_eq, wl_ne, fa_lit, fa_litL, nI_add, pk_mul, nI_ltI, nI_leI, nI_eq, b01, b0, b1, Nat.reduceLeDiff, Nat.reduceAdd, Nat.reduceMul, Nat.reduceSub, Nat.lt_irrefl, Nat.reduceLT, f_ss, f_sR, f_sL, lc0, lc1, lc01, stI, stL, kt, v3, hk1, kz, zk, es, kX, b1, bF, nF, kz1, zk1, kX1, b2]
      · have nT : (nI 0 ≤ nv) = True := by rw [nge]; exact eq_true w
        have zF : (nv ≤ nI (P 5 k)) = False := by
          rw [env, n_pred (by omega), nI_leI (by omega) (by omega)]
          refine eq_false (fun q => ?_)
          exact (ns.mpr ⟨w, by omega⟩) z
        simp (maxSteps := 4000000) (disch := omega) only [ob_t, ob_n, ob_ite, e_cI, e_cL, e_cR, e_vI, e_vL, e_vR, e_d2, e_d2_a, e_d2_b, e_d2z, e_d2z_a, e_d2z_b, e_d1, e_d1_a, e_GI, e_GI_a, e_GL, e_GL_a, e_GR, e_GR_a, e_AI, e_AI_a, e_AI_b, e_AB, e_AB_a, e_AB_b, e_AZ, e_AZ_a, e_AZ_b, e_AL, e_AL_a, e_AL_b, e_AR, e_AR_a, e_AR_b, e_Len, e_Len_a, e_CI, e_CI_a, e_CI_b, e_CZ, e_CZ_a, e_And, e_kAnd, e_Or, e_kOr, e_Not, e_kNot, e_B, e_kB, e_T, e_kT, e_NN, e_kNN, e_NewA, e_NewA_a, e_NewC, e_kNewC, e_aN, e_aI, e_aI_a, e_aI_b, e_aL, e_aL_a, e_aL_b, e_aR, e_aR_a, e_aR_b, e_Call, e_kCall, e_CallV, e_kCallV, e_SetI, e_kSetI, e_SetL, e_kSetL, e_SetR, e_kSetR, e_Inc, e_Skip, e_Brk, e_Cnt, e_Ret, e_kRet, e_Ret0, e_Seq, e_kSeq0, e_kSeq1, e_kSeq2, e_kSeqR, e_If, e_kIf, e_Do, e_kDo, e_Sup, e_kN0, e_d3, e_k3a, e_k3b, e_k3c, e_P, e_kPa, e_kPb, e_UA, e_kUAa, e_kUAb, e_kUAc, e_UL, e_kULa, e_kULb, e_kULc, e_UF, e_kUFa, e_kUFb, e_Cp, e_kCp, e_Sw, e_kSwa, e_kSwb0, e_kSwb1, e_kSwbR, e_M1, e_kM1, e_MZ, e_kMZ, e_MN, e_kMN, e_Tv, e_kTv, e_Tc, e_kTc, e_lpS, e_kLp, e_kLpB0, e_kLpB1, e_kLpB2, e_kLpBR, e_kLpU, e_dwS, e_kDwB0, e_kDwC, f_II, f_LL, f_RR, f_IL, f_IR, f_LI, f_LR, f_RI, f_RL, o_iadd, o_isub, o_imul, o_iand, o_ior, o_ixor, o_ladd, o_lsub, o_lmul, o_land, o_lor, o_i2b, o_i2s, o_lneg, o_imax, o_imin, r_lt, r_le, r_gt, r_ge, r_eq, r_ne, q_lt, q_le, q_gt, q_ge, q_eq, q_ne, decide_eq_true_eq, idI, and_true, true_and, and_false, false_and, or_true, true_or, or_false, false_or, not_true_eq_false, not_false_eq_true, if_true, if_false, ite_self, Bool.not_true, Bool.not_false, Bool.false_eq_true, Bool.true_eq_false, decide_true, decide_false, ne_eq, reduceIte, Nat.reduceEqDiff, Option.some.injEq, Prod.mk.injEq, eq_self, n_inb, nI_clamp, w_hr, w_hk, w_hl, w_eq, w_ne, wl_hr, wl_hk, wl_hi, wl_eq, wl_ne, fa_lit, fa_litL, nI_add, pk_mul, nI_ltI, nI_leI, nI_eq, b01, b0, b1, Nat.reduceLeDiff, Nat.reduceAdd, Nat.reduceMul, Nat.reduceSub, Nat.lt_irrefl, Nat.reduceLT, f_ss, f_sR, f_sL, lc0, lc1, lc01, stI, stL, kt, v3, hk1, kz, zk, es, kX, b1, bF, nT, zF, kz1, zk1, kX1, b2]
    · have bT : (nI 0 ≤ bv) = True := by rw [bge]; exact eq_true z
      obtain ⟨n1, n2⟩ := ns.mp z
      have nT : (nI 0 ≤ nv) = True := by rw [nge]; exact eq_true n1
      have zT : (nv ≤ nI (P 5 k)) = True := by
        rw [env, n_pred (by omega), nI_leI (by omega) (by omega)]
        exact eq_true (by omega)
      obtain ⟨g3, b3, I3⟩ := c_saves H2.1 hk1 hl hx
      have H3 := H2.call I3
      obtain ⟨mw, emw⟩ : ∃ mw, mw = mwE P l (P 5 k) x := ⟨_, rfl⟩
      have b3' : DX11_saves (sI (sI (sI (sR fr0 0 31) 1 (nI k)) 2 (nI l)) 3 (nI x)) g2 = some (nI mw + -nI 1, g3) := by rw [emw]; exact b3
      have mw0 : mw ≠ 0 := by
        rw [emw]
        exact mw_pos hW hl (by rw [← eso]; exact z)
      obtain ⟨sv, esv⟩ : ∃ sv : Int32, sv = nI mw + -nI 1 := ⟨_, rfl⟩
      rw [← esv] at b3'
      have mw_l : mw < 2 ^ 31 := by
        rw [emw]
        exact Nat.lt_of_le_of_lt (mw_le P l (P 5 k) x) (by decide)
      have sF : (sv < nI 0) = False := by rw [esv, n_lt0 mw_l]; exact eq_false mw0
      obtain ⟨g4, b4, H4⟩ := br H3
      obtain ⟨r, b5, Dr, r8⟩ := c_far H4.1 sl.1 hx
      have b5' : DX11_far (sI (sI (sR fr0 0 31) 1 (nI (P 6 l))) 2 (nI x)) g4 = some (nI r + -nI 1, g4) := b5
      obtain ⟨fv, efv⟩ : ∃ fv : Int32, fv = nI r + -nI 1 := ⟨_, rfl⟩
      rw [← efv] at b5'
      obtain ⟨r1, r2⟩ := so_far (t := P 5 k) hW hl (by rw [← eso]; exact z) Dr
      rw [← eso] at r2
      have fF : (bv < fv) = False := by
        rw [ebv, efv, n_pred (by omega), n_pred r1, nI_ltI (by omega) (by omega)]
        exact eq_false (by omega)
      have kX3 : hk g3 31 = (11, 0) := H3.1.co.koX
      have kX4 : hk g4 31 = (11, 0) := H4.1.co.koX
      obtain ⟨-, -, -, -, -, ⟨ff, f1, f2⟩, -⟩ := H4.2.2.1
      have kf := f1.1
      have fl : hi g4 129 l = nI (P 6 l) := by rw [f1.2 _ (by omega), (f2 l hl).1, fsS_told]
      refine ⟨g4, ?_, H4⟩
      simp (maxSteps := 4000000) (disch := omega) only [ob_t, ob_n, ob_ite, e_cI, e_cL, e_cR, e_vI, e_vL, e_vR, e_d2, e_d2_a, e_d2_b, e_d2z, e_d2z_a, e_d2z_b, e_d1, e_d1_a, e_GI, e_GI_a, e_GL, e_GL_a, e_GR, e_GR_a, e_AI, e_AI_a, e_AI_b, e_AB, e_AB_a, e_AB_b, e_AZ, e_AZ_a, e_AZ_b, e_AL, e_AL_a, e_AL_b, e_AR, e_AR_a, e_AR_b, e_Len, e_Len_a, e_CI, e_CI_a, e_CI_b, e_CZ, e_CZ_a, e_And, e_kAnd, e_Or, e_kOr, e_Not, e_kNot, e_B, e_kB, e_T, e_kT, e_NN, e_kNN, e_NewA, e_NewA_a, e_NewC, e_kNewC, e_aN, e_aI, e_aI_a, e_aI_b, e_aL, e_aL_a, e_aL_b, e_aR, e_aR_a, e_aR_b, e_Call, e_kCall, e_CallV, e_kCallV, e_SetI, e_kSetI, e_SetL, e_kSetL, e_SetR, e_kSetR, e_Inc, e_Skip, e_Brk, e_Cnt, e_Ret, e_kRet, e_Ret0, e_Seq, e_kSeq0, e_kSeq1, e_kSeq2, e_kSeqR, e_If, e_kIf, e_Do, e_kDo, e_Sup, e_kN0, e_d3, e_k3a, e_k3b, e_k3c, e_P, e_kPa, e_kPb, e_UA, e_kUAa, e_kUAb, e_kUAc, e_UL, e_kULa, e_kULb, e_kULc, e_UF, e_kUFa, e_kUFb, e_Cp, e_kCp, e_Sw, e_kSwa, e_kSwb0, e_kSwb1, e_kSwbR, e_M1, e_kM1, e_MZ, e_kMZ, e_MN, e_kMN, e_Tv, e_kTv, e_Tc, e_kTc, e_lpS, e_kLp, e_kLpB0, e_kLpB1, e_kLpB2, e_kLpBR, e_kLpU, e_dwS, e_kDwB0, e_kDwC, f_II, f_LL, f_RR, f_IL, f_IR, f_LI, f_LR, f_RI, f_RL, o_iadd, o_isub, o_imul, o_iand, o_ior, o_ixor, o_ladd, o_lsub, o_lmul, o_land, o_lor, o_i2b, o_i2s, o_lneg, o_imax, o_imin, r_lt, r_le, r_gt, r_ge, r_eq, r_ne, q_lt, q_le, q_gt, q_ge, q_eq, q_ne, decide_eq_true_eq, idI, and_true, true_and, and_false, false_and, or_true, true_or, or_false, false_or, not_true_eq_false, not_false_eq_true, if_true, if_false, ite_self, Bool.not_true, Bool.not_false, Bool.false_eq_true, Bool.true_eq_false, decide_true, decide_false, ne_eq, reduceIte, Nat.reduceEqDiff, Option.some.injEq, Prod.mk.injEq, eq_self, n_inb, nI_clamp, w_hr, w_hk, w_hl, w_eq, w_ne, wl_hr, wl_hk, wl_hi, wl_eq, wl_ne, fa_lit, fa_litL, nI_add, pk_mul, nI_ltI, nI_leI, nI_eq, b01, b0, b1, Nat.reduceLeDiff, Nat.reduceAdd, Nat.reduceMul, Nat.reduceSub, Nat.lt_irrefl, Nat.reduceLT, f_ss, f_sR, f_sL, lc0, lc1, lc01, stI, stL, kt, v3, hk1, kz, zk, es, kX, b1, bT, nT, zT, kz1, zk1, kX1, b2, kX2, b3', sF, kX3, b4, kX4, kf, fl, b5', fF]
  · obtain ⟨⟨tf, t1, t2⟩, -⟩ := hI.2.2.1
    have kt := t1.1
    have v3 : hi g 124 3 = nI (P 0 6) := by rw [t1.2 3 (by decide), t2.2.2.2.1]
    refine lp_out ?_
    simp (maxSteps := 4000000) (disch := omega) only [ob_t, ob_n, ob_ite, e_cI, e_cL, e_cR, e_vI, e_vL, e_vR, e_d2, e_d2_a, e_d2_b, e_d2z, e_d2z_a, e_d2z_b, e_d1, e_d1_a, e_GI, e_GI_a, e_GL, e_GL_a, e_GR, e_GR_a, e_AI, e_AI_a, e_AI_b, e_AB, e_AB_a, e_AB_b, e_AZ, e_AZ_a, e_AZ_b, e_AL, e_AL_a, e_AL_b, e_AR, e_AR_a, e_AR_b, e_Len, e_Len_a, e_CI, e_CI_a, e_CI_b, e_CZ, e_CZ_a, e_And, e_kAnd, e_Or, e_kOr, e_Not, e_kNot, e_B, e_kB, e_T, e_kT, e_NN, e_kNN, e_NewA, e_NewA_a, e_NewC, e_kNewC, e_aN, e_aI, e_aI_a, e_aI_b, e_aL, e_aL_a, e_aL_b, e_aR, e_aR_a, e_aR_b, e_Call, e_kCall, e_CallV, e_kCallV, e_SetI, e_kSetI, e_SetL, e_kSetL, e_SetR, e_kSetR, e_Inc, e_Skip, e_Brk, e_Cnt, e_Ret, e_kRet, e_Ret0, e_Seq, e_kSeq0, e_kSeq1, e_kSeq2, e_kSeqR, e_If, e_kIf, e_Do, e_kDo, e_Sup, e_kN0, e_d3, e_k3a, e_k3b, e_k3c, e_P, e_kPa, e_kPb, e_UA, e_kUAa, e_kUAb, e_kUAc, e_UL, e_kULa, e_kULb, e_kULc, e_UF, e_kUFa, e_kUFb, e_Cp, e_kCp, e_Sw, e_kSwa, e_kSwb0, e_kSwb1, e_kSwbR, e_M1, e_kM1, e_MZ, e_kMZ, e_MN, e_kMN, e_Tv, e_kTv, e_Tc, e_kTc, e_lpS, e_kLp, e_kLpB0, e_kLpB1, e_kLpB2, e_kLpBR, e_kLpU, e_dwS, e_kDwB0, e_kDwC, f_II, f_LL, f_RR, f_IL, f_IR, f_LI, f_LR, f_RI, f_RL, o_iadd, o_isub, o_imul, o_iand, o_ior, o_ixor, o_ladd, o_lsub, o_lmul, o_land, o_lor, o_i2b, o_i2s, o_lneg, o_imax, o_imin, r_lt, r_le, r_gt, r_ge, r_eq, r_ne, q_lt, q_le, q_gt, q_ge, q_eq, q_ne, decide_eq_true_eq, idI, and_true, true_and, and_false, false_and, or_true, true_or, or_false, false_or, not_true_eq_false, not_false_eq_true, if_true, if_false, ite_self, Bool.not_true, Bool.not_false, Bool.false_eq_true, Bool.true_eq_false, decide_true, decide_false, ne_eq, reduceIte, Nat.reduceEqDiff, Option.some.injEq, Prod.mk.injEq, eq_self, n_inb, nI_clamp, w_hr, w_hk, w_hl, w_eq, w_ne, wl_hr, wl_hk, wl_hi, wl_eq, wl_ne, fa_lit, fa_litL, nI_add, pk_mul, nI_ltI, nI_leI, nI_eq, b01, b0, b1, Nat.reduceLeDiff, Nat.reduceAdd, Nat.reduceMul, Nat.reduceSub, Nat.lt_irrefl, Nat.reduceLT, f_ss, f_sR, f_sL, lc0, lc1, lc01, stI, stL, kt, v3]
theorem sumN_le (hW : WFP P) : ∀ k, k ≤ P 0 6 → sumN P k ≤ 99 * k
  | 0, _ => Nat.zero_le _
  | k + 1, h => by
    have ih := sumN_le hW k (by omega)
    have := (hW.cr (k := k) (by omega)).2
    show sumN P k + P 5 k ≤ 99 * (k + 1)
    omega
theorem x_l10 (H : LW L xs h P (told P) a b) (hl : l < P 0 7) : ∃ g, Llaw_10 (sI (sI (sI (sI (sI (sI (sI (sI (sR (sR (sR (sR (sR (sI (sI (sR (sR (sR (sR (sR (sR (sR (sR (sR (sR fr0 0 1) 1 31) 2 122) 3 123) 4 124) 5 125) 6 126) 7 127) 8 128) 9 129) 10 (nI D)) 11 (nI S)) 12 130) 13 131) 14 132) 15 133) 16 134) 17 (nI A)) 18 (nI l)) 19 F19) 20 F20) 21 F21) 22 F22) 23 F23) 24 (nI 0)) h = some (.inl 0, sI (sI (sI (sI (sI (sI (sI (sI (sR (sR (sR (sR (sR (sI (sI (sR (sR (sR (sR (sR (sR (sR (sR (sR (sR fr0 0 1) 1 31) 2 122) 3 123) 4 124) 5 125) 6 126) 7 127) 8 128) 9 129) 10 (nI D)) 11 (nI S)) 12 130) 13 131) 14 132) 15 133) 16 134) 17 (nI A)) 18 (nI l)) 19 F19) 20 F20) 21 F21) 22 F22) 23 F23) 24 (nI (P 0 4)), g) ∧ LW L xs g P (told P) a b := by
  have hW := H.1.w
  have hb := hW.all
  unfold Llaw_10
  refine loop_g (fun k => sI (sI (sI (sI (sI (sI (sI (sI (sR (sR (sR (sR (sR (sI (sI (sR (sR (sR (sR (sR (sR (sR (sR (sR (sR fr0 0 1) 1 31) 2 122) 3 123) 4 124) 5 125) 6 126) 7 127) 8 128) 9 129) 10 (nI D)) 11 (nI S)) 12 130) 13 131) 14 132) 15 133) 16 134) 17 (nI A)) 18 (nI l)) 19 F19) 20 F20) 21 F21) 22 F22) 23 F23) 24 (nI k)) (fun k g => LW L xs g P (told P) a b) (P 0 4) rfl H (fun x g hx hI => ?_) (fun g hI => ?_)
  · have tab : ∀ {g0 : St}, LW L xs g0 P (told P) a b → hk g0 124 = (13, 8) ∧ hi g0 124 2 = nI (P 0 4) ∧ hi g0 124 3 = nI (P 0 6) ∧ hk g0 31 = (11, 0) := fun H0 => by
      obtain ⟨⟨tf, t1, t2⟩, -⟩ := H0.2.2.1
      exact ⟨t1.1, by rw [t1.2 2 (by decide), t2.2.2.1], by rw [t1.2 3 (by decide), t2.2.2.2.1], H0.1.co.koX⟩
    obtain ⟨kt, v2, v3, kX⟩ := tab hI
    obtain ⟨g1, q, I1⟩ := c_needs hI.1 hl hx
    have b1 : DX11_needs (sI (sI (sR fr0 0 31) 1 (nI l)) 2 (nI x)) g = some (nI (neE P l x) + -nI 1, g1) := q
    have H1 := hI.call I1
    obtain ⟨kt1, w2, w3, kX1⟩ := tab H1
    have ne_l : neE P l x ≤ 202 := by
      unfold neE
      have := fa_first_le (fun t => decide (soE P l t x ≠ 0)) 201
      split <;> omega
    have nge : (nI 0 ≤ nI (neE P l x) + -nI 1) = (neE P l x ≠ 0) := n_ge (by omega)
    by_cases z : P 0 6 = 0
    · obtain ⟨g2, b2, H2⟩ := x_l9 (D := D) (S := S) (A := A) (F19 := F19) (F20 := F20) (F21 := F21) (F22 := F22) (F23 := F23) H1 hl hx
      obtain ⟨kt2, y2, y3, kX2⟩ := tab H2
      have zF : (nI 0 < nI (P 0 6)) = False := by rw [z]; exact eq_false (by decide)
      obtain ⟨nv, env⟩ : ∃ nv : Int32, nv = nI (neE P l x) + -nI 1 := ⟨_, rfl⟩
      rw [← env] at b1 b2
      refine ⟨g2, ?_, H2⟩
      simp (maxSteps := 4000000) (disch := omega) only [ob_t, ob_n, ob_ite, e_cI, e_cL, e_cR, e_vI, e_vL, e_vR, e_d2, e_d2_a, e_d2_b, e_d2z, e_d2z_a, e_d2z_b, e_d1, e_d1_a, e_GI, e_GI_a, e_GL, e_GL_a, e_GR, e_GR_a, e_AI, e_AI_a, e_AI_b, e_AB, e_AB_a, e_AB_b, e_AZ, e_AZ_a, e_AZ_b, e_AL, e_AL_a, e_AL_b, e_AR, e_AR_a, e_AR_b, e_Len, e_Len_a, e_CI, e_CI_a, e_CI_b, e_CZ, e_CZ_a, e_And, e_kAnd, e_Or, e_kOr, e_Not, e_kNot, e_B, e_kB, e_T, e_kT, e_NN, e_kNN, e_NewA, e_NewA_a, e_NewC, e_kNewC, e_aN, e_aI, e_aI_a, e_aI_b, e_aL, e_aL_a, e_aL_b, e_aR, e_aR_a, e_aR_b, e_Call, e_kCall, e_CallV, e_kCallV, e_SetI, e_kSetI, e_SetL, e_kSetL, e_SetR, e_kSetR, e_Inc, e_Skip, e_Brk, e_Cnt, e_Ret, e_kRet, e_Ret0, e_Seq, e_kSeq0, e_kSeq1, e_kSeq2, e_kSeqR, e_If, e_kIf, e_Do, e_kDo, e_Sup, e_kN0, e_d3, e_k3a, e_k3b, e_k3c, e_P, e_kPa, e_kPb, e_UA, e_kUAa, e_kUAb, e_kUAc, e_UL, e_kULa, e_kULb, e_kULc, e_UF, e_kUFa, e_kUFb, e_Cp, e_kCp, e_Sw, e_kSwa, e_kSwb0, e_kSwb1, e_kSwbR, e_M1, e_kM1, e_MZ, e_kMZ, e_MN, e_kMN, e_Tv, e_kTv, e_Tc, e_kTc, e_lpS, e_kLp, e_kLpB0, e_kLpB1, e_kLpB2, e_kLpBR, e_kLpU, e_dwS, e_kDwB0, e_kDwC, f_II, f_LL, f_RR, f_IL, f_IR, f_LI, f_LR, f_RI, f_RL, o_iadd, o_isub, o_imul, o_iand, o_ior, o_ixor, o_ladd, o_lsub, o_lmul, o_land, o_lor, o_i2b, o_i2s, o_lneg, o_imax, o_imin, r_lt, r_le, r_gt, r_ge, r_eq, r_ne, q_lt, q_le, q_gt, q_ge, q_eq, q_ne, decide_eq_true_eq, idI, and_true, true_and, and_false, false_and, or_true, true_or, or_false, false_or, not_true_eq_false, not_false_eq_true, if_true, if_false, ite_self, Bool.not_true, Bool.not_false, Bool.false_eq_true, Bool.true_eq_false, decide_true, decide_false, ne_eq, reduceIte, Nat.reduceEqDiff, Option.some.injEq, Prod.mk.injEq, eq_self, n_inb, nI_clamp, w_hr, w_hk, w_hl, w_eq, w_ne, wl_hr, wl_hk, wl_hi, wl_eq, wl_ne, fa_lit, fa_litL, nI_add, pk_mul, nI_ltI, nI_leI, nI_eq, b01, b0, b1, Nat.reduceLeDiff, Nat.reduceAdd, Nat.reduceMul, Nat.reduceSub, Nat.lt_irrefl, Nat.reduceLT, f_ss, f_sR, f_sL, lc0, lc1, lc01, stI, stL, kt, v2, hx, kX, b1, kt1, w3, zF, b2, kt2, y3]
    · have hK : 0 < P 0 6 := by omega
      have zT : (nI 0 < nI (P 0 6)) = True := by rw [nI_ltI (by decide) (by omega)]; exact eq_true hK
      have p1 : 2 ^ 1 ≤ 2 ^ P 0 6 := Nat.pow_le_pow_right (by decide) hK
      have p5 : 2 ^ P 0 6 ≤ 2 ^ 5 := Nat.pow_le_pow_right (by decide) hb.2.2.2.2.2.1
      obtain ⟨n, en⟩ : ∃ n, n = 2 ^ P 0 6 - 1 := ⟨_, rfl⟩
      have s1 : o_ishl (nI 1) (nI (P 0 6)) = nI (2 ^ P 0 6) := by rw [q_ishl (by omega) (by omega), Nat.one_mul]
      have s2 : nI (2 ^ P 0 6) - nI 1 = nI n := by rw [en]; exact pk_sub (by omega)
      obtain ⟨so, eso⟩ : ∃ so, so = soE P l (strong P n) x := ⟨_, rfl⟩
      have so_l : so < 2 ^ 31 := by
        have := so_lt hW hl (strong P n) x
        omega
      have ct : ∀ {g0 : St}, LW L xs g0 P (told P) a b → ∃ g1, DX11_cart (sI (sI (sI (sR fr0 0 31) 1 (nI n)) 2 (nI l)) 3 (nI x)) g0 = some (nI so + -nI 1, g1) ∧ LW L xs g1 P (told P) a b := fun H0 => by
        obtain ⟨g1, q, I⟩ := c_cart H0.1 (k := n) (by omega) (by omega) hl hx
        rw [eso]
        exact ⟨g1, q, H0.call I⟩
      obtain ⟨g2, q, I2⟩ := c_four H1.1 hl hx
      obtain ⟨fb, efb⟩ : ∃ fb, fb = fbS P l x (2 ^ P 0 6 - 1) := ⟨_, rfl⟩
      have b2 : DX11_four (sI (sI (sR fr0 0 31) 1 (nI l)) 2 (nI x)) g1 = some (nI fb + -nI 1, g2) := by rw [efb]; exact q
      have fb_l : fb < 2 ^ 31 := by
        have := fbS_le P l x (2 ^ P 0 6 - 1)
        omega
      have H2 := H1.call I2
      obtain ⟨kt2, y2, y3, kX2⟩ := tab H2
      obtain ⟨g3, b3, H3⟩ := ct H2
      have fc := four_cart (x := x) hW hl hK
      rw [← efb, ← en, ← eso] at fc
      obtain ⟨g4, b4, H4⟩ := x_l9 (D := D) (S := S) (A := A) (F19 := F19) (F20 := F20) (F21 := F21) (F22 := F22) (F23 := F23) H3 hl hx
      obtain ⟨kt4, u2, u3, kX4⟩ := tab H4
      obtain ⟨g5, b5, H5⟩ := ct H4
      have fge : (nI 0 ≤ nI fb + -nI 1) = (fb ≠ 0) := n_ge fb_l
      have cge : (nI 0 ≤ nI so + -nI 1) = (so ≠ 0) := n_ge so_l
      have ns := ne_so (t := strong P n) hW hl x
      have sa : strong P n = sumN P (P 0 6) := by rw [en]; exact strong_all P
      rw [← eso, sa] at ns
      have sl := sumN_le hW (P 0 6) (Nat.le_refl _)
      obtain ⟨nv, env⟩ : ∃ nv : Int32, nv = nI (neE P l x) + -nI 1 := ⟨_, rfl⟩
      obtain ⟨cv, ecv⟩ : ∃ cv : Int32, cv = nI so + -nI 1 := ⟨_, rfl⟩
      obtain ⟨fv, efv⟩ : ∃ fv : Int32, fv = nI fb + -nI 1 := ⟨_, rfl⟩
      obtain ⟨sm, esm⟩ : ∃ sm, sm = sumN P (P 0 6) := ⟨_, rfl⟩
      rw [← esm] at b4 ns sl
      rw [← env] at b1 b4 nge
      rw [← ecv] at b3 b5 cge
      rw [← efv] at b2 fge
      refine ⟨g5, ?_, H5⟩
      by_cases w : so = 0
      · have cF : (nI 0 ≤ cv) = False := by rw [cge]; exact eq_false (fun q => q w)
        have fF : (nI 0 ≤ fv) = False := by rw [fge]; exact eq_false (fun q => (fc.mp q) w)
        by_cases v : neE P l x = 0
        · have nF : (nI 0 ≤ nv) = False := by rw [nge]; exact eq_false (fun q => q v)
          simp (maxSteps := 4000000) (disch := omega) only [ob_t, ob_n, ob_ite, e_cI, e_cL, e_cR, e_vI, e_vL, e_vR, e_d2, e_d2_a, e_d2_b, e_d2z, e_d2z_a, e_d2z_b, e_d1, e_d1_a, e_GI, e_GI_a, e_GL, e_GL_a, e_GR, e_GR_a, e_AI, e_AI_a, e_AI_b, e_AB, e_AB_a, e_AB_b, e_AZ, e_AZ_a, e_AZ_b, e_AL, e_AL_a, e_AL_b, e_AR, e_AR_a, e_AR_b, e_Len, e_Len_a, e_CI, e_CI_a, e_CI_b, e_CZ, e_CZ_a, e_And, e_kAnd, e_Or, e_kOr, e_Not, e_kNot, e_B, e_kB, e_T, e_kT, e_NN, e_kNN, e_NewA, e_NewA_a, e_NewC, e_kNewC, e_aN, e_aI, e_aI_a, e_aI_b, e_aL, e_aL_a, e_aL_b, e_aR, e_aR_a, e_aR_b, e_Call, e_kCall, e_CallV, e_kCallV, e_SetI, e_kSetI, e_SetL, e_kSetL, e_SetR, e_kSetR, e_Inc, e_Skip, e_Brk, e_Cnt, e_Ret, e_kRet, e_Ret0, e_Seq, e_kSeq0, e_kSeq1, e_kSeq2, e_kSeqR, e_If, e_kIf, e_Do, e_kDo, e_Sup, e_kN0, e_d3, e_k3a, e_k3b, e_k3c, e_P, e_kPa, e_kPb, e_UA, e_kUAa, e_kUAb, e_kUAc, e_UL, e_kULa, e_kULb, e_kULc, e_UF, e_kUFa, e_kUFb, e_Cp, e_kCp, e_Sw, e_kSwa, e_kSwb0, e_kSwb1, e_kSwbR, e_M1, e_kM1, e_MZ, e_kMZ, e_MN, e_kMN, e_Tv, e_kTv, e_Tc, e_kTc, e_lpS, e_kLp, e_kLpB0, e_kLpB1, e_kLpB2, e_kLpBR, e_kLpU, e_dwS, e_kDwB0, e_kDwC, f_II, f_LL, f_RR, f_IL, f_IR, f_LI, f_LR, f_RI, f_RL, o_iadd, o_isub, o_imul, o_iand, o_ior, o_ixor, o_ladd, o_lsub, o_lmul, o_land, o_lor, o_i2b, o_i2s, o_lneg, o_imax, o_imin, r_lt, r_le, r_gt, r_ge, r_eq, r_ne, q_lt, q_le, q_gt, q_ge, q_eq, q_ne, decide_eq_true_eq, idI, and_true, true_and, and_false, false_and, or_true, true_or, or_false, false_or, not_true_eq_false, not_false_eq_true, if_true, if_false, ite_self, Bool.not_true, Bool.not_false, Bool.false_eq_true, Bool.true_eq_false, decide_true, decide_false, ne_eq, reduceIte, Nat.reduceEqDiff, Option.some.injEq, Prod.mk.injEq, eq_self, n_inb, nI_clamp, w_hr, w_hk, w_hl, w_eq, w_ne, wl_hr, wl_hk, wl_hi, wl_eq, wl_ne, fa_lit, fa_litL, nI_add, pk_mul, nI_ltI, nI_leI, nI_eq, b01, b0, b1, Nat.reduceLeDiff, Nat.reduceAdd, Nat.reduceMul, Nat.reduceSub, Nat.lt_irrefl, Nat.reduceLT, f_ss, f_sR, f_sL, lc0, lc1, lc01, stI, stL, kt, v2, hx, kX, b1, kt1, w3, zT, kX1, b2, fF, kt2, y3, s1, s2, kX2, b3, cF, b4, kt4, u3, kX4, b5, nF]
        · have nT : (nI 0 ≤ nv) = True := by rw [nge]; exact eq_true v
          have zF : (nv ≤ nI sm) = False := by
            rw [env, n_pred (by omega), nI_leI (by omega) (by omega)]
            refine eq_false (fun q => ?_)
            exact (ns.mpr ⟨v, by omega⟩) w
          simp (maxSteps := 4000000) (disch := omega) only [ob_t, ob_n, ob_ite, e_cI, e_cL, e_cR, e_vI, e_vL, e_vR, e_d2, e_d2_a, e_d2_b, e_d2z, e_d2z_a, e_d2z_b, e_d1, e_d1_a, e_GI, e_GI_a, e_GL, e_GL_a, e_GR, e_GR_a, e_AI, e_AI_a, e_AI_b, e_AB, e_AB_a, e_AB_b, e_AZ, e_AZ_a, e_AZ_b, e_AL, e_AL_a, e_AL_b, e_AR, e_AR_a, e_AR_b, e_Len, e_Len_a, e_CI, e_CI_a, e_CI_b, e_CZ, e_CZ_a, e_And, e_kAnd, e_Or, e_kOr, e_Not, e_kNot, e_B, e_kB, e_T, e_kT, e_NN, e_kNN, e_NewA, e_NewA_a, e_NewC, e_kNewC, e_aN, e_aI, e_aI_a, e_aI_b, e_aL, e_aL_a, e_aL_b, e_aR, e_aR_a, e_aR_b, e_Call, e_kCall, e_CallV, e_kCallV, e_SetI, e_kSetI, e_SetL, e_kSetL, e_SetR, e_kSetR, e_Inc, e_Skip, e_Brk, e_Cnt, e_Ret, e_kRet, e_Ret0, e_Seq, e_kSeq0, e_kSeq1, e_kSeq2, e_kSeqR, e_If, e_kIf, e_Do, e_kDo, e_Sup, e_kN0, e_d3, e_k3a, e_k3b, e_k3c, e_P, e_kPa, e_kPb, e_UA, e_kUAa, e_kUAb, e_kUAc, e_UL, e_kULa, e_kULb, e_kULc, e_UF, e_kUFa, e_kUFb, e_Cp, e_kCp, e_Sw, e_kSwa, e_kSwb0, e_kSwb1, e_kSwbR, e_M1, e_kM1, e_MZ, e_kMZ, e_MN, e_kMN, e_Tv, e_kTv, e_Tc, e_kTc, e_lpS, e_kLp, e_kLpB0, e_kLpB1, e_kLpB2, e_kLpBR, e_kLpU, e_dwS, e_kDwB0, e_kDwC, f_II, f_LL, f_RR, f_IL, f_IR, f_LI, f_LR, f_RI, f_RL, o_iadd, o_isub, o_imul, o_iand, o_ior, o_ixor, o_ladd, o_lsub, o_lmul, o_land, o_lor, o_i2b, o_i2s, o_lneg, o_imax, o_imin, r_lt, r_le, r_gt, r_ge, r_eq, r_ne, q_lt, q_le, q_gt, q_ge, q_eq, q_ne, decide_eq_true_eq, idI, and_true, true_and, and_false, false_and, or_true, true_or, or_false, false_or, not_true_eq_false, not_false_eq_true, if_true, if_false, ite_self, Bool.not_true, Bool.not_false, Bool.false_eq_true, Bool.true_eq_false, decide_true, decide_false, ne_eq, reduceIte, Nat.reduceEqDiff, Option.some.injEq, Prod.mk.injEq, eq_self, n_inb, nI_clamp, w_hr, w_hk, w_hl, w_eq, w_ne, wl_hr, wl_hk, wl_hi, wl_eq, wl_ne, fa_lit, fa_litL, nI_add, pk_mul, nI_ltI, nI_leI, nI_eq, b01, b0, b1, Nat.reduceLeDiff, Nat.reduceAdd, Nat.reduceMul, Nat.reduceSub, Nat.lt_irrefl, Nat.reduceLT, f_ss, f_sR, f_sL, lc0, lc1, lc01, stI, stL, kt, v2, hx, kX, b1, kt1, w3, zT, kX1, b2, fF, kt2, y3, s1, s2, kX2, b3, cF, b4, kt4, u3, kX4, b5, nT, zF]
      · have cT : (nI 0 ≤ cv) = True := by rw [cge]; exact eq_true w
        have fT : (nI 0 ≤ fv) = True := by rw [fge]; exact eq_true (fc.mpr w)
        obtain ⟨n1, n2⟩ := ns.mp w
        have nT : (nI 0 ≤ nv) = True := by rw [nge]; exact eq_true n1
        have zT' : (nv ≤ nI sm) = True := by
          rw [env, n_pred (by omega), nI_leI (by omega) (by omega)]
          exact eq_true (by omega)
        simp (maxSteps := 4000000) (disch := omega) only [ob_t, ob_n, ob_ite, e_cI, e_cL, e_cR, e_vI, e_vL, e_vR, e_d2, e_d2_a, e_d2_b, e_d2z, e_d2z_a, e_d2z_b, e_d1, e_d1_a, e_GI, e_GI_a, e_GL, e_GL_a, e_GR, e_GR_a, e_AI, e_AI_a, e_AI_b, e_AB, e_AB_a, e_AB_b, e_AZ, e_AZ_a, e_AZ_b, e_AL, e_AL_a, e_AL_b, e_AR, e_AR_a, e_AR_b, e_Len, e_Len_a, e_CI, e_CI_a, e_CI_b, e_CZ, e_CZ_a, e_And, e_kAnd, e_Or, e_kOr, e_Not, e_kNot, e_B, e_kB, e_T, e_kT, e_NN, e_kNN, e_NewA, e_NewA_a, e_NewC, e_kNewC, e_aN, e_aI, e_aI_a, e_aI_b, e_aL, e_aL_a, e_aL_b, e_aR, e_aR_a, e_aR_b, e_Call, e_kCall, e_CallV, e_kCallV, e_SetI, e_kSetI, e_SetL, e_kSetL, e_SetR, e_kSetR, e_Inc, e_Skip, e_Brk, e_Cnt, e_Ret, e_kRet, e_Ret0, e_Seq, e_kSeq0, e_kSeq1, e_kSeq2, e_kSeqR, e_If, e_kIf, e_Do, e_kDo, e_Sup, e_kN0, e_d3, e_k3a, e_k3b, e_k3c, e_P, e_kPa, e_kPb, e_UA, e_kUAa, e_kUAb, e_kUAc, e_UL, e_kULa, e_kULb, e_kULc, e_UF, e_kUFa, e_kUFb, e_Cp, e_kCp, e_Sw, e_kSwa, e_kSwb0, e_kSwb1, e_kSwbR, e_M1, e_kM1, e_MZ, e_kMZ, e_MN, e_kMN, e_Tv, e_kTv, e_Tc, e_kTc, e_lpS, e_kLp, e_kLpB0, e_kLpB1, e_kLpB2, e_kLpBR, e_kLpU, e_dwS, e_kDwB0, e_kDwC, f_II, f_LL, f_RR, f_IL, f_IR, f_LI, f_LR, f_RI, f_RL, o_iadd, o_isub, o_imul, o_iand, o_ior, o_ixor, o_ladd, o_lsub, o_lmul, o_land, o_lor, o_i2b, o_i2s, o_lneg, o_imax, o_imin, r_lt, r_le, r_gt, r_ge, r_eq, r_ne, q_lt, q_le, q_gt, q_ge, q_eq, q_ne, decide_eq_true_eq, idI, and_true, true_and, and_false, false_and, or_true, true_or, or_false, false_or, not_true_eq_false, not_false_eq_true, if_true, if_false, ite_self, Bool.not_true, Bool.not_false, Bool.false_eq_true, Bool.true_eq_false, decide_true, decide_false, ne_eq, reduceIte, Nat.reduceEqDiff, Option.some.injEq, Prod.mk.injEq, eq_self, n_inb, nI_clamp, w_hr, w_hk, w_hl, w_eq, w_ne, wl_hr, wl_hk, wl_hi, wl_eq, wl_ne, fa_lit, fa_litL, nI_add, pk_mul, nI_ltI, nI_leI, nI_eq, b01, b0, b1, Nat.reduceLeDiff, Nat.reduceAdd, Nat.reduceMul, Nat.reduceSub, Nat.lt_irrefl, Nat.reduceLT, f_ss, f_sR, f_sL, lc0, lc1, lc01, stI, stL, kt, v2, hx, kX, b1, kt1, w3, zT, kX1, b2, fT, kt2, y3, s1, s2, kX2, b3, cT, b4, kt4, u3, kX4, b5, nT, zT']
  · obtain ⟨⟨tf, t1, t2⟩, -⟩ := hI.2.2.1
    have kt := t1.1
    have v2 : hi g 124 2 = nI (P 0 4) := by rw [t1.2 2 (by decide), t2.2.2.1]
    refine lp_out ?_
    simp (maxSteps := 4000000) (disch := omega) only [ob_t, ob_n, ob_ite, e_cI, e_cL, e_cR, e_vI, e_vL, e_vR, e_d2, e_d2_a, e_d2_b, e_d2z, e_d2z_a, e_d2z_b, e_d1, e_d1_a, e_GI, e_GI_a, e_GL, e_GL_a, e_GR, e_GR_a, e_AI, e_AI_a, e_AI_b, e_AB, e_AB_a, e_AB_b, e_AZ, e_AZ_a, e_AZ_b, e_AL, e_AL_a, e_AL_b, e_AR, e_AR_a, e_AR_b, e_Len, e_Len_a, e_CI, e_CI_a, e_CI_b, e_CZ, e_CZ_a, e_And, e_kAnd, e_Or, e_kOr, e_Not, e_kNot, e_B, e_kB, e_T, e_kT, e_NN, e_kNN, e_NewA, e_NewA_a, e_NewC, e_kNewC, e_aN, e_aI, e_aI_a, e_aI_b, e_aL, e_aL_a, e_aL_b, e_aR, e_aR_a, e_aR_b, e_Call, e_kCall, e_CallV, e_kCallV, e_SetI, e_kSetI, e_SetL, e_kSetL, e_SetR, e_kSetR, e_Inc, e_Skip, e_Brk, e_Cnt, e_Ret, e_kRet, e_Ret0, e_Seq, e_kSeq0, e_kSeq1, e_kSeq2, e_kSeqR, e_If, e_kIf, e_Do, e_kDo, e_Sup, e_kN0, e_d3, e_k3a, e_k3b, e_k3c, e_P, e_kPa, e_kPb, e_UA, e_kUAa, e_kUAb, e_kUAc, e_UL, e_kULa, e_kULb, e_kULc, e_UF, e_kUFa, e_kUFb, e_Cp, e_kCp, e_Sw, e_kSwa, e_kSwb0, e_kSwb1, e_kSwbR, e_M1, e_kM1, e_MZ, e_kMZ, e_MN, e_kMN, e_Tv, e_kTv, e_Tc, e_kTc, e_lpS, e_kLp, e_kLpB0, e_kLpB1, e_kLpB2, e_kLpBR, e_kLpU, e_dwS, e_kDwB0, e_kDwC, f_II, f_LL, f_RR, f_IL, f_IR, f_LI, f_LR, f_RI, f_RL, o_iadd, o_isub, o_imul, o_iand, o_ior, o_ixor, o_ladd, o_lsub, o_lmul, o_land, o_lor, o_i2b, o_i2s, o_lneg, o_imax, o_imin, r_lt, r_le, r_gt, r_ge, r_eq, r_ne, q_lt, q_le, q_gt, q_ge, q_eq, q_ne, decide_eq_true_eq, idI, and_true, true_and, and_false, false_and, or_true, true_or, or_false, false_or, not_true_eq_false, not_false_eq_true, if_true, if_false, ite_self, Bool.not_true, Bool.not_false, Bool.false_eq_true, Bool.true_eq_false, decide_true, decide_false, ne_eq, reduceIte, Nat.reduceEqDiff, Option.some.injEq, Prod.mk.injEq, eq_self, n_inb, nI_clamp, w_hr, w_hk, w_hl, w_eq, w_ne, wl_hr, wl_hk, wl_hi, wl_eq, wl_ne, fa_lit, fa_litL, nI_add, pk_mul, nI_ltI, nI_leI, nI_eq, b01, b0, b1, Nat.reduceLeDiff, Nat.reduceAdd, Nat.reduceMul, Nat.reduceSub, Nat.lt_irrefl, Nat.reduceLT, f_ss, f_sR, f_sL, lc0, lc1, lc01, stI, stL, kt, v2]
end
end
