set_option maxRecDepth 100000
set_option maxHeartbeats 1000000
/-! the calls that change what is told, of the class alone -/
section
variable {W h g : St} {P P' : PT}
theorem Inv.toP {D : Nat → Prop} (H : Inv W h P) (q : Ch D h g) (hD : ∀ o, D o → 31 ≤ o ∧ o < 122 ∧ ¬ (87 ≤ o ∧ o < 95)) (hR : RP g oP P') (hW : WFP P') (f : Fresh g oD P') (a1 : hi g oA 14 = -nI 1) (a2 : hi g oA 16 = -nI 1) : Inv W g P' := by
  have hc := o_is
  obtain ⟨S, hS⟩ := H.wi
  exact ⟨H.sh.to q.1, hR, hW, f, ⟨S, hS.keep q (fun o h1 h2 z => by have := hD o z; omega)⟩, Or.inl a1, Or.inl a2, H.cn.keep q (fun o z => by have := hD o z; omega)⟩
theorem told_f {P : PT} (hW : WFP P) (h : 0 < P 0 7 ∨ 0 < P 0 6) : 0 < P 0 0 := Nat.pos_of_ne_zero (fun z => by have := hW.2.2.2.2.2.2.2.2.2.2.2.2.2.1 z; omega)
/-- rows of numbers -/
theorem Inv.slot {D : Nat → Prop} (H : Inv W h P) (q : Ch D h g) (hD : ∀ o, D o → 67 < o ∧ o < 72) : Inv W g P := by
  have hc := o_is
  obtain ⟨S, hS⟩ := H.wi
  refine ⟨H.sh.to q.1, RP.ch q (fun j hj z => by have := hD _ z; omega) H.2.1, H.w, H.fr.keep q (fun o h1 h2 z => by have := hD o z; omega), ⟨S, hS.keep q (fun o h1 h2 z => by have := hD o z; omega)⟩, H.a1.keep q (fun o h1 h2 z => by have := hD o z; omega), H.a2.keep q (Or.inl (fun z => by have := hD _ z; omega)) (fun z => by have := hD _ z; omega), H.cn.keep q (fun o z => by have := hD o z; omega)⟩
theorem c_row (H : Inv W h P) : ∃ g, DX11_row (sI (sI (sI (sR fr0 0 oX) 1 (nI 0)) 2 (nI 0)) 3 (nI 2)) h = some (nI 0, g) ∧ Inv W g P ∧ hi g 69 0 = nI 1 ∧ hi g 70 0 = nI 2 := by
  have hO := H.co
  have hP := H.ps
  have hcc := o_is
  have c1 := G_slot h (nI 0) 68
  rw [if_pos (n_in (by decide) (by decide))] at c1
  have y1 : ¬ nI 0 < nI 0 := by decide
  have y2 : ¬ nI 4 ≤ nI 0 := by decide
  have y3 : ¬ nI 60 < nI 2 := by decide
  have y4 : ¬ nI 2 < nI 0 := by decide
  have k69 := hO.k69
  have e1 : DX11_put (sI (sI (sR fr0 0 69) 1 (nI 0)) 2 (nI 1)) h = some ((), wI h 69 0 (nI 1)) := x_put (by rw [k69]) (by decide) (by rw [k69]; decide) (by rw [k69]; decide)
  obtain ⟨g1, hg1⟩ : ∃ x, x = wI h 69 0 (nI 1) := ⟨_, rfl⟩
  rw [← hg1] at e1
  have hO1 : CO g1 := by rw [hg1]; exact hO.to ⟨rfl, rfl, rfl, rfl⟩
  have k70 := hO1.k70
  have e2 : DX11_put (sI (sI (sR fr0 0 70) 1 (nI 0)) 2 (nI 2)) g1 = some ((), wI g1 70 0 (nI 2)) := x_put (by rw [k70]) (by decide) (by rw [k70]; decide) (by rw [k70]; decide)
  obtain ⟨g2, hg2⟩ : ∃ x, x = wI g1 70 0 (nI 2) := ⟨_, rfl⟩
  rw [← hg2] at e2
  have q2 : Ch (fun o => o = 69 ∨ o = 70) h g2 := by
    rw [hg2, hg1]
    exact (Ch.w (D := fun o => o = 69 ∨ o = 70) (by omega) h 0 _).tr (Ch.w (D := fun o => o = 69 ∨ o = 70) (by omega) _ 0 _)
  have hO2 : CO g2 := hO.to q2.1
  have v69 : hi g2 69 0 = nI 1 := by rw [hg2, w_ne (by omega), hg1]; exact w_eq _ _ _ _
  have v70 : hi g2 70 0 = nI 2 := by rw [hg2]; exact w_eq _ _ _ _
  obtain ⟨g3, L1, q3⟩ : ∃ g, LX8_make_1 (sI (sI (sI (sI (sR fr0 0 68) 1 (nI 0)) 2 (nI 0)) 3 (nI 2)) 4 (nI 0)) g2 = some (.inl 0, sI (sI (sI (sI (sR fr0 0 68) 1 (nI 0)) 2 (nI 0)) 3 (nI 2)) 4 (nI 2), g) ∧ Ch (fun o => o = 71) g2 g := by
    unfold LX8_make_1
    refine loop_g (fun i => sI (sI (sI (sI (sR fr0 0 68) 1 (nI 0)) 2 (nI 0)) 3 (nI 2)) 4 (nI i)) (fun i g => Ch (fun o => o = 71) g2 g) 2 rfl (Ch.rf _ _) (fun i g hi1 hI => ?_) (fun g hI => ?_)
    · have hO := hO2.to hI.1
      have c4 := x_set (v := lN 0) (w := 1) (slot := 0) hO (by decide) (by omega) (by omega) (by rw [(hI.2 69 (by omega)).1]; exact v69) (by rw [(hI.2 70 (by omega)).1]; exact v70) hi1 (by decide)
      rw [cutV_0] at c4
      refine ⟨wL g 71 (60 * 0 + i) (lN 0), ?_, hI.tr (Ch.wl (D := fun o => o = 71) (r := 71) rfl _ _ _)⟩
      simp (disch := omega) only [ob_t, ob_n, ob_ite, e_cI, e_cL, e_cR, e_vI, e_vL, e_vR, e_d2, e_d2_a, e_d2_b, e_d2z, e_d2z_a, e_d2z_b, e_d1, e_d1_a, e_GI, e_GI_a, e_GL, e_GL_a, e_GR, e_GR_a, e_AI, e_AI_a, e_AI_b, e_AB, e_AB_a, e_AB_b, e_AZ, e_AZ_a, e_AZ_b, e_AL, e_AL_a, e_AL_b, e_AR, e_AR_a, e_AR_b, e_Len, e_Len_a, e_CI, e_CI_a, e_CI_b, e_CZ, e_CZ_a, e_And, e_kAnd, e_Or, e_kOr, e_Not, e_kNot, e_B, e_kB, e_T, e_kT, e_NN, e_kNN, e_NewA, e_NewA_a, e_NewC, e_kNewC, e_aN, e_aI, e_aI_a, e_aI_b, e_aL, e_aL_a, e_aL_b, e_aR, e_aR_a, e_aR_b, e_Call, e_kCall, e_CallV, e_kCallV, e_SetI, e_kSetI, e_SetL, e_kSetL, e_SetR, e_kSetR, e_Inc, e_Skip, e_Brk, e_Cnt, e_Ret, e_kRet, e_Ret0, e_Seq, e_kSeq0, e_kSeq1, e_kSeq2, e_kSeqR, e_If, e_kIf, e_Do, e_kDo, e_Sup, e_kN0, e_d3, e_k3a, e_k3b, e_k3c, e_P, e_kPa, e_kPb, e_UA, e_kUAa, e_kUAb, e_kUAc, e_UL, e_kULa, e_kULb, e_kULc, e_UF, e_kUFa, e_kUFb, e_Cp, e_kCp, e_Sw, e_kSwa, e_kSwb0, e_kSwb1, e_kSwbR, e_M1, e_kM1, e_MZ, e_kMZ, e_MN, e_kMN, e_Tv, e_kTv, e_Tc, e_kTc, e_lpS, e_kLp, e_kLpB0, e_kLpB1, e_kLpB2, e_kLpBR, e_kLpU, e_dwS, e_kDwB0, e_kDwC, f_II, f_LL, f_RR, f_IL, f_IR, f_LI, f_LR, f_RI, f_RL, o_iadd, o_isub, o_imul, o_iand, o_ior, o_ixor, o_ladd, o_lsub, o_lmul, o_land, o_lor, o_ishl, o_ishr, o_iushr, o_lshl, o_lshr, o_lcmp, o_i2l, o_l2i, o_i2b, o_i2s, o_lneg, o_ineg, o_imax, o_imin, o_idiv, o_irem, o_ldiv, o_lrem, r_lt, r_le, r_gt, r_ge, r_eq, r_ne, q_lt, q_le, q_gt, q_ge, q_eq, q_ne, decide_eq_true_eq, idI, and_true, true_and, and_false, false_and, or_true, true_or, or_false, false_or, not_true_eq_false, not_false_eq_true, if_true, if_false, ite_self, Bool.not_true, Bool.not_false, Bool.false_eq_true, Bool.true_eq_false, decide_true, decide_false, ne_eq, reduceIte, Nat.reduceEqDiff, Option.some.injEq, Prod.mk.injEq, eq_self, fa_lit, nI_add, pk_mul, nI_ltI, nI_leI, nI_eq, b01, b0, b1, x_hasBit, Nat.reduceLeDiff, Nat.reduceAdd, Nat.reduceMul, Nat.reduceSub, Nat.lt_irrefl, Nat.reduceLT, hO.koX, hO.k32, hO.k33, hO.k34, hO.k67, hO.k68, hO.k69, hO.k70, hO.k71, hO.k100, hO.k101, hO.k115, hO.k116, hO.k117, hO.k118, hO.k119, hO.k120, hO.k121, hO.roX_0, hO.roX_1, hO.roX_2, hO.roX_3, hO.roX_4, hO.roX_5, hO.roX_6, hO.roX_7, hO.roX_8, hO.roX_9, hO.roX_10, hO.roX_11, hO.roX_12, hO.roX_13, hO.r32_0, hO.r68_0, hO.r68_1, hO.r68_2, hO.r100_0, hO.r115_2, hO.r115_3, hO.r118_1, fa_litL, hi1, c4]
    · have hO := hO2.to hI.1
      simp (disch := omega) only [ob_t, ob_n, ob_ite, e_cI, e_cL, e_cR, e_vI, e_vL, e_vR, e_d2, e_d2_a, e_d2_b, e_d2z, e_d2z_a, e_d2z_b, e_d1, e_d1_a, e_GI, e_GI_a, e_GL, e_GL_a, e_GR, e_GR_a, e_AI, e_AI_a, e_AI_b, e_AB, e_AB_a, e_AB_b, e_AZ, e_AZ_a, e_AZ_b, e_AL, e_AL_a, e_AL_b, e_AR, e_AR_a, e_AR_b, e_Len, e_Len_a, e_CI, e_CI_a, e_CI_b, e_CZ, e_CZ_a, e_And, e_kAnd, e_Or, e_kOr, e_Not, e_kNot, e_B, e_kB, e_T, e_kT, e_NN, e_kNN, e_NewA, e_NewA_a, e_NewC, e_kNewC, e_aN, e_aI, e_aI_a, e_aI_b, e_aL, e_aL_a, e_aL_b, e_aR, e_aR_a, e_aR_b, e_Call, e_kCall, e_CallV, e_kCallV, e_SetI, e_kSetI, e_SetL, e_kSetL, e_SetR, e_kSetR, e_Inc, e_Skip, e_Brk, e_Cnt, e_Ret, e_kRet, e_Ret0, e_Seq, e_kSeq0, e_kSeq1, e_kSeq2, e_kSeqR, e_If, e_kIf, e_Do, e_kDo, e_Sup, e_kN0, e_d3, e_k3a, e_k3b, e_k3c, e_P, e_kPa, e_kPb, e_UA, e_kUAa, e_kUAb, e_kUAc, e_UL, e_kULa, e_kULb, e_kULc, e_UF, e_kUFa, e_kUFb, e_Cp, e_kCp, e_Sw, e_kSwa, e_kSwb0, e_kSwb1, e_kSwbR, e_M1, e_kM1, e_MZ, e_kMZ, e_MN, e_kMN, e_Tv, e_kTv, e_Tc, e_kTc, e_lpS, e_kLp, e_kLpB0, e_kLpB1, e_kLpB2, e_kLpBR, e_kLpU, e_dwS, e_kDwB0, e_kDwC, f_II, f_LL, f_RR, f_IL, f_IR, f_LI, f_LR, f_RI, f_RL, o_iadd, o_isub, o_imul, o_iand, o_ior, o_ixor, o_ladd, o_lsub, o_lmul, o_land, o_lor, o_ishl, o_ishr, o_iushr, o_lshl, o_lshr, o_lcmp, o_i2l, o_l2i, o_i2b, o_i2s, o_lneg, o_ineg, o_imax, o_imin, o_idiv, o_irem, o_ldiv, o_lrem, r_lt, r_le, r_gt, r_ge, r_eq, r_ne, q_lt, q_le, q_gt, q_ge, q_eq, q_ne, decide_eq_true_eq, idI, and_true, true_and, and_false, false_and, or_true, true_or, or_false, false_or, not_true_eq_false, not_false_eq_true, if_true, if_false, ite_self, Bool.not_true, Bool.not_false, Bool.false_eq_true, Bool.true_eq_false, decide_true, decide_false, ne_eq, reduceIte, Nat.reduceEqDiff, Option.some.injEq, Prod.mk.injEq, eq_self, fa_lit, nI_add, pk_mul, nI_ltI, nI_leI, nI_eq, b01, b0, b1, x_hasBit, Nat.reduceLeDiff, Nat.reduceAdd, Nat.reduceMul, Nat.reduceSub, Nat.lt_irrefl, Nat.reduceLT, hO.koX, hO.k32, hO.k33, hO.k34, hO.k67, hO.k68, hO.k69, hO.k70, hO.k71, hO.k100, hO.k101, hO.k115, hO.k116, hO.k117, hO.k118, hO.k119, hO.k120, hO.k121, hO.roX_0, hO.roX_1, hO.roX_2, hO.roX_3, hO.roX_4, hO.roX_5, hO.roX_6, hO.roX_7, hO.roX_8, hO.roX_9, hO.roX_10, hO.roX_11, hO.roX_12, hO.roX_13, hO.r32_0, hO.r68_0, hO.r68_1, hO.r68_2, hO.r100_0, hO.r115_2, hO.r115_3, hO.r118_1, fa_litL]
  have qa : Ch (fun o => 68 < o ∧ o < 72) h g3 := (q2.mono (fun o ho => by omega)).tr (q3.mono (fun o ho => by have : o = 71 := ho; omega))
  refine ⟨g3, ?_, H.slot qa (fun o ho => by omega), by rw [(q3.2 69 (by omega)).1]; exact v69, by rw [(q3.2 70 (by omega)).1]; exact v70⟩
  have hr2 := q2.1.1
  have hk2 := q2.1.2.1
  have hrg : hr g1 = hr h := by rw [hg1]; rfl
  have hkg : hk g1 = hk h := by rw [hg1]; rfl
  simp (disch := omega) only [ob_t, ob_n, ob_ite, e_cI, e_cL, e_cR, e_vI, e_vL, e_vR, e_d2, e_d2_a, e_d2_b, e_d2z, e_d2z_a, e_d2z_b, e_d1, e_d1_a, e_GI, e_GI_a, e_GL, e_GL_a, e_GR, e_GR_a, e_AI, e_AI_a, e_AI_b, e_AB, e_AB_a, e_AB_b, e_AZ, e_AZ_a, e_AZ_b, e_AL, e_AL_a, e_AL_b, e_AR, e_AR_a, e_AR_b, e_Len, e_Len_a, e_CI, e_CI_a, e_CI_b, e_CZ, e_CZ_a, e_And, e_kAnd, e_Or, e_kOr, e_Not, e_kNot, e_B, e_kB, e_T, e_kT, e_NN, e_kNN, e_NewA, e_NewA_a, e_NewC, e_kNewC, e_aN, e_aI, e_aI_a, e_aI_b, e_aL, e_aL_a, e_aL_b, e_aR, e_aR_a, e_aR_b, e_Call, e_kCall, e_CallV, e_kCallV, e_SetI, e_kSetI, e_SetL, e_kSetL, e_SetR, e_kSetR, e_Inc, e_Skip, e_Brk, e_Cnt, e_Ret, e_kRet, e_Ret0, e_Seq, e_kSeq0, e_kSeq1, e_kSeq2, e_kSeqR, e_If, e_kIf, e_Do, e_kDo, e_Sup, e_kN0, e_d3, e_k3a, e_k3b, e_k3c, e_P, e_kPa, e_kPb, e_UA, e_kUAa, e_kUAb, e_kUAc, e_UL, e_kULa, e_kULb, e_kULc, e_UF, e_kUFa, e_kUFb, e_Cp, e_kCp, e_Sw, e_kSwa, e_kSwb0, e_kSwb1, e_kSwbR, e_M1, e_kM1, e_MZ, e_kMZ, e_MN, e_kMN, e_Tv, e_kTv, e_Tc, e_kTc, e_lpS, e_kLp, e_kLpB0, e_kLpB1, e_kLpB2, e_kLpBR, e_kLpU, e_dwS, e_kDwB0, e_kDwC, f_II, f_LL, f_RR, f_IL, f_IR, f_LI, f_LR, f_RI, f_RL, o_iadd, o_isub, o_imul, o_iand, o_ior, o_ixor, o_ladd, o_lsub, o_lmul, o_land, o_lor, o_ishl, o_ishr, o_iushr, o_lshl, o_lshr, o_lcmp, o_i2l, o_l2i, o_i2b, o_i2s, o_lneg, o_ineg, o_imax, o_imin, o_idiv, o_irem, o_ldiv, o_lrem, r_lt, r_le, r_gt, r_ge, r_eq, r_ne, q_lt, q_le, q_gt, q_ge, q_eq, q_ne, decide_eq_true_eq, idI, and_true, true_and, and_false, false_and, or_true, true_or, or_false, false_or, not_true_eq_false, not_false_eq_true, if_true, if_false, ite_self, Bool.not_true, Bool.not_false, Bool.false_eq_true, Bool.true_eq_false, decide_true, decide_false, ne_eq, reduceIte, Nat.reduceEqDiff, Option.some.injEq, Prod.mk.injEq, eq_self, fa_lit, nI_add, pk_mul, nI_ltI, nI_leI, nI_eq, b01, b0, b1, x_hasBit, Nat.reduceLeDiff, Nat.reduceAdd, Nat.reduceMul, Nat.reduceSub, Nat.lt_irrefl, Nat.reduceLT, hO.koX, hO.k32, hO.k33, hO.k34, hO.k67, hO.k68, hO.k69, hO.k70, hO.k71, hO.k100, hO.k101, hO.k115, hO.k116, hO.k117, hO.k118, hO.k119, hO.k120, hO.k121, hO.roX_0, hO.roX_1, hO.roX_2, hO.roX_3, hO.roX_4, hO.roX_5, hO.roX_6, hO.roX_7, hO.roX_8, hO.roX_9, hO.roX_10, hO.roX_11, hO.roX_12, hO.roX_13, hO.r32_0, hO.r68_0, hO.r68_1, hO.r68_2, hO.r100_0, hO.r115_2, hO.r115_3, hO.r118_1, hP.k, hP.k9, hP.r8, hP.r9, hP.r10, hP.r11, hP.r12, hP.r13, hP.r14, hP.r15, hP.r16, hP.c3, hP.c4, hP.c5, hP.c6, hP.c7, hP.c8, n_inb, nI_clamp, w_hr, w_hk, w_hl, w_eq, w_ne, wl_hr, wl_hk, wl_hi, wl_eq, wl_ne, f_ss, f_sR, f_sL, lc0, lc1, lc01, DX11_row, BX11_row, DX8_make, BX8_make, c1, y1, y2, y3, y4, e1, e2, L1, hrg, hkg, hr2, hk2]
theorem c_write (H : Inv W h P) {i v : Nat} (hi2 : i < 2) (hv : v < 100) (v69 : hi h 69 0 = nI 1) (v70 : hi h 70 0 = nI 2) : DX11_write (sL (sI (sI (sR fr0 0 oX) 1 (nI 0)) 2 (nI i)) 3 (lN v)) h = some (nI 0, wL h 71 i (lN v)) ∧ Inv W (wL h 71 i (lN v)) P := by
  have hO := H.co
  have hP := H.ps
  have c4 := x_set (v := lN v) (w := 1) (slot := 0) hO (by decide) (by omega) (by omega) v69 v70 hi2 (by decide)
  have ev : cutV (lN v) (1 - 1) = lN v := by
    have : ∀ v, v < 100 → cutV (lN v) 0 = lN v := by decide +kernel
    exact this v hv
  rw [ev, show 60 * 0 + i = i by omega] at c4
  exact ⟨by simp (disch := omega) only [ob_t, ob_n, ob_ite, e_cI, e_cL, e_cR, e_vI, e_vL, e_vR, e_d2, e_d2_a, e_d2_b, e_d2z, e_d2z_a, e_d2z_b, e_d1, e_d1_a, e_GI, e_GI_a, e_GL, e_GL_a, e_GR, e_GR_a, e_AI, e_AI_a, e_AI_b, e_AB, e_AB_a, e_AB_b, e_AZ, e_AZ_a, e_AZ_b, e_AL, e_AL_a, e_AL_b, e_AR, e_AR_a, e_AR_b, e_Len, e_Len_a, e_CI, e_CI_a, e_CI_b, e_CZ, e_CZ_a, e_And, e_kAnd, e_Or, e_kOr, e_Not, e_kNot, e_B, e_kB, e_T, e_kT, e_NN, e_kNN, e_NewA, e_NewA_a, e_NewC, e_kNewC, e_aN, e_aI, e_aI_a, e_aI_b, e_aL, e_aL_a, e_aL_b, e_aR, e_aR_a, e_aR_b, e_Call, e_kCall, e_CallV, e_kCallV, e_SetI, e_kSetI, e_SetL, e_kSetL, e_SetR, e_kSetR, e_Inc, e_Skip, e_Brk, e_Cnt, e_Ret, e_kRet, e_Ret0, e_Seq, e_kSeq0, e_kSeq1, e_kSeq2, e_kSeqR, e_If, e_kIf, e_Do, e_kDo, e_Sup, e_kN0, e_d3, e_k3a, e_k3b, e_k3c, e_P, e_kPa, e_kPb, e_UA, e_kUAa, e_kUAb, e_kUAc, e_UL, e_kULa, e_kULb, e_kULc, e_UF, e_kUFa, e_kUFb, e_Cp, e_kCp, e_Sw, e_kSwa, e_kSwb0, e_kSwb1, e_kSwbR, e_M1, e_kM1, e_MZ, e_kMZ, e_MN, e_kMN, e_Tv, e_kTv, e_Tc, e_kTc, e_lpS, e_kLp, e_kLpB0, e_kLpB1, e_kLpB2, e_kLpBR, e_kLpU, e_dwS, e_kDwB0, e_kDwC, f_II, f_LL, f_RR, f_IL, f_IR, f_LI, f_LR, f_RI, f_RL, o_iadd, o_isub, o_imul, o_iand, o_ior, o_ixor, o_ladd, o_lsub, o_lmul, o_land, o_lor, o_ishl, o_ishr, o_iushr, o_lshl, o_lshr, o_lcmp, o_i2l, o_l2i, o_i2b, o_i2s, o_lneg, o_ineg, o_imax, o_imin, o_idiv, o_irem, o_ldiv, o_lrem, r_lt, r_le, r_gt, r_ge, r_eq, r_ne, q_lt, q_le, q_gt, q_ge, q_eq, q_ne, decide_eq_true_eq, idI, and_true, true_and, and_false, false_and, or_true, true_or, or_false, false_or, not_true_eq_false, not_false_eq_true, if_true, if_false, ite_self, Bool.not_true, Bool.not_false, Bool.false_eq_true, Bool.true_eq_false, decide_true, decide_false, ne_eq, reduceIte, Nat.reduceEqDiff, Option.some.injEq, Prod.mk.injEq, eq_self, fa_lit, nI_add, pk_mul, nI_ltI, nI_leI, nI_eq, b01, b0, b1, x_hasBit, Nat.reduceLeDiff, Nat.reduceAdd, Nat.reduceMul, Nat.reduceSub, Nat.lt_irrefl, Nat.reduceLT, hO.koX, hO.k32, hO.k33, hO.k34, hO.k67, hO.k68, hO.k69, hO.k70, hO.k71, hO.k100, hO.k101, hO.k115, hO.k116, hO.k117, hO.k118, hO.k119, hO.k120, hO.k121, hO.roX_0, hO.roX_1, hO.roX_2, hO.roX_3, hO.roX_4, hO.roX_5, hO.roX_6, hO.roX_7, hO.roX_8, hO.roX_9, hO.roX_10, hO.roX_11, hO.roX_12, hO.roX_13, hO.r32_0, hO.r68_0, hO.r68_1, hO.r68_2, hO.r100_0, hO.r115_2, hO.r115_3, hO.r118_1, hP.k, hP.k9, hP.r8, hP.r9, hP.r10, hP.r11, hP.r12, hP.r13, hP.r14, hP.r15, hP.r16, hP.c3, hP.c4, hP.c5, hP.c6, hP.c7, hP.c8, n_inb, nI_clamp, w_hr, w_hk, w_hl, w_eq, w_ne, wl_hr, wl_hk, wl_hi, wl_eq, wl_ne, f_ss, f_sR, f_sL, lc0, lc1, lc01, DX11_write, BX11_write, c4], H.slot (Ch.wl (D := fun o => o = 71) (r := 71) rfl h i _) (fun o ho => by have : o = 71 := ho; omega)⟩
theorem c_count (H : Inv W h P) : DX11_count (sI (sR fr0 0 oX) 1 (nI 8)) h = some (nI (P 9 2), h) := by
  have hO := H.co
  have hP := H.ps
  have y2 := H.pg.2.1.cs (k := 2) (by decide)
  simp (disch := omega) only [ob_t, ob_n, ob_ite, e_cI, e_cL, e_cR, e_vI, e_vL, e_vR, e_d2, e_d2_a, e_d2_b, e_d2z, e_d2z_a, e_d2z_b, e_d1, e_d1_a, e_GI, e_GI_a, e_GL, e_GL_a, e_GR, e_GR_a, e_AI, e_AI_a, e_AI_b, e_AB, e_AB_a, e_AB_b, e_AZ, e_AZ_a, e_AZ_b, e_AL, e_AL_a, e_AL_b, e_AR, e_AR_a, e_AR_b, e_Len, e_Len_a, e_CI, e_CI_a, e_CI_b, e_CZ, e_CZ_a, e_And, e_kAnd, e_Or, e_kOr, e_Not, e_kNot, e_B, e_kB, e_T, e_kT, e_NN, e_kNN, e_NewA, e_NewA_a, e_NewC, e_kNewC, e_aN, e_aI, e_aI_a, e_aI_b, e_aL, e_aL_a, e_aL_b, e_aR, e_aR_a, e_aR_b, e_Call, e_kCall, e_CallV, e_kCallV, e_SetI, e_kSetI, e_SetL, e_kSetL, e_SetR, e_kSetR, e_Inc, e_Skip, e_Brk, e_Cnt, e_Ret, e_kRet, e_Ret0, e_Seq, e_kSeq0, e_kSeq1, e_kSeq2, e_kSeqR, e_If, e_kIf, e_Do, e_kDo, e_Sup, e_kN0, e_d3, e_k3a, e_k3b, e_k3c, e_P, e_kPa, e_kPb, e_UA, e_kUAa, e_kUAb, e_kUAc, e_UL, e_kULa, e_kULb, e_kULc, e_UF, e_kUFa, e_kUFb, e_Cp, e_kCp, e_Sw, e_kSwa, e_kSwb0, e_kSwb1, e_kSwbR, e_M1, e_kM1, e_MZ, e_kMZ, e_MN, e_kMN, e_Tv, e_kTv, e_Tc, e_kTc, e_lpS, e_kLp, e_kLpB0, e_kLpB1, e_kLpB2, e_kLpBR, e_kLpU, e_dwS, e_kDwB0, e_kDwC, f_II, f_LL, f_RR, f_IL, f_IR, f_LI, f_LR, f_RI, f_RL, o_iadd, o_isub, o_imul, o_iand, o_ior, o_ixor, o_ladd, o_lsub, o_lmul, o_land, o_lor, o_ishl, o_ishr, o_iushr, o_lshl, o_lshr, o_lcmp, o_i2l, o_l2i, o_i2b, o_i2s, o_lneg, o_ineg, o_imax, o_imin, o_idiv, o_irem, o_ldiv, o_lrem, r_lt, r_le, r_gt, r_ge, r_eq, r_ne, q_lt, q_le, q_gt, q_ge, q_eq, q_ne, decide_eq_true_eq, idI, and_true, true_and, and_false, false_and, or_true, true_or, or_false, false_or, not_true_eq_false, not_false_eq_true, if_true, if_false, ite_self, Bool.not_true, Bool.not_false, Bool.false_eq_true, Bool.true_eq_false, decide_true, decide_false, ne_eq, reduceIte, Nat.reduceEqDiff, Option.some.injEq, Prod.mk.injEq, eq_self, fa_lit, nI_add, pk_mul, nI_ltI, nI_leI, nI_eq, b01, b0, b1, x_hasBit, Nat.reduceLeDiff, Nat.reduceAdd, Nat.reduceMul, Nat.reduceSub, Nat.lt_irrefl, Nat.reduceLT, hO.koX, hO.k32, hO.k33, hO.k34, hO.k67, hO.k68, hO.k69, hO.k70, hO.k71, hO.k100, hO.k101, hO.k115, hO.k116, hO.k117, hO.k118, hO.k119, hO.k120, hO.k121, hO.roX_0, hO.roX_1, hO.roX_2, hO.roX_3, hO.roX_4, hO.roX_5, hO.roX_6, hO.roX_7, hO.roX_8, hO.roX_9, hO.roX_10, hO.roX_11, hO.roX_12, hO.roX_13, hO.r32_0, hO.r68_0, hO.r68_1, hO.r68_2, hO.r100_0, hO.r115_2, hO.r115_3, hO.r118_1, hP.k, hP.k9, hP.r8, hP.r9, hP.r10, hP.r11, hP.r12, hP.r13, hP.r14, hP.r15, hP.r16, hP.c3, hP.c4, hP.c5, hP.c6, hP.c7, hP.c8, n_inb, nI_clamp, w_hr, w_hk, w_hl, w_eq, w_ne, wl_hr, wl_hk, wl_hi, wl_eq, wl_ne, f_ss, f_sR, f_sL, lc0, lc1, lc01, DX11_count, BX11_count, -e_kSwa, sw_0, List.getD_cons_zero, List.getD_cons_succ, y2]
/-- a rubbing out, told -/
theorem WFP_rub (hW : WFP P) {s i : Nat} (hs : s < P 0 7) (hi1 : i < P 7 s) (ha : P 9 2 < 20) : WFP (rubP P s i) := by
  have e : ∀ j k, (j < 9 ∨ (10 ≤ j ∧ j ≤ 13) ∨ (j = 9 ∧ k ≠ 2) ∨ (14 ≤ j ∧ k ≠ P 9 2)) → rubP P s i j k = P j k := fun j k q => rubP_lo P s i k q
  have t := told_f hW (Or.inl (by omega))
  unfold WFP at hW ⊢
  obtain ⟨w1, w2, w3, w4, w5, w6, w7, w8, w9, w10, w11, w12, w13, w14, w15, w16, w17, w18, w19, w20, w21⟩ := hW
  simp only [fun k => e 0 k (by omega), fun k => e 1 k (by omega), fun k => e 2 k (by omega), fun k => e 3 k (by omega), fun k => e 4 k (by omega), fun k => e 5 k (by omega), fun k => e 6 k (by omega), fun k => e 7 k (by omega), fun k => e 8 k (by omega), fun k => e 10 k (by omega), fun k => e 11 k (by omega), fun k => e 12 k (by omega), fun k => e 13 k (by omega), e 9 0 (by omega), e 9 1 (by omega), rubP_2]
  refine ⟨w1, w2, w3, w4, w5, w6, w7, w8, w9, by omega, w11, by omega, w13, fun z => absurd z (by omega), w15, w16, w17, w18, w19, w20, fun k hk1 => ?_⟩
  by_cases y : k = P 9 2
  · subst y
    rw [rubP_14, rubP_15, show s + 1 - 1 = s by omega]
    omega
  · rw [e 14 k (by omega), e 15 k (by omega)]
    exact w21 k (by omega)
theorem c_rub (H : Inv W h P) {s i : Nat} (hs : s < P 0 7) (hi1 : i < P 7 s) (ha : P 9 2 < 20) : ∃ g, DX11_rub (sI (sI (sR fr0 0 oX) 1 (nI s)) 2 (nI i)) h = some (if (lf0 P s).testBit i = true then nI 1 else nI 0, g) ∧ Inv W g (rubP P s i) := by
  have hO := H.co
  have hP := H.ps
  have hcc := o_is
  have hW := H.w
  have hb := H.w.all
  have c1 := G_slate H.pg (nI s)
  rw [if_pos (n_in hs (by omega))] at c1
  have hq := H.w.sl hs
  have c2 := G_word H.pg hs (nI i)
  rw [if_pos (n_in hi1 (by omega))] at c2
  have y2 := H.pg.2.1.cs (k := 2) (by decide)
  have y3 : (nI 20 ≤ nI (P 9 2)) = False := by rw [nI_leI (by decide) (by omega)]; exact eq_false (by omega)
  have c3 := x_leftAtFirst hP H.pg.2.1 hW hs
  have hlf := lf0_lt hW hs
  have hlf2 : lf0 P s < 2 ^ 31 := Nat.lt_of_lt_of_le hlf (Nat.pow_le_pow_right (by decide) (by omega))
  have c5 := x_hasBit (b := lf0 P s) (i := i) hlf2 (by omega) h
  have c6 := x_addAct hO hP (nI s) (nI i) ha y2
  obtain ⟨h2, hh2⟩ : ∃ x, x = wI (wI (wI h (oP + 14) (P 9 2) (nI s)) (oP + 15) (P 9 2) (nI i)) (oP + 9) 2 (nI (P 9 2 + 1)) := ⟨_, rfl⟩
  rw [← hh2] at c6
  have q2 : Ch (fun o => o = 44 ∨ o = 49 ∨ o = 50) h h2 := by
    rw [hh2]
    exact ((Ch.w (D := fun o => o = 44 ∨ o = 49 ∨ o = 50) (by omega) h _ _).tr (Ch.w (D := fun o => o = 44 ∨ o = 49 ∨ o = 50) (by omega) _ _ _)).tr (Ch.w (D := fun o => o = 44 ∨ o = 49 ∨ o = 50) (by omega) _ _ _)
  obtain ⟨g, c7, q3, s1, s2, s3, s4, s5⟩ := x_stale (H.co.to q2.1) (H.ds.to q2.1) (H.as.to q2.1)
  have hr2 := q2.1.1
  have hk2 := q2.1.2.1
  have hg2 : ∀ r, r ≠ 72 → r ≠ 102 → r ≠ 115 → ∀ k, hi g r k = hi h2 r k := fun r r1 r2 r3 k => s5 r r1 r2 r3 k
  have hg : ∀ r, r ≠ 44 → r ≠ 49 → r ≠ 50 → r ≠ 72 → r ≠ 102 → r ≠ 115 → ∀ k, hi g r k = hi h r k := fun r r0 ra rb r1 r2 r3 k => by
    rw [s5 r r1 r2 r3 k, (q2.2 r (by omega)).1]
  have hRP := H.pg.2.1
  refine ⟨g, ?_, H.toP (((q2.mono (fun o ho => by show 44 ≤ o ∧ o < 122 ∧ ¬ (87 ≤ o ∧ o < 95); omega)).tr (q3.mono (fun o ho => by unfold stD at ho; show 44 ≤ o ∧ o < 122 ∧ ¬ (87 ≤ o ∧ o < 95); omega)))) (fun o ho => by omega) ⟨fun j k hin => ?_, fun k hk1 => ?_⟩ (WFP_rub hW hs hi1 ha) (Or.inl ⟨s1, ?_⟩) s2 s3⟩
  · by_cases tb : (lf0 P s).testBit i = true
    · rw [if_pos tb] at c5
      rw [if_pos tb]
      simp (disch := omega) only [ob_t, ob_n, ob_ite, e_cI, e_cL, e_cR, e_vI, e_vL, e_vR, e_d2, e_d2_a, e_d2_b, e_d2z, e_d2z_a, e_d2z_b, e_d1, e_d1_a, e_GI, e_GI_a, e_GL, e_GL_a, e_GR, e_GR_a, e_AI, e_AI_a, e_AI_b, e_AB, e_AB_a, e_AB_b, e_AZ, e_AZ_a, e_AZ_b, e_AL, e_AL_a, e_AL_b, e_AR, e_AR_a, e_AR_b, e_Len, e_Len_a, e_CI, e_CI_a, e_CI_b, e_CZ, e_CZ_a, e_And, e_kAnd, e_Or, e_kOr, e_Not, e_kNot, e_B, e_kB, e_T, e_kT, e_NN, e_kNN, e_NewA, e_NewA_a, e_NewC, e_kNewC, e_aN, e_aI, e_aI_a, e_aI_b, e_aL, e_aL_a, e_aL_b, e_aR, e_aR_a, e_aR_b, e_Call, e_kCall, e_CallV, e_kCallV, e_SetI, e_kSetI, e_SetL, e_kSetL, e_SetR, e_kSetR, e_Inc, e_Skip, e_Brk, e_Cnt, e_Ret, e_kRet, e_Ret0, e_Seq, e_kSeq0, e_kSeq1, e_kSeq2, e_kSeqR, e_If, e_kIf, e_Do, e_kDo, e_Sup, e_kN0, e_d3, e_k3a, e_k3b, e_k3c, e_P, e_kPa, e_kPb, e_UA, e_kUAa, e_kUAb, e_kUAc, e_UL, e_kULa, e_kULb, e_kULc, e_UF, e_kUFa, e_kUFb, e_Cp, e_kCp, e_Sw, e_kSwa, e_kSwb0, e_kSwb1, e_kSwbR, e_M1, e_kM1, e_MZ, e_kMZ, e_MN, e_kMN, e_Tv, e_kTv, e_Tc, e_kTc, e_lpS, e_kLp, e_kLpB0, e_kLpB1, e_kLpB2, e_kLpBR, e_kLpU, e_dwS, e_kDwB0, e_kDwC, f_II, f_LL, f_RR, f_IL, f_IR, f_LI, f_LR, f_RI, f_RL, o_iadd, o_isub, o_imul, o_iand, o_ior, o_ixor, o_ladd, o_lsub, o_lmul, o_land, o_lor, o_ishl, o_ishr, o_iushr, o_lshl, o_lshr, o_lcmp, o_i2l, o_l2i, o_i2b, o_i2s, o_lneg, o_ineg, o_imax, o_imin, o_idiv, o_irem, o_ldiv, o_lrem, r_lt, r_le, r_gt, r_ge, r_eq, r_ne, q_lt, q_le, q_gt, q_ge, q_eq, q_ne, decide_eq_true_eq, idI, and_true, true_and, and_false, false_and, or_true, true_or, or_false, false_or, not_true_eq_false, not_false_eq_true, if_true, if_false, ite_self, Bool.not_true, Bool.not_false, Bool.false_eq_true, Bool.true_eq_false, decide_true, decide_false, ne_eq, reduceIte, Nat.reduceEqDiff, Option.some.injEq, Prod.mk.injEq, eq_self, fa_lit, nI_add, pk_mul, nI_ltI, nI_leI, nI_eq, b01, b0, b1, x_hasBit, Nat.reduceLeDiff, Nat.reduceAdd, Nat.reduceMul, Nat.reduceSub, Nat.lt_irrefl, Nat.reduceLT, hO.koX, hO.k32, hO.k33, hO.k34, hO.k67, hO.k68, hO.k69, hO.k70, hO.k71, hO.k100, hO.k101, hO.k115, hO.k116, hO.k117, hO.k118, hO.k119, hO.k120, hO.k121, hO.roX_0, hO.roX_1, hO.roX_2, hO.roX_3, hO.roX_4, hO.roX_5, hO.roX_6, hO.roX_7, hO.roX_8, hO.roX_9, hO.roX_10, hO.roX_11, hO.roX_12, hO.roX_13, hO.r32_0, hO.r68_0, hO.r68_1, hO.r68_2, hO.r100_0, hO.r115_2, hO.r115_3, hO.r118_1, hP.k, hP.k9, hP.r8, hP.r9, hP.r10, hP.r11, hP.r12, hP.r13, hP.r14, hP.r15, hP.r16, hP.c3, hP.c4, hP.c5, hP.c6, hP.c7, hP.c8, n_inb, nI_clamp, w_hr, w_hk, w_hl, w_eq, w_ne, wl_hr, wl_hk, wl_hi, wl_eq, wl_ne, f_ss, f_sR, f_sL, lc0, lc1, lc01, DX11_rub, BX11_rub, c1, c2, y2, y3, c3, c5, c6, c7, hr2, hk2]
    · rw [if_neg tb] at c5
      rw [if_neg tb]
      simp (disch := omega) only [ob_t, ob_n, ob_ite, e_cI, e_cL, e_cR, e_vI, e_vL, e_vR, e_d2, e_d2_a, e_d2_b, e_d2z, e_d2z_a, e_d2z_b, e_d1, e_d1_a, e_GI, e_GI_a, e_GL, e_GL_a, e_GR, e_GR_a, e_AI, e_AI_a, e_AI_b, e_AB, e_AB_a, e_AB_b, e_AZ, e_AZ_a, e_AZ_b, e_AL, e_AL_a, e_AL_b, e_AR, e_AR_a, e_AR_b, e_Len, e_Len_a, e_CI, e_CI_a, e_CI_b, e_CZ, e_CZ_a, e_And, e_kAnd, e_Or, e_kOr, e_Not, e_kNot, e_B, e_kB, e_T, e_kT, e_NN, e_kNN, e_NewA, e_NewA_a, e_NewC, e_kNewC, e_aN, e_aI, e_aI_a, e_aI_b, e_aL, e_aL_a, e_aL_b, e_aR, e_aR_a, e_aR_b, e_Call, e_kCall, e_CallV, e_kCallV, e_SetI, e_kSetI, e_SetL, e_kSetL, e_SetR, e_kSetR, e_Inc, e_Skip, e_Brk, e_Cnt, e_Ret, e_kRet, e_Ret0, e_Seq, e_kSeq0, e_kSeq1, e_kSeq2, e_kSeqR, e_If, e_kIf, e_Do, e_kDo, e_Sup, e_kN0, e_d3, e_k3a, e_k3b, e_k3c, e_P, e_kPa, e_kPb, e_UA, e_kUAa, e_kUAb, e_kUAc, e_UL, e_kULa, e_kULb, e_kULc, e_UF, e_kUFa, e_kUFb, e_Cp, e_kCp, e_Sw, e_kSwa, e_kSwb0, e_kSwb1, e_kSwbR, e_M1, e_kM1, e_MZ, e_kMZ, e_MN, e_kMN, e_Tv, e_kTv, e_Tc, e_kTc, e_lpS, e_kLp, e_kLpB0, e_kLpB1, e_kLpB2, e_kLpBR, e_kLpU, e_dwS, e_kDwB0, e_kDwC, f_II, f_LL, f_RR, f_IL, f_IR, f_LI, f_LR, f_RI, f_RL, o_iadd, o_isub, o_imul, o_iand, o_ior, o_ixor, o_ladd, o_lsub, o_lmul, o_land, o_lor, o_ishl, o_ishr, o_iushr, o_lshl, o_lshr, o_lcmp, o_i2l, o_l2i, o_i2b, o_i2s, o_lneg, o_ineg, o_imax, o_imin, o_idiv, o_irem, o_ldiv, o_lrem, r_lt, r_le, r_gt, r_ge, r_eq, r_ne, q_lt, q_le, q_gt, q_ge, q_eq, q_ne, decide_eq_true_eq, idI, and_true, true_and, and_false, false_and, or_true, true_or, or_false, false_or, not_true_eq_false, not_false_eq_true, if_true, if_false, ite_self, Bool.not_true, Bool.not_false, Bool.false_eq_true, Bool.true_eq_false, decide_true, decide_false, ne_eq, reduceIte, Nat.reduceEqDiff, Option.some.injEq, Prod.mk.injEq, eq_self, fa_lit, nI_add, pk_mul, nI_ltI, nI_leI, nI_eq, b01, b0, b1, x_hasBit, Nat.reduceLeDiff, Nat.reduceAdd, Nat.reduceMul, Nat.reduceSub, Nat.lt_irrefl, Nat.reduceLT, hO.koX, hO.k32, hO.k33, hO.k34, hO.k67, hO.k68, hO.k69, hO.k70, hO.k71, hO.k100, hO.k101, hO.k115, hO.k116, hO.k117, hO.k118, hO.k119, hO.k120, hO.k121, hO.roX_0, hO.roX_1, hO.roX_2, hO.roX_3, hO.roX_4, hO.roX_5, hO.roX_6, hO.roX_7, hO.roX_8, hO.roX_9, hO.roX_10, hO.roX_11, hO.roX_12, hO.roX_13, hO.r32_0, hO.r68_0, hO.r68_1, hO.r68_2, hO.r100_0, hO.r115_2, hO.r115_3, hO.r118_1, hP.k, hP.k9, hP.r8, hP.r9, hP.r10, hP.r11, hP.r12, hP.r13, hP.r14, hP.r15, hP.r16, hP.c3, hP.c4, hP.c5, hP.c6, hP.c7, hP.c8, n_inb, nI_clamp, w_hr, w_hk, w_hl, w_eq, w_ne, wl_hr, wl_hk, wl_hi, wl_eq, wl_ne, f_ss, f_sR, f_sL, lc0, lc1, lc01, DX11_rub, BX11_rub, c1, c2, y2, y3, c3, c5, c6, c7, hr2, hk2]
  · by_cases j9 : j < 9
    · rw [rubP_lo P s i k (by omega), hg _ (by omega) (by omega) (by omega) (by omega) (by omega) (by omega)]
      exact hRP.1 j k (hin.lo (fun k => rubP_lo P s i k (by omega)) (fun k => rubP_lo P s i k (by omega)) j9)
    · by_cases e9 : j = 9
      · subst e9
        rw [hg2 _ (by omega) (by omega) (by omega), hh2]
        by_cases ek : k = 2
        · subst ek
          rw [w_eq, rubP_2]
        · rw [w_ne (by omega), w_ne (by omega), w_ne (by omega), rubP_lo P s i k (by omega)]
          exact hRP.cs hin.k3
      · have hu := hin.up (by omega)
        rw [rubP_lo P s i 1 (by omega)] at hu
        rw [rubP_lo P s i k (by omega), hg _ (by omega) (by omega) (by omega) (by omega) (by omega) (by omega)]
        exact hRP.1 j k (by unfold PIn; omega)
  · rw [rubP_2] at hk1
    rw [hg2 _ (by omega) (by omega) (by omega), hg2 _ (by omega) (by omega) (by omega), hh2]
    by_cases ek : k = P 9 2
    · subst ek
      rw [rubP_14, rubP_15, w_ne (by omega), w_ne (by omega), w_eq, w_ne (by omega), w_eq]
      exact ⟨(pk_m1 s).symm, (pk_m1 i).symm⟩
    · rw [rubP_lo P s i k (by omega), rubP_lo P s i k (by omega), w_ne (by omega), w_ne (by omega), w_ne (by omega), w_ne (by omega), w_ne (by omega), w_ne (by omega)]
      exact hRP.2 k (by omega)
  · obtain ⟨S, hS⟩ := H.fr.rc
    exact ⟨S, fun j k hjk => by
      have := hjk.1
      rw [hg _ (by omega) (by omega) (by omega) (by omega) (by omega) (by omega)]
      exact hS j k hjk⟩
theorem WFP_car (hW : WFP P) {m s w d : Nat} (hm1 : m < P 0 6) (hs : s < P 0 7) (hw : w < P 0 4) (hd : d < P 0 1) (ha : P 9 2 < 20) (hn1 : P 9 1 < 32) : WFP (carP P m s w d) := by
  have t := told_f hW (Or.inl (by omega))
  have e : ∀ j k, (j < 9 ∨ (10 ≤ j ∧ j ≤ 13 ∧ k ≠ P 9 1) ∨ (j = 9 ∧ k ≠ 2 ∧ k ≠ 1) ∨ (14 ≤ j ∧ k ≠ P 9 2)) → carP P m s w d j k = P j k := fun j k q => carP_lo P m s w d k q
  unfold WFP at hW ⊢
  obtain ⟨w1, w2, w3, w4, w5, w6, w7, w8, w9, w10, w11, w12, w13, w14, w15, w16, w17, w18, w19, w20, w21⟩ := hW
  simp only [fun k => e 0 k (by omega), fun k => e 1 k (by omega), fun k => e 2 k (by omega), fun k => e 3 k (by omega), fun k => e 4 k (by omega), fun k => e 5 k (by omega), fun k => e 6 k (by omega), fun k => e 7 k (by omega), fun k => e 8 k (by omega), e 9 0 (by omega), carP_1, carP_2]
  refine ⟨w1, w2, w3, w4, w5, w6, w7, w8, by omega, by omega, by omega, by omega, w13, fun z => absurd z (by omega), w15, w16, w17, w18, w19, fun k hk1 => ?_, fun k hk1 => ?_⟩
  · by_cases y : k = P 9 1
    · subst y
      rw [carP_10, carP_11, carP_12, carP_13]
      exact ⟨hm1, hs, hw, by omega⟩
    · rw [e 10 k (by omega), e 11 k (by omega), e 12 k (by omega), e 13 k (by omega)]
      exact w20 k (by omega)
  · by_cases y : k = P 9 2
    · subst y
      exact Or.inl (carP_15 P m s w d)
    · rw [e 14 k (by omega), e 15 k (by omega)]
      exact w21 k (by omega)
theorem c_carry (H : Inv W h P) {m s a d : Nat} (hm1 : m < P 0 6) (hs : s < P 0 7) (ha4 : a < P 0 4) (hd1 : d < P 0 1) (ha : P 9 2 < 20) (hn1 : P 9 1 < 32) : ∃ g, DX11_carry (sI (sI (sI (sI (sR fr0 0 oX) 1 (nI m)) 2 (nI s)) 3 (nI a)) 4 (nI d)) h = some (if tdN (carP P m s a d) (P 0 1) 6 (P 9 1) = 0 then nI 1 else nI 0, g) ∧ Inv W g (carP P m s a d) := by
  have hO := H.co
  have hP := H.ps
  have hcc := o_is
  have hW := H.w
  have hb := H.w.all
  have c1 := G_alone H (nI m) (nI s)
  rw [if_pos ⟨n_in hm1 (by omega), n_in hs (by omega)⟩] at c1
  have c2 := G_house H.pg (nI a)
  rw [if_pos (n_in ha4 (by omega))] at c2
  have c3 := G_ahead H.pg (nI d)
  rw [if_pos (n_in hd1 (by omega))] at c3
  have y2 := H.pg.2.1.cs (k := 2) (by decide)
  have y1 := H.pg.2.1.cs (k := 1) (by decide)
  have y3 : (nI 20 ≤ nI (P 9 2)) = False := by rw [nI_leI (by decide) (by omega)]; exact eq_false (by omega)
  have hW' := WFP_car hW hm1 hs ha4 hd1 ha hn1
  have c4 := x_add hO hP (nI m) (nI s) (nI a) (nI d) (n := P 9 1) hn1 y1
  obtain ⟨h1, hh1⟩ : ∃ x, x = wI (wI (wI (wI (wI h (oP + 10) (P 9 1) (nI m)) (oP + 11) (P 9 1) (nI s)) (oP + 12) (P 9 1) (nI a)) (oP + 13) (P 9 1) (nI d)) (oP + 9) 1 (nI (P 9 1 + 1)) := ⟨_, rfl⟩
  have kh : SH h h1 := by rw [hh1]; exact ⟨rfl, rfl, rfl, rfl⟩
  have c5 := x_addAct (hO.to kh) (hP.to kh) (-nI 1) (-nI 1) ha (by rw [hh1, w_ne (by omega), w_ne (by omega), w_ne (by omega), w_ne (by omega), w_ne (by omega)]; exact y2)
  rw [← hh1] at c4
  have eh : wI (wI (wI h1 (oP + 14) (P 9 2) (-nI 1)) (oP + 15) (P 9 2) (-nI 1)) (oP + 9) 2 (nI (P 9 2 + 1)) = carH h P m s a d := by rw [hh1]; rfl
  rw [eh] at c5
  have q2 := carH_ch h P m s a d
  have hR2 := carH_rp H.pg.2.1 m s a d
  obtain ⟨h2, hh2⟩ : ∃ x, x = carH h P m s a d := ⟨_, rfl⟩
  rw [← hh2] at q2 hR2 c5
  obtain ⟨g, c7, q3, s1, s2, s3, s4, s5⟩ := x_stale (H.co.to q2.1) (H.ds.to q2.1) (H.as.to q2.1)
  have hg : ∀ r, ¬ (44 ≤ r ∧ r < 51) → r ≠ 72 → r ≠ 102 → r ≠ 115 → ∀ k, hi g r k = hi h r k := fun r r0 r1 r2 r3 k => by
    rw [s5 r r1 r2 r3 k, (q2.2 r r0).1]
  have hRg : RP g oP (carP P m s a d) := ⟨fun j k hin => by
      have := hin.j16
      rw [s5 _ (by omega) (by omega) (by omega)]
      exact hR2.1 j k hin, fun k hk1 => by
      rw [s5 _ (by omega) (by omega) (by omega), s5 _ (by omega) (by omega) (by omega)]
      exact hR2.2 k hk1⟩
  have Hg : Inv W g (carP P m s a d) := by
    refine H.toP (((q2.mono (fun o ho => by unfold carD at ho; show 44 ≤ o ∧ o < 122 ∧ ¬ (87 ≤ o ∧ o < 95); omega)).tr (q3.mono (fun o ho => by unfold stD at ho; show 44 ≤ o ∧ o < 122 ∧ ¬ (87 ≤ o ∧ o < 95); omega)))) (fun o ho => by omega) hRg hW' (Or.inl ⟨s1, ?_⟩) s2 s3
    obtain ⟨S, hS⟩ := H.fr.rc
    exact ⟨S, fun j k hjk => by
      have := hjk.1
      rw [hg _ (by omega) (by omega) (by omega) (by omega)]
      exact hS j k hjk⟩
  obtain ⟨g1, S, t1, t2, H1, q4, -⟩ := Hg.today
  have hD1 := H1.ds
  have e01 : carP P m s a d 0 1 = P 0 1 := carP_lo P m s a d 1 (by omega)
  have c9 := k_reasonOf H1 t2 (i := P 9 1) hn1
  rw [e01] at c9
  have u1 : hi g1 (oP + 9) 1 = nI (P 9 1 + 1) := by
    have e := H1.pg.2.1.cs (k := 1) (by decide)
    rw [carP_1] at e
    exact e
  have e5 : nI (P 9 1 + 1) - nI 1 = nI (P 9 1) := n_lessone (by omega)
  have h6 := td6 hW' (P 0 1) (k := P 9 1) hn1
  have hr1 := kh.1
  have hk1 := kh.2.1
  have hr2 := q2.1.1
  have hk2 := q2.1.2.1
  have hr3 := q3.1.1
  have hk3 := q3.1.2.1
  have hr4 := q4.1.1
  have hk4 := q4.1.2.1
  refine ⟨g1, ?_, H1⟩
  by_cases y : tdN (carP P m s a d) (P 0 1) 6 (P 9 1) = 0
  · rw [if_pos y]
    simp (disch := omega) only [ob_t, ob_n, ob_ite, e_cI, e_cL, e_cR, e_vI, e_vL, e_vR, e_d2, e_d2_a, e_d2_b, e_d2z, e_d2z_a, e_d2z_b, e_d1, e_d1_a, e_GI, e_GI_a, e_GL, e_GL_a, e_GR, e_GR_a, e_AI, e_AI_a, e_AI_b, e_AB, e_AB_a, e_AB_b, e_AZ, e_AZ_a, e_AZ_b, e_AL, e_AL_a, e_AL_b, e_AR, e_AR_a, e_AR_b, e_Len, e_Len_a, e_CI, e_CI_a, e_CI_b, e_CZ, e_CZ_a, e_And, e_kAnd, e_Or, e_kOr, e_Not, e_kNot, e_B, e_kB, e_T, e_kT, e_NN, e_kNN, e_NewA, e_NewA_a, e_NewC, e_kNewC, e_aN, e_aI, e_aI_a, e_aI_b, e_aL, e_aL_a, e_aL_b, e_aR, e_aR_a, e_aR_b, e_Call, e_kCall, e_CallV, e_kCallV, e_SetI, e_kSetI, e_SetL, e_kSetL, e_SetR, e_kSetR, e_Inc, e_Skip, e_Brk, e_Cnt, e_Ret, e_kRet, e_Ret0, e_Seq, e_kSeq0, e_kSeq1, e_kSeq2, e_kSeqR, e_If, e_kIf, e_Do, e_kDo, e_Sup, e_kN0, e_d3, e_k3a, e_k3b, e_k3c, e_P, e_kPa, e_kPb, e_UA, e_kUAa, e_kUAb, e_kUAc, e_UL, e_kULa, e_kULb, e_kULc, e_UF, e_kUFa, e_kUFb, e_Cp, e_kCp, e_Sw, e_kSwa, e_kSwb0, e_kSwb1, e_kSwbR, e_M1, e_kM1, e_MZ, e_kMZ, e_MN, e_kMN, e_Tv, e_kTv, e_Tc, e_kTc, e_lpS, e_kLp, e_kLpB0, e_kLpB1, e_kLpB2, e_kLpBR, e_kLpU, e_dwS, e_kDwB0, e_kDwC, f_II, f_LL, f_RR, f_IL, f_IR, f_LI, f_LR, f_RI, f_RL, o_iadd, o_isub, o_imul, o_iand, o_ior, o_ixor, o_ladd, o_lsub, o_lmul, o_land, o_lor, o_ishl, o_ishr, o_iushr, o_lshl, o_lshr, o_lcmp, o_i2l, o_l2i, o_i2b, o_i2s, o_lneg, o_ineg, o_imax, o_imin, o_idiv, o_irem, o_ldiv, o_lrem, r_lt, r_le, r_gt, r_ge, r_eq, r_ne, q_lt, q_le, q_gt, q_ge, q_eq, q_ne, decide_eq_true_eq, idI, and_true, true_and, and_false, false_and, or_true, true_or, or_false, false_or, not_true_eq_false, not_false_eq_true, if_true, if_false, ite_self, Bool.not_true, Bool.not_false, Bool.false_eq_true, Bool.true_eq_false, decide_true, decide_false, ne_eq, reduceIte, Nat.reduceEqDiff, Option.some.injEq, Prod.mk.injEq, eq_self, fa_lit, nI_add, pk_mul, nI_ltI, nI_leI, nI_eq, b01, b0, b1, x_hasBit, Nat.reduceLeDiff, Nat.reduceAdd, Nat.reduceMul, Nat.reduceSub, Nat.lt_irrefl, Nat.reduceLT, hO.koX, hO.k32, hO.k33, hO.k34, hO.k67, hO.k68, hO.k69, hO.k70, hO.k71, hO.k100, hO.k101, hO.k115, hO.k116, hO.k117, hO.k118, hO.k119, hO.k120, hO.k121, hO.roX_0, hO.roX_1, hO.roX_2, hO.roX_3, hO.roX_4, hO.roX_5, hO.roX_6, hO.roX_7, hO.roX_8, hO.roX_9, hO.roX_10, hO.roX_11, hO.roX_12, hO.roX_13, hO.r32_0, hO.r68_0, hO.r68_1, hO.r68_2, hO.r100_0, hO.r115_2, hO.r115_3, hO.r118_1, hP.k, hP.k9, hP.r8, hP.r9, hP.r10, hP.r11, hP.r12, hP.r13, hP.r14, hP.r15, hP.r16, hP.c3, hP.c4, hP.c5, hP.c6, hP.c7, hP.c8, n_inb, nI_clamp, w_hr, w_hk, w_hl, w_eq, w_ne, wl_hr, wl_hk, wl_hi, wl_eq, wl_ne, f_ss, f_sR, f_sL, lc0, lc1, lc01, DX11_carry, BX11_carry, c1, c2, c3, y2, y3, c4, c5, c7, t1, c9, u1, e5, hr1, hk1, hr2, hk2, hr3, hk3, hr4, hk4, hD1.k, y]
  · rw [if_neg y]
    have y5 : (nI (tdN (carP P m s a d) (P 0 1) 6 (P 9 1)) = nI 0) = False := by rw [nI_eq (by omega) (by decide)]; exact eq_false y
    simp (disch := omega) only [ob_t, ob_n, ob_ite, e_cI, e_cL, e_cR, e_vI, e_vL, e_vR, e_d2, e_d2_a, e_d2_b, e_d2z, e_d2z_a, e_d2z_b, e_d1, e_d1_a, e_GI, e_GI_a, e_GL, e_GL_a, e_GR, e_GR_a, e_AI, e_AI_a, e_AI_b, e_AB, e_AB_a, e_AB_b, e_AZ, e_AZ_a, e_AZ_b, e_AL, e_AL_a, e_AL_b, e_AR, e_AR_a, e_AR_b, e_Len, e_Len_a, e_CI, e_CI_a, e_CI_b, e_CZ, e_CZ_a, e_And, e_kAnd, e_Or, e_kOr, e_Not, e_kNot, e_B, e_kB, e_T, e_kT, e_NN, e_kNN, e_NewA, e_NewA_a, e_NewC, e_kNewC, e_aN, e_aI, e_aI_a, e_aI_b, e_aL, e_aL_a, e_aL_b, e_aR, e_aR_a, e_aR_b, e_Call, e_kCall, e_CallV, e_kCallV, e_SetI, e_kSetI, e_SetL, e_kSetL, e_SetR, e_kSetR, e_Inc, e_Skip, e_Brk, e_Cnt, e_Ret, e_kRet, e_Ret0, e_Seq, e_kSeq0, e_kSeq1, e_kSeq2, e_kSeqR, e_If, e_kIf, e_Do, e_kDo, e_Sup, e_kN0, e_d3, e_k3a, e_k3b, e_k3c, e_P, e_kPa, e_kPb, e_UA, e_kUAa, e_kUAb, e_kUAc, e_UL, e_kULa, e_kULb, e_kULc, e_UF, e_kUFa, e_kUFb, e_Cp, e_kCp, e_Sw, e_kSwa, e_kSwb0, e_kSwb1, e_kSwbR, e_M1, e_kM1, e_MZ, e_kMZ, e_MN, e_kMN, e_Tv, e_kTv, e_Tc, e_kTc, e_lpS, e_kLp, e_kLpB0, e_kLpB1, e_kLpB2, e_kLpBR, e_kLpU, e_dwS, e_kDwB0, e_kDwC, f_II, f_LL, f_RR, f_IL, f_IR, f_LI, f_LR, f_RI, f_RL, o_iadd, o_isub, o_imul, o_iand, o_ior, o_ixor, o_ladd, o_lsub, o_lmul, o_land, o_lor, o_ishl, o_ishr, o_iushr, o_lshl, o_lshr, o_lcmp, o_i2l, o_l2i, o_i2b, o_i2s, o_lneg, o_ineg, o_imax, o_imin, o_idiv, o_irem, o_ldiv, o_lrem, r_lt, r_le, r_gt, r_ge, r_eq, r_ne, q_lt, q_le, q_gt, q_ge, q_eq, q_ne, decide_eq_true_eq, idI, and_true, true_and, and_false, false_and, or_true, true_or, or_false, false_or, not_true_eq_false, not_false_eq_true, if_true, if_false, ite_self, Bool.not_true, Bool.not_false, Bool.false_eq_true, Bool.true_eq_false, decide_true, decide_false, ne_eq, reduceIte, Nat.reduceEqDiff, Option.some.injEq, Prod.mk.injEq, eq_self, fa_lit, nI_add, pk_mul, nI_ltI, nI_leI, nI_eq, b01, b0, b1, x_hasBit, Nat.reduceLeDiff, Nat.reduceAdd, Nat.reduceMul, Nat.reduceSub, Nat.lt_irrefl, Nat.reduceLT, hO.koX, hO.k32, hO.k33, hO.k34, hO.k67, hO.k68, hO.k69, hO.k70, hO.k71, hO.k100, hO.k101, hO.k115, hO.k116, hO.k117, hO.k118, hO.k119, hO.k120, hO.k121, hO.roX_0, hO.roX_1, hO.roX_2, hO.roX_3, hO.roX_4, hO.roX_5, hO.roX_6, hO.roX_7, hO.roX_8, hO.roX_9, hO.roX_10, hO.roX_11, hO.roX_12, hO.roX_13, hO.r32_0, hO.r68_0, hO.r68_1, hO.r68_2, hO.r100_0, hO.r115_2, hO.r115_3, hO.r118_1, hP.k, hP.k9, hP.r8, hP.r9, hP.r10, hP.r11, hP.r12, hP.r13, hP.r14, hP.r15, hP.r16, hP.c3, hP.c4, hP.c5, hP.c6, hP.c7, hP.c8, n_inb, nI_clamp, w_hr, w_hk, w_hl, w_eq, w_ne, wl_hr, wl_hk, wl_hi, wl_eq, wl_ne, f_ss, f_sR, f_sL, lc0, lc1, lc01, DX11_carry, BX11_carry, c1, c2, c3, y2, y3, c4, c5, c7, t1, c9, u1, e5, hr1, hk1, hr2, hk2, hr3, hk3, hr4, hk4, hD1.k, y5]
/-- all acts taken back -/
def anP (P : PT) : PT := up (up P 9 2 0) 9 1 (P 9 0)
theorem anP_lo (P : PT) {j k : Nat} (q : j ≠ 9 ∨ k = 0) : anP P j k = P j k := by
  unfold anP
  rw [up_o _ _ (by omega), up_o _ _ (by omega)]
theorem anP_1 (P : PT) : anP P 9 1 = P 9 0 := up_eq _ _ _ _
theorem anP_2 (P : PT) : anP P 9 2 = 0 := by
  unfold anP
  rw [up_o _ _ (by omega), up_eq]
theorem WFP_an (hW : WFP P) : WFP (anP P) := by
  unfold WFP at hW ⊢
  obtain ⟨w1, w2, w3, w4, w5, w6, w7, w8, w9, w10, w11, w12, w13, w14, w15, w16, w17, w18, w19, w20, w21⟩ := hW
  have e : ∀ j k, j ≠ 9 → anP P j k = P j k := fun j k q => anP_lo P (Or.inl q)
  simp only [fun k => e 0 k (by omega), fun k => e 1 k (by omega), fun k => e 2 k (by omega), fun k => e 3 k (by omega), fun k => e 4 k (by omega), fun k => e 5 k (by omega), fun k => e 6 k (by omega), fun k => e 7 k (by omega), fun k => e 8 k (by omega), fun k => e 10 k (by omega), fun k => e 11 k (by omega), fun k => e 12 k (by omega), fun k => e 13 k (by omega), anP_lo P (j := 9) (k := 0) (Or.inr rfl), anP_1, anP_2]
  refine ⟨w1, w2, w3, w4, w5, w6, w7, w8, by omega, by omega, by omega, by omega, w13, fun z => ?_, w15, w16, w17, w18, w19, fun k hk1 => w20 k (by omega), fun k hk1 => absurd hk1 (Nat.not_lt_zero k)⟩
  obtain ⟨z1, z2, z3, z4, z5, z6, z7⟩ := w14 z
  exact ⟨z1, z2, z3, z4, by omega, z6, trivial⟩
theorem c_anew (H : Inv W h P) (h0 : 0 < P 0 0) : ∃ g, DX11_anew (sR fr0 0 oX) h = some (nI (P 9 2), g) ∧ Inv W g (anP P) := by
  have hO := H.co
  have hP := H.ps
  have hcc := o_is
  have c1 := G_told H.pg
  rw [if_pos h0] at c1
  have y0 := H.pg.2.1.cs (k := 0) (by decide)
  have y2 := H.pg.2.1.cs (k := 2) (by decide)
  have hRP := H.pg.2.1
  obtain ⟨h2, hh2⟩ : ∃ x, x = wI (wI h (oP + 9) 2 (nI 0)) (oP + 9) 1 (nI (P 9 0)) := ⟨_, rfl⟩
  have q2 : Ch (fun o => o = 44) h h2 := by
    rw [hh2]
    exact (Ch.w (D := fun o => o = 44) (by omega) h 2 _).tr (Ch.w (D := fun o => o = 44) (by omega) _ 1 _)
  obtain ⟨g, e3, q3, s1, s2, s3, s4, s5⟩ := x_stale (H.co.to q2.1) (H.ds.to q2.1) (H.as.to q2.1)
  have hg : ∀ r, r ≠ 44 → r ≠ 72 → r ≠ 102 → r ≠ 115 → ∀ k, hi g r k = hi h r k := fun r r0 r1 r2 r3 k => by
    rw [s5 r r1 r2 r3 k, (q2.2 r r0).1]
  have hg9 : ∀ k, hi g (oP + 9) k = hi h2 (oP + 9) k := fun k => s5 _ (by omega) (by omega) (by omega) k
  refine ⟨g, ?_, H.toP (((q2.mono (fun o ho => by show 44 ≤ o ∧ o < 122 ∧ ¬ (87 ≤ o ∧ o < 95); omega)).tr (q3.mono (fun o ho => by unfold stD at ho; show 44 ≤ o ∧ o < 122 ∧ ¬ (87 ≤ o ∧ o < 95); omega)))) (fun o ho => by omega) ⟨fun j k hin => ?_, fun k hk1 => ?_⟩ (WFP_an H.w) (Or.inl ⟨s1, ?_⟩) s2 s3⟩
  · rw [hh2] at e3
    simp (disch := omega) only [ob_t, ob_n, ob_ite, e_cI, e_cL, e_cR, e_vI, e_vL, e_vR, e_d2, e_d2_a, e_d2_b, e_d2z, e_d2z_a, e_d2z_b, e_d1, e_d1_a, e_GI, e_GI_a, e_GL, e_GL_a, e_GR, e_GR_a, e_AI, e_AI_a, e_AI_b, e_AB, e_AB_a, e_AB_b, e_AZ, e_AZ_a, e_AZ_b, e_AL, e_AL_a, e_AL_b, e_AR, e_AR_a, e_AR_b, e_Len, e_Len_a, e_CI, e_CI_a, e_CI_b, e_CZ, e_CZ_a, e_And, e_kAnd, e_Or, e_kOr, e_Not, e_kNot, e_B, e_kB, e_T, e_kT, e_NN, e_kNN, e_NewA, e_NewA_a, e_NewC, e_kNewC, e_aN, e_aI, e_aI_a, e_aI_b, e_aL, e_aL_a, e_aL_b, e_aR, e_aR_a, e_aR_b, e_Call, e_kCall, e_CallV, e_kCallV, e_SetI, e_kSetI, e_SetL, e_kSetL, e_SetR, e_kSetR, e_Inc, e_Skip, e_Brk, e_Cnt, e_Ret, e_kRet, e_Ret0, e_Seq, e_kSeq0, e_kSeq1, e_kSeq2, e_kSeqR, e_If, e_kIf, e_Do, e_kDo, e_Sup, e_kN0, e_d3, e_k3a, e_k3b, e_k3c, e_P, e_kPa, e_kPb, e_UA, e_kUAa, e_kUAb, e_kUAc, e_UL, e_kULa, e_kULb, e_kULc, e_UF, e_kUFa, e_kUFb, e_Cp, e_kCp, e_Sw, e_kSwa, e_kSwb0, e_kSwb1, e_kSwbR, e_M1, e_kM1, e_MZ, e_kMZ, e_MN, e_kMN, e_Tv, e_kTv, e_Tc, e_kTc, e_lpS, e_kLp, e_kLpB0, e_kLpB1, e_kLpB2, e_kLpBR, e_kLpU, e_dwS, e_kDwB0, e_kDwC, f_II, f_LL, f_RR, f_IL, f_IR, f_LI, f_LR, f_RI, f_RL, o_iadd, o_isub, o_imul, o_iand, o_ior, o_ixor, o_ladd, o_lsub, o_lmul, o_land, o_lor, o_ishl, o_ishr, o_iushr, o_lshl, o_lshr, o_lcmp, o_i2l, o_l2i, o_i2b, o_i2s, o_lneg, o_ineg, o_imax, o_imin, o_idiv, o_irem, o_ldiv, o_lrem, r_lt, r_le, r_gt, r_ge, r_eq, r_ne, q_lt, q_le, q_gt, q_ge, q_eq, q_ne, decide_eq_true_eq, idI, and_true, true_and, and_false, false_and, or_true, true_or, or_false, false_or, not_true_eq_false, not_false_eq_true, if_true, if_false, ite_self, Bool.not_true, Bool.not_false, Bool.false_eq_true, Bool.true_eq_false, decide_true, decide_false, ne_eq, reduceIte, Nat.reduceEqDiff, Option.some.injEq, Prod.mk.injEq, eq_self, fa_lit, nI_add, pk_mul, nI_ltI, nI_leI, nI_eq, b01, b0, b1, x_hasBit, Nat.reduceLeDiff, Nat.reduceAdd, Nat.reduceMul, Nat.reduceSub, Nat.lt_irrefl, Nat.reduceLT, hO.koX, hO.k32, hO.k33, hO.k34, hO.k67, hO.k68, hO.k69, hO.k70, hO.k71, hO.k100, hO.k101, hO.k115, hO.k116, hO.k117, hO.k118, hO.k119, hO.k120, hO.k121, hO.roX_0, hO.roX_1, hO.roX_2, hO.roX_3, hO.roX_4, hO.roX_5, hO.roX_6, hO.roX_7, hO.roX_8, hO.roX_9, hO.roX_10, hO.roX_11, hO.roX_12, hO.roX_13, hO.r32_0, hO.r68_0, hO.r68_1, hO.r68_2, hO.r100_0, hO.r115_2, hO.r115_3, hO.r118_1, hP.k, hP.k9, hP.r8, hP.r9, hP.r10, hP.r11, hP.r12, hP.r13, hP.r14, hP.r15, hP.r16, hP.c3, hP.c4, hP.c5, hP.c6, hP.c7, hP.c8, n_inb, nI_clamp, w_hr, w_hk, w_hl, w_eq, w_ne, wl_hr, wl_hk, wl_hi, wl_eq, wl_ne, f_ss, f_sR, f_sL, lc0, lc1, lc01, DX11_anew, BX11_anew, c1, y0, y2, e3, fI]
  · by_cases e : j = 9
    · subst e
      have hk3 : k < 3 := hin.k3
      rw [hg9, hh2]
      match k, hk3 with
      | 0, _ => rw [anP_lo P (Or.inr rfl), w_ne (by omega), w_ne (by omega)]; exact hRP.cs (by decide)
      | 1, _ => rw [anP_1, w_eq]
      | 2, _ => rw [anP_2, w_ne (by omega), w_eq]
    · have hj := hin.j16
      rw [anP_lo P (Or.inl e), hg _ (by omega) (by omega) (by omega) (by omega)]
      refine hRP.1 j k (hin.le (fun k => anP_lo P (Or.inl (by decide))) (fun k => anP_lo P (Or.inl (by decide))) ?_)
      rw [anP_1]
      exact H.w.2.2.2.2.2.2.2.2.2.2.1
  · rw [anP_2] at hk1
    exact absurd hk1 (Nat.not_lt_zero k)
  · obtain ⟨S, hS⟩ := H.fr.rc
    exact ⟨S, fun j k hjk => by
      have := hjk.1
      rw [hg _ (by omega) (by omega) (by omega) (by omega)]
      exact hS j k hjk⟩
end
