set_option maxRecDepth 100000
set_option maxHeartbeats 1000000
section
variable {h : St} {x p d : Nat} {P : PT}
theorem WFX_told (hW : WFP P) (S : PT) : WFX P (asTold P S) := by
  have hb := hW.all
  refine ⟨?_, ?_, ?_, ?_, Or.inl ?_⟩ <;> simp [asTold, up] <;> omega
theorem x_today (hx : hk h x = (11, 0)) (h6 : hr h x 6 = d) (h2 : hr h x 2 = p) (hD : DS h d) (hG : PG h p P) (hd : p + 16 ≤ d ∨ d + 14 ≤ p) (hF : Fresh h d P) : ∃ g S, DX11_today (sR fr0 0 x) h = some (d, g) ∧ hi g d 0 = nI 1 ∧ DRel g d P (asTold P S) ∧ Ch (TD d) h g := by
  rcases hF with ⟨hf, S, hR⟩ | ⟨hf, S, hR⟩
  · have hP := hG.s
    obtain ⟨g1, a1, b1, c1⟩ := x_setAsTold hD.c hR hG.s hG.r
    have c1' : Ch (TD d) h g1 := c1.mono (fun o ho => by unfold cD at ho; unfold TD; omega)
    obtain ⟨g2, a2, b2, c2⟩ := x_dfill (hD.to c1.1) b1 (hG.ch c1' (fun j hj => by unfold TD; omega)) (WFX_told hG.w S) hd
    have c2' : Ch (TD d) g1 g2 := c2.mono (fun o ho => by unfold dD at ho; unfold TD; omega)
    have k2 : hk g2 d = (3, 0) := by rw [c2.1.2.1, c1.1.2.1]; exact hD.k
    have a3 : fZ 3 0 d (nI 1) g2 = some (wI g2 d 0 (nI 1)) := by
      unfold fZ
      rw [if_pos ⟨by rw [k2], Or.inr rfl⟩]
    have c3 := Ch.w (D := TD d) (r := d) (by unfold TD; omega) g2 0 (nI 1)
    refine ⟨wI g2 d 0 (nI 1), S, ?_, by rw [wI_hi, if_pos ⟨rfl, rfl⟩], b2.to (Ch.w (D := fun o => o = d) (r := d) rfl g2 0 (nI 1)) (fun j h1 h2 => by show ¬ d + j = d; omega), (c1'.tr c2').tr c3⟩
    simp (disch := omega) only [DX11_today, BX11_today, ob_t, ob_n, ob_ite, e_cI, e_cL, e_cR, e_vI, e_vL, e_vR, e_d2, e_d2_a, e_d2_b, e_d2z, e_d2z_a, e_d2z_b, e_d1, e_d1_a, e_GI, e_GI_a, e_GL, e_GL_a, e_GR, e_GR_a, e_AI, e_AI_a, e_AI_b, e_AB, e_AB_a, e_AB_b, e_AZ, e_AZ_a, e_AZ_b, e_AL, e_AL_a, e_AL_b, e_AR, e_AR_a, e_AR_b, e_Len, e_Len_a, e_CI, e_CI_a, e_CI_b, e_CZ, e_CZ_a, e_And, e_kAnd, e_Or, e_kOr, e_Not, e_kNot, e_B, e_kB, e_T, e_kT, e_NN, e_kNN, e_NewA, e_NewA_a, e_NewC, e_kNewC, e_aN, e_aI, e_aI_a, e_aI_b, e_aL, e_aL_a, e_aL_b, e_aR, e_aR_a, e_aR_b, e_Call, e_kCall, e_CallV, e_kCallV, e_SetI, e_kSetI, e_SetL, e_kSetL, e_SetR, e_kSetR, e_Inc, e_Skip, e_Brk, e_Cnt, e_Ret, e_kRet, e_Ret0, e_Seq, e_kSeq0, e_kSeq1, e_kSeq2, e_kSeqR, e_If, e_kIf, e_Do, e_kDo, e_Sup, e_kN0, e_d3, e_k3a, e_k3b, e_k3c, e_P, e_kPa, e_kPb, e_UA, e_kUAa, e_kUAb, e_kUAc, e_UL, e_kULa, e_kULb, e_kULc, e_UF, e_kUFa, e_kUFb, e_Cp, e_kCp, e_Sw, e_kSwa, e_kSwb0, e_kSwb1, e_kSwbR, e_M1, e_kM1, e_MZ, e_kMZ, e_MN, e_kMN, e_Tv, e_kTv, e_Tc, e_kTc, e_lpS, e_kLp, e_kLpB0, e_kLpB1, e_kLpB2, e_kLpBR, e_kLpU, e_dwS, e_kDwB0, e_kDwC, f_II, f_LL, f_RR, f_IL, f_IR, f_LI, f_LR, f_RI, f_RL, o_iadd, o_isub, o_imul, o_iand, o_ior, o_ixor, o_ladd, o_lsub, o_lmul, o_land, o_lor, o_ishl, o_ishr, o_iushr, o_lshl, o_lshr, o_lcmp, o_i2l, o_l2i, o_i2b, o_i2s, o_lneg, o_ineg, o_imax, o_imin, o_idiv, o_irem, o_ldiv, o_lrem, r_lt, r_le, r_gt, r_ge, r_eq, r_ne, q_lt, q_le, q_gt, q_ge, q_eq, q_ne, decide_eq_true_eq, idI, and_true, true_and, and_false, false_and, or_true, true_or, or_false, false_or, not_true_eq_false, not_false_eq_true, if_true, if_false, ite_self, Bool.not_true, Bool.not_false, Bool.false_eq_true, Bool.true_eq_false, decide_true, decide_false, ne_eq, reduceIte, Nat.reduceEqDiff, Option.some.injEq, Prod.mk.injEq, eq_self, fa_lit, nI_add, pk_mul, nI_ltI, nI_leI, nI_eq, b01, b0, b1, x_hasBit, Nat.reduceLeDiff, Nat.reduceAdd, Nat.reduceMul, Nat.reduceSub, Nat.lt_irrefl, Nat.reduceLT, hx, h6, h2, hD.k, hD.r1, hD.c.k, hf, a1, a2, a3, c1.1.1, c1.1.2.1, c2.1.1, c2.1.2.1, c3.1.1, c3.1.2.1]
  · exact ⟨h, S, x_todayT hx h6 hD hf, hf, hR, Ch.rf _ h⟩
end
