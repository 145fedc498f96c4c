set_option maxRecDepth 100000
set_option maxHeartbeats 1000000
/-! a change of the PORT: what is kept, what is forgotten -/
section
variable {W : St} {h g : St} {P P' : PT}
theorem Fresh.rc {d : Nat} (H : Fresh h d P) : ∃ S, RC h (d + 1) S := by
  rcases H with ⟨-, S, h2⟩ | ⟨-, S, h2⟩
  · exact ⟨S, h2⟩
  · exact ⟨_, h2.2.2⟩
def stD (o : Nat) : Prop := o = 72 ∨ o = 102 ∨ o = 115
theorem x_stale (hO : CO h) (hD : DS h oD) (hA : AS h oA) : ∃ g, DX11_makeStale (sR fr0 0 oX) h = some ((), g) ∧ Ch stD h g ∧ hi g oD 0 = nI 0 ∧ hi g oA 14 = -nI 1 ∧ hi g oA 16 = -nI 1 ∧ hi g 115 0 = nI 0 ∧ ∀ r, r ≠ 72 → r ≠ 102 → r ≠ 115 → ∀ k, hi g r k = hi h r k := by
  have hcc := o_is
  refine ⟨wI (wI (wI (wI h oD 0 (nI 0)) 115 0 (nI 0)) oA 14 (-nI 1)) oA 16 (-nI 1), ?_, ?_, ?_, ?_, ?_, ?_, fun r r1 r2 r3 k => ?_⟩
  · simp (disch := omega) only [ob_t, ob_n, ob_ite, e_cI, e_cL, e_cR, e_vI, e_vL, e_vR, e_d2, e_d2_a, e_d2_b, e_d2z, e_d2z_a, e_d2z_b, e_d1, e_d1_a, e_GI, e_GI_a, e_GL, e_GL_a, e_GR, e_GR_a, e_AI, e_AI_a, e_AI_b, e_AB, e_AB_a, e_AB_b, e_AZ, e_AZ_a, e_AZ_b, e_AL, e_AL_a, e_AL_b, e_AR, e_AR_a, e_AR_b, e_Len, e_Len_a, e_CI, e_CI_a, e_CI_b, e_CZ, e_CZ_a, e_And, e_kAnd, e_Or, e_kOr, e_Not, e_kNot, e_B, e_kB, e_T, e_kT, e_NN, e_kNN, e_NewA, e_NewA_a, e_NewC, e_kNewC, e_aN, e_aI, e_aI_a, e_aI_b, e_aL, e_aL_a, e_aL_b, e_aR, e_aR_a, e_aR_b, e_Call, e_kCall, e_CallV, e_kCallV, e_SetI, e_kSetI, e_SetL, e_kSetL, e_SetR, e_kSetR, e_Inc, e_Skip, e_Brk, e_Cnt, e_Ret, e_kRet, e_Ret0, e_Seq, e_kSeq0, e_kSeq1, e_kSeq2, e_kSeqR, e_If, e_kIf, e_Do, e_kDo, e_Sup, e_kN0, e_d3, e_k3a, e_k3b, e_k3c, e_P, e_kPa, e_kPb, e_UA, e_kUAa, e_kUAb, e_kUAc, e_UL, e_kULa, e_kULb, e_kULc, e_UF, e_kUFa, e_kUFb, e_Cp, e_kCp, e_Sw, e_kSwa, e_kSwb0, e_kSwb1, e_kSwbR, e_M1, e_kM1, e_MZ, e_kMZ, e_MN, e_kMN, e_Tv, e_kTv, e_Tc, e_kTc, e_lpS, e_kLp, e_kLpB0, e_kLpB1, e_kLpB2, e_kLpBR, e_kLpU, e_dwS, e_kDwB0, e_kDwC, f_II, f_LL, f_RR, f_IL, f_IR, f_LI, f_LR, f_RI, f_RL, o_iadd, o_isub, o_imul, o_iand, o_ior, o_ixor, o_ladd, o_lsub, o_lmul, o_land, o_lor, o_ishl, o_ishr, o_iushr, o_lshl, o_lshr, o_lcmp, o_i2l, o_l2i, o_i2b, o_i2s, o_lneg, o_ineg, o_imax, o_imin, o_idiv, o_irem, o_ldiv, o_lrem, r_lt, r_le, r_gt, r_ge, r_eq, r_ne, q_lt, q_le, q_gt, q_ge, q_eq, q_ne, decide_eq_true_eq, idI, and_true, true_and, and_false, false_and, or_true, true_or, or_false, false_or, not_true_eq_false, not_false_eq_true, if_true, if_false, ite_self, Bool.not_true, Bool.not_false, Bool.false_eq_true, Bool.true_eq_false, decide_true, decide_false, ne_eq, reduceIte, Nat.reduceEqDiff, Option.some.injEq, Prod.mk.injEq, eq_self, fa_lit, nI_add, pk_mul, nI_ltI, nI_leI, nI_eq, b01, b0, b1, x_hasBit, Nat.reduceLeDiff, Nat.reduceAdd, Nat.reduceMul, Nat.reduceSub, Nat.lt_irrefl, Nat.reduceLT, hO.koX, hO.k32, hO.k33, hO.k34, hO.k67, hO.k68, hO.k69, hO.k70, hO.k71, hO.k100, hO.k101, hO.k115, hO.k116, hO.k117, hO.k118, hO.k119, hO.k120, hO.k121, hO.roX_0, hO.roX_1, hO.roX_2, hO.roX_3, hO.roX_4, hO.roX_5, hO.roX_6, hO.roX_7, hO.roX_8, hO.roX_9, hO.roX_10, hO.roX_11, hO.roX_12, hO.roX_13, hO.r32_0, hO.r68_0, hO.r68_1, hO.r68_2, hO.r100_0, hO.r115_2, hO.r115_3, hO.r118_1, n_inb, nI_clamp, w_hr, w_hk, w_hl, w_eq, w_ne, wl_hr, wl_hk, wl_hi, wl_eq, wl_ne, f_ss, f_sR, f_sL, lc0, lc1, lc01, hD.k, hA.k, fZ, fI, DX11_makeStale, BX11_makeStale, DX0_forget, BX0_forget]
  · exact (((Ch.w (D := stD) (Or.inl hcc.2.2.2.1) h 0 _).tr (Ch.w (D := stD) (Or.inr (Or.inr rfl)) _ 0 _)).tr (Ch.w (D := stD) (Or.inr (Or.inl hcc.2.2.2.2.2)) _ 14 _)).tr (Ch.w (D := stD) (Or.inr (Or.inl hcc.2.2.2.2.2)) _ 16 _)
  · rw [w_ne (by omega), w_ne (by omega), w_ne (by omega), w_eq]
  · rw [w_ne (by omega), w_eq]
  · rw [w_eq]
  · rw [w_ne (by omega), w_ne (by omega), w_eq]
  · rw [w_ne (by omega), w_ne (by omega), w_ne (by omega), w_ne (by omega)]
end
