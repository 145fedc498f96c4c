set_option maxRecDepth 100000
set_option maxHeartbeats 1000000
/-! the class's Weather filled (2) -/
def wfD (o : Nat) : Prop := o = 115 ∨ o = 116 ∨ o = 117 ∨ cD (oW + 1) o
def kS (P : PT) (s x n : Nat) : Nat := wsm P (fun r => if runN P (tlR P r) (P 0 1) 4 (8 * s + x) = 0 then 0 else 1) n
def wS3 (P : PT) (s n : Nat) : Nat := wsm P (fun r => pop (runN P (tlR P r) (P 0 1) 3 s)) n
theorem tlR_wh (P : PT) (r : Nat) : tlR P r = whT P 3 r := rfl
theorem lik_lk (P : PT) (r : Nat) : lik P r = lk (P 0 3) (bsP P) r := rfl
theorem pop_le8 (n : Nat) : pop n ≤ 8 := pop_12 n
theorem lk_le {o : Nat} (ho : o ≤ 10) (B r : Nat) (hr : pop r ≤ pop B) : lk o B r ≤ 100000000 := by
  have h8 := pop_12 B
  have h1 : o ^ pop r ≤ 10 ^ pop r := Nat.pow_le_pow_left ho _
  have h2 : (10 - o) ^ (pop B - pop r) ≤ 10 ^ (pop B - pop r) := Nat.pow_le_pow_left (by omega) _
  have h3 : lk o B r ≤ 10 ^ pop r * 10 ^ (pop B - pop r) := Nat.mul_le_mul h1 h2
  rw [← Nat.pow_add, show pop r + (pop B - pop r) = pop B by omega] at h3
  exact Nat.le_trans h3 (show 10 ^ pop B ≤ 10 ^ 8 from Nat.pow_le_pow_right (by decide) h8)
theorem bsP_lt {P : PT} (h8 : P 0 1 ≤ 8) : bsP P < 256 := by
  have h1 := buN_lt P (P 9 1)
  have h2 : 2 ^ P 0 1 ≤ 2 ^ 8 := Nat.pow_le_pow_right (by decide) h8
  unfold bsP
  omega
section
variable {L : Nat} {xs : Nat → Int32} {h g : St} {P T : PT}
/-- what holds while it is filled -/
def FL (h g : St) (P : PT) (k : Nat) : Prop := Ch wfD h g ∧ (∃ S, RC g (oW + 1) S) ∧ hi g 115 0 = nI 1 ∧ hl g 115 1 = lN (10 ^ pop (bsP P)) ∧ ∀ s, s < P 0 7 → hl g 117 s = lN (wS3 P s k) ∧ ∀ x, x < P 0 4 → hl g 116 (8 * s + x) = lN (kS P s x k)
theorem wfd_n {o : Nat} (ho : (o < 86 ∨ 102 ≤ o) ∧ o ≠ 115 ∧ o ≠ 116 ∧ o ≠ 117) : ¬ wfD o := fun z => by
  have hoc := o_is
  unfold wfD cD at z
  omega
theorem x_fill1 (H : Inv L xs h P) (hd8 : P 0 1 ≤ 8) (h0 : FL h g P 0) : ∃ g', LX10_fill_1 (sI (sI (sI (sI (sR (sR (sR fr0 0 115) 1 oP) 2 (oW + 1)) 3 (nI (bsP P))) 4 (nI (pop (bsP P)))) 5 (nI 0)) 6 (nI 0)) g = some (.inl 0, sI (sI (sI (sI (sR (sR (sR fr0 0 115) 1 oP) 2 (oW + 1)) 3 (nI (bsP P))) 4 (nI (pop (bsP P)))) 5 (nI (rnN (bsP P) (2 ^ pop (bsP P))))) 6 (nI (2 ^ pop (bsP P))), g') ∧ FL h g' P (2 ^ pop (bsP P)) := by
  have hb := H.w.all
  have hoc := o_is
  have hB := bsP_lt hd8
  have hc8 := pop_12 (bsP P)
  have hc2 : 2 ^ pop (bsP P) ≤ 2 ^ 8 := Nat.pow_le_pow_right (by decide) hc8
  unfold LX10_fill_1
  refine loop_g (fun k => sI (sI (sI (sI (sR (sR (sR fr0 0 115) 1 oP) 2 (oW + 1)) 3 (nI (bsP P))) 4 (nI (pop (bsP P)))) 5 (nI (rnN (bsP P) k))) 6 (nI k)) (fun k g' => FL h g' P k) (2 ^ pop (bsP P)) rfl h0 (fun k g' hk hI => ?_) (fun g' hI => ?_)
  · obtain ⟨q1, ⟨S, hS⟩, q3, q4, q5⟩ := hI
    have hr := rn_le (bsP P) k
    have hpr := pop_rn (bsP P) k
    have hlk := lk_le (o := P 0 3) (by omega) (bsP P) (rnN (bsP P) k) hpr
    rw [← lik_lk] at hlk
    have hO := H.co.to q1.1
    have hGg := H.pg.ch q1 (fun j hj => wfd_n (by omega))
    have hP := hGg.s
    have hCg := H.dw.c.to q1.1
    have e3 := hGg.r.sc (k := 3) (by decide)
    have p1 := x_power (b := P 0 3) (n := pop (rnN (bsP P) k)) (by omega) (by omega) g'
    have p2 := x_power (b := 10 - P 0 3) (n := pop (bsP P) - pop (rnN (bsP P) k)) (by omega) (by omega) g'
    have em : lN (P 0 3 ^ pop (rnN (bsP P) k) * (10 - P 0 3) ^ (pop (bsP P) - pop (rnN (bsP P) k))) = lN (lik P (rnN (bsP P) k)) := rfl
    have en := n_nxt hB hr
    have es : nxR (bsP P) (rnN (bsP P) k) = rnN (bsP P) (k + 1) := rfl
    by_cases z : 0 < lik P (rnN (bsP P) k)
    · have hk1 : WFk 3 (rnN (bsP P) k) := Or.inr (Or.inr (Or.inr ⟨rfl, by omega⟩))
      have hX := WFX_wh H.w S hk1
      obtain ⟨g1, a1, b1, c1⟩ := x_setAsTold hCg hS hGg.s hGg.r
      obtain ⟨g2, a2, b2, c2⟩ := C_fld (hCg.to c1.1) b1 (k := 3) (rnN (bsP P) k) (w := nI (rnN (bsP P) k)) rfl
      have c12 := c1.tr c2
      have hG2 := hGg.ch c12 (fun j hj => by unfold cD; omega)
      obtain ⟨g3, a3, b3, c3⟩ := x_runThrough (hCg.to c12.1) b2 hG2 hX (by omega)
      have c13 := c12.tr c3
      have hG3 := hGg.ch c13 (fun j hj => by unfold cD; omega)
      have nc : ∀ o, 115 ≤ o → ¬ cD (oW + 1) o := fun o ho z => by unfold cD at z; omega
      obtain ⟨g4, a4, b4, c4⟩ := x_addUp (hO.to c13.1) hG3 (hCg.to c13.1) b3 (fun k hk => WFS4 H.w hX (P 0 1) hk) (fun s hs => by have u1 := WFS3 H.w hX (P 0 1) hs; have u2 := pw6 H.w hs; omega) (w := lik P (rnN (bsP P) k)) (A := fun s => wS3 P s k) (K := fun s x => kS P s x k) (fun s hs => ⟨by rw [(c13.2 117 (nc _ (by decide))).2]; exact (q5 s hs).1, fun x hx => by rw [(c13.2 116 (nc _ (by decide))).2]; exact (q5 s hs).2 x hx⟩)
      have s2 : SH g1 g2 := c2.1
      have r1 := c1.1.1
      have k1 := c1.1.2.1
      have r2 := c2.1.1
      have k2 := c2.1.2.1
      have r3 := c3.1.1
      have k3 := c3.1.2.1
      have kc := hCg.k
      have c14 : Ch wfD g' g4 := (c13.mono (fun o ho => Or.inr (Or.inr (Or.inr ho)))).tr (c4.mono (fun o ho => ho.elim (fun y => Or.inr (Or.inl y)) (fun y => Or.inr (Or.inr (Or.inl y)))))
      have w3 : ¬ cD (oW + 1) 115 := nc 115 (by decide)
      have w4 : ¬ wtD 115 := fun z => by unfold wtD at z; omega
      refine ⟨g4, ?_, q1.tr c14, ⟨_, b3.keep c4 (fun o h1 h2 => fun z => by unfold wtD at z; omega)⟩, ?_, ?_, fun s hs => ⟨?_, fun x hx => ?_⟩⟩
      · simp (disch := omega) only [ob_t, ob_n, ob_ite, e_cI, e_cL, e_cR, e_vI, e_vL, e_vR, e_d2, e_d2_a, e_d2_b, e_d2z, e_d2z_a, e_d2z_b, e_d1, e_d1_a, e_GI, e_GI_a, e_GL, e_GL_a, e_GR, e_GR_a, e_AI, e_AI_a, e_AI_b, e_AB, e_AB_a, e_AB_b, e_AZ, e_AZ_a, e_AZ_b, e_AL, e_AL_a, e_AL_b, e_AR, e_AR_a, e_AR_b, e_Len, e_Len_a, e_CI, e_CI_a, e_CI_b, e_CZ, e_CZ_a, e_And, e_kAnd, e_Or, e_kOr, e_Not, e_kNot, e_B, e_kB, e_T, e_kT, e_NN, e_kNN, e_NewA, e_NewA_a, e_NewC, e_kNewC, e_aN, e_aI, e_aI_a, e_aI_b, e_aL, e_aL_a, e_aL_b, e_aR, e_aR_a, e_aR_b, e_Call, e_kCall, e_CallV, e_kCallV, e_SetI, e_kSetI, e_SetL, e_kSetL, e_SetR, e_kSetR, e_Inc, e_Skip, e_Brk, e_Cnt, e_Ret, e_kRet, e_Ret0, e_Seq, e_kSeq0, e_kSeq1, e_kSeq2, e_kSeqR, e_If, e_kIf, e_Do, e_kDo, e_Sup, e_kN0, e_d3, e_k3a, e_k3b, e_k3c, e_P, e_kPa, e_kPb, e_UA, e_kUAa, e_kUAb, e_kUAc, e_UL, e_kULa, e_kULb, e_kULc, e_UF, e_kUFa, e_kUFb, e_Cp, e_kCp, e_Sw, e_kSwa, e_kSwb0, e_kSwb1, e_kSwbR, e_M1, e_kM1, e_MZ, e_kMZ, e_MN, e_kMN, e_Tv, e_kTv, e_Tc, e_kTc, e_lpS, e_kLp, e_kLpB0, e_kLpB1, e_kLpB2, e_kLpBR, e_kLpU, e_dwS, e_kDwB0, e_kDwC, f_II, f_LL, f_RR, f_IL, f_IR, f_LI, f_LR, f_RI, f_RL, o_iadd, o_isub, o_imul, o_iand, o_ior, o_ixor, o_land, o_lor, o_ishl, o_ishr, o_iushr, o_lshl, o_l2i, o_i2b, o_i2s, o_lneg, o_imax, o_imin, o_idiv, o_irem, r_lt, r_le, r_gt, r_ge, r_eq, r_ne, q_le, q_gt, q_ge, q_eq, q_ne, decide_eq_true_eq, idI, and_true, true_and, and_false, false_and, or_true, true_or, or_false, false_or, not_true_eq_false, not_false_eq_true, if_true, if_false, ite_self, Bool.not_true, Bool.not_false, Bool.false_eq_true, Bool.true_eq_false, decide_true, decide_false, ne_eq, reduceIte, Nat.reduceEqDiff, Option.some.injEq, Prod.mk.injEq, eq_self, fa_lit, nI_add, pk_mul, nI_ltI, nI_leI, nI_eq, b01, b0, b1, x_hasBit, Nat.reduceLeDiff, Nat.reduceAdd, Nat.reduceMul, Nat.reduceSub, Nat.lt_irrefl, Nat.reduceLT, hO.koX, hO.k32, hO.k33, hO.k34, hO.k67, hO.k68, hO.k69, hO.k70, hO.k71, hO.k100, hO.k101, hO.k115, hO.k116, hO.k117, hO.k118, hO.k119, hO.k120, hO.k121, hO.roX_0, hO.roX_1, hO.roX_2, hO.roX_3, hO.roX_4, hO.roX_5, hO.roX_6, hO.roX_7, hO.roX_8, hO.roX_9, hO.roX_10, hO.roX_11, hO.roX_12, hO.roX_13, hO.r32_0, hO.r68_0, hO.r68_1, hO.r68_2, hO.r100_0, hO.r115_2, hO.r115_3, hO.r118_1, hP.k, hP.k9, hP.r8, hP.r9, hP.r10, hP.r11, hP.r12, hP.r13, hP.r14, hP.r15, hP.r16, hP.c3, hP.c4, hP.c5, hP.c6, hP.c7, hP.c8, n_inb, nI_clamp, f_ss, f_sR, f_sL, fa_litL, n_shl, hk, x_bitCount, e3, p1, p2, pk_sub, ol_mul, em, oc_gt, z, a1, kc, r1, k1, a2, r2, k2, a3, r3, k3, a4, en, es]
      · rw [(c4.2 115 w4).1, (c13.2 115 w3).1]; exact q3
      · rw [(c4.2 115 w4).2, (c13.2 115 w3).2]; exact q4
      · rw [(b4 s hs).1, wh_eq H.w S 3 _ (P 0 1) (by unfold UIn; omega) (by omega)]
        rfl
      · rw [(b4 s hs).2 x hx, wh_eq H.w S 3 _ (P 0 1) (by unfold UIn; omega) (by omega)]
        rfl
    · have z0 : lik P (rnN (bsP P) k) = 0 := by omega
      refine ⟨g', ?_, q1, ⟨S, hS⟩, q3, q4, fun s hs => ⟨?_, fun x hx => ?_⟩⟩
      · simp (disch := omega) only [ob_t, ob_n, ob_ite, e_cI, e_cL, e_cR, e_vI, e_vL, e_vR, e_d2, e_d2_a, e_d2_b, e_d2z, e_d2z_a, e_d2z_b, e_d1, e_d1_a, e_GI, e_GI_a, e_GL, e_GL_a, e_GR, e_GR_a, e_AI, e_AI_a, e_AI_b, e_AB, e_AB_a, e_AB_b, e_AZ, e_AZ_a, e_AZ_b, e_AL, e_AL_a, e_AL_b, e_AR, e_AR_a, e_AR_b, e_Len, e_Len_a, e_CI, e_CI_a, e_CI_b, e_CZ, e_CZ_a, e_And, e_kAnd, e_Or, e_kOr, e_Not, e_kNot, e_B, e_kB, e_T, e_kT, e_NN, e_kNN, e_NewA, e_NewA_a, e_NewC, e_kNewC, e_aN, e_aI, e_aI_a, e_aI_b, e_aL, e_aL_a, e_aL_b, e_aR, e_aR_a, e_aR_b, e_Call, e_kCall, e_CallV, e_kCallV, e_SetI, e_kSetI, e_SetL, e_kSetL, e_SetR, e_kSetR, e_Inc, e_Skip, e_Brk, e_Cnt, e_Ret, e_kRet, e_Ret0, e_Seq, e_kSeq0, e_kSeq1, e_kSeq2, e_kSeqR, e_If, e_kIf, e_Do, e_kDo, e_Sup, e_kN0, e_d3, e_k3a, e_k3b, e_k3c, e_P, e_kPa, e_kPb, e_UA, e_kUAa, e_kUAb, e_kUAc, e_UL, e_kULa, e_kULb, e_kULc, e_UF, e_kUFa, e_kUFb, e_Cp, e_kCp, e_Sw, e_kSwa, e_kSwb0, e_kSwb1, e_kSwbR, e_M1, e_kM1, e_MZ, e_kMZ, e_MN, e_kMN, e_Tv, e_kTv, e_Tc, e_kTc, e_lpS, e_kLp, e_kLpB0, e_kLpB1, e_kLpB2, e_kLpBR, e_kLpU, e_dwS, e_kDwB0, e_kDwC, f_II, f_LL, f_RR, f_IL, f_IR, f_LI, f_LR, f_RI, f_RL, o_iadd, o_isub, o_imul, o_iand, o_ior, o_ixor, o_land, o_lor, o_ishl, o_ishr, o_iushr, o_lshl, o_l2i, o_i2b, o_i2s, o_lneg, o_imax, o_imin, o_idiv, o_irem, r_lt, r_le, r_gt, r_ge, r_eq, r_ne, q_le, q_gt, q_ge, q_eq, q_ne, decide_eq_true_eq, idI, and_true, true_and, and_false, false_and, or_true, true_or, or_false, false_or, not_true_eq_false, not_false_eq_true, if_true, if_false, ite_self, Bool.not_true, Bool.not_false, Bool.false_eq_true, Bool.true_eq_false, decide_true, decide_false, ne_eq, reduceIte, Nat.reduceEqDiff, Option.some.injEq, Prod.mk.injEq, eq_self, fa_lit, nI_add, pk_mul, nI_ltI, nI_leI, nI_eq, b01, b0, b1, x_hasBit, Nat.reduceLeDiff, Nat.reduceAdd, Nat.reduceMul, Nat.reduceSub, Nat.lt_irrefl, Nat.reduceLT, hO.koX, hO.k32, hO.k33, hO.k34, hO.k67, hO.k68, hO.k69, hO.k70, hO.k71, hO.k100, hO.k101, hO.k115, hO.k116, hO.k117, hO.k118, hO.k119, hO.k120, hO.k121, hO.roX_0, hO.roX_1, hO.roX_2, hO.roX_3, hO.roX_4, hO.roX_5, hO.roX_6, hO.roX_7, hO.roX_8, hO.roX_9, hO.roX_10, hO.roX_11, hO.roX_12, hO.roX_13, hO.r32_0, hO.r68_0, hO.r68_1, hO.r68_2, hO.r100_0, hO.r115_2, hO.r115_3, hO.r118_1, hP.k, hP.k9, hP.r8, hP.r9, hP.r10, hP.r11, hP.r12, hP.r13, hP.r14, hP.r15, hP.r16, hP.c3, hP.c4, hP.c5, hP.c6, hP.c7, hP.c8, n_inb, nI_clamp, f_ss, f_sR, f_sL, fa_litL, n_shl, hk, x_bitCount, e3, p1, p2, pk_sub, ol_mul, em, oc_gt, z, en, es]
      · rw [(q5 s hs).1]
        show lN (wS3 P s k) = lN (wS3 P s k + lik P (rnN (bsP P) k) * _)
        rw [z0, Nat.zero_mul, Nat.add_zero]
      · rw [(q5 s hs).2 x hx]
        show lN (kS P s x k) = lN (kS P s x k + lik P (rnN (bsP P) k) * _)
        rw [z0, Nat.zero_mul, Nat.add_zero]
  · simp (disch := omega) only [ob_t, ob_n, ob_ite, e_cI, e_cL, e_cR, e_vI, e_vL, e_vR, e_d2, e_d2_a, e_d2_b, e_d2z, e_d2z_a, e_d2z_b, e_d1, e_d1_a, e_GI, e_GI_a, e_GL, e_GL_a, e_GR, e_GR_a, e_AI, e_AI_a, e_AI_b, e_AB, e_AB_a, e_AB_b, e_AZ, e_AZ_a, e_AZ_b, e_AL, e_AL_a, e_AL_b, e_AR, e_AR_a, e_AR_b, e_Len, e_Len_a, e_CI, e_CI_a, e_CI_b, e_CZ, e_CZ_a, e_And, e_kAnd, e_Or, e_kOr, e_Not, e_kNot, e_B, e_kB, e_T, e_kT, e_NN, e_kNN, e_NewA, e_NewA_a, e_NewC, e_kNewC, e_aN, e_aI, e_aI_a, e_aI_b, e_aL, e_aL_a, e_aL_b, e_aR, e_aR_a, e_aR_b, e_Call, e_kCall, e_CallV, e_kCallV, e_SetI, e_kSetI, e_SetL, e_kSetL, e_SetR, e_kSetR, e_Inc, e_Skip, e_Brk, e_Cnt, e_Ret, e_kRet, e_Ret0, e_Seq, e_kSeq0, e_kSeq1, e_kSeq2, e_kSeqR, e_If, e_kIf, e_Do, e_kDo, e_Sup, e_kN0, e_d3, e_k3a, e_k3b, e_k3c, e_P, e_kPa, e_kPb, e_UA, e_kUAa, e_kUAb, e_kUAc, e_UL, e_kULa, e_kULb, e_kULc, e_UF, e_kUFa, e_kUFb, e_Cp, e_kCp, e_Sw, e_kSwa, e_kSwb0, e_kSwb1, e_kSwbR, e_M1, e_kM1, e_MZ, e_kMZ, e_MN, e_kMN, e_Tv, e_kTv, e_Tc, e_kTc, e_lpS, e_kLp, e_kLpB0, e_kLpB1, e_kLpB2, e_kLpBR, e_kLpU, e_dwS, e_kDwB0, e_kDwC, f_II, f_LL, f_RR, f_IL, f_IR, f_LI, f_LR, f_RI, f_RL, o_iadd, o_isub, o_imul, o_iand, o_ior, o_ixor, o_land, o_lor, o_ishl, o_ishr, o_iushr, o_lshl, o_l2i, o_i2b, o_i2s, o_lneg, o_imax, o_imin, o_idiv, o_irem, r_lt, r_le, r_gt, r_ge, r_eq, r_ne, q_le, q_gt, q_ge, q_eq, q_ne, decide_eq_true_eq, idI, and_true, true_and, and_false, false_and, or_true, true_or, or_false, false_or, not_true_eq_false, not_false_eq_true, if_true, if_false, ite_self, Bool.not_true, Bool.not_false, Bool.false_eq_true, Bool.true_eq_false, decide_true, decide_false, ne_eq, reduceIte, Nat.reduceEqDiff, Option.some.injEq, Prod.mk.injEq, eq_self, fa_lit, nI_add, pk_mul, nI_ltI, nI_leI, nI_eq, b01, b0, b1, x_hasBit, Nat.reduceLeDiff, Nat.reduceAdd, Nat.reduceMul, Nat.reduceSub, Nat.lt_irrefl, Nat.reduceLT, f_ss, f_sR, f_sL, n_shl]
theorem x_wfill (H : Inv L xs h P) (hd8 : P 0 1 ≤ 8) : ∃ g, DX10_fill (sR (sR (sR fr0 0 115) 1 oP) 2 (oW + 1)) h = some ((), g) ∧ Inv L xs g P ∧ SH h g ∧ hl g 115 1 = lN (10 ^ pop (bsP P)) ∧ ∀ s, s < P 0 7 → hl g 117 s = lN (woW P s) ∧ ∀ x, x < P 0 4 → hl g 116 (8 * s + x) = lN (knW P s x) := by
  have hb := H.w.all
  have hoc := o_is
  have hO := H.co
  have hP := H.ps
  have hB := bsP_lt hd8
  have hc8 := pop_12 (bsP P)
  rcases H.wo with z | ⟨z, z2, z3, z4⟩
  · obtain ⟨g1, a1, b1, c1⟩ := x_fillL (lN 0) (r := 116) (n := 24) (h := wI h 115 0 (nI 1)) (by rw [w_hk]; exact H.co.k116) (by decide)
    obtain ⟨g2, a2, b2, c2⟩ := x_fillL (lN 0) (r := 117) (n := 3) (h := g1) (by rw [c1.1.2.1, w_hk]; exact H.co.k117) (by decide)
    have c0 : Ch (fun o => o = 115 ∨ o = 116 ∨ o = 117) h (wI h 115 0 (nI 1)) := Ch.w (D := fun o => o = 115 ∨ o = 116 ∨ o = 117) (r := 115) (Or.inl rfl) _ _ _
    have c02 : Ch (fun o => o = 115 ∨ o = 116 ∨ o = 117) h g2 := (c0.tr (c1.mono (fun o ho => Or.inr (Or.inl ho)))).tr (c2.mono (fun o ho => Or.inr (Or.inr ho)))
    have hG2 := H.pg.ch c02 (fun j hj => by omega)
    have e1 := x_busyDays hG2
    have e1 : DX5_busyDays (sR fr0 0 oP) g2 = some (nI (bsP P), g2) := e1
    have c3 : Ch (fun o => o = 115 ∨ o = 116 ∨ o = 117) g2 (wL g2 115 1 (lN (10 ^ pop (bsP P)))) := Ch.wl (D := fun o => o = 115 ∨ o = 116 ∨ o = 117) (r := 115) (Or.inl rfl) _ _ _
    have c03 := c02.tr c3
    have f0 : hi (wL g2 115 1 (lN (10 ^ pop (bsP P)))) 115 0 = nI 1 := by
      rw [wl_hi, (c2.2 115 (by decide)).1, (c1.2 115 (by decide)).1]
      exact w_eq _ _ _ _
    have hw2 : ∃ S, RC (wL g2 115 1 (lN (10 ^ pop (bsP P)))) (oW + 1) S := by
      obtain ⟨S, hS⟩ := H.wi
      exact ⟨S, hS.keep c03 (fun o h1 h2 => by omega)⟩
    have hFL : FL h (wL g2 115 1 (lN (10 ^ pop (bsP P)))) P 0 := by
      refine ⟨c03.mono (fun o ho => by unfold wfD; omega), hw2, f0, wl_eq _ _ _ _, fun s hs => ⟨?_, fun x hx => ?_⟩⟩
      · rw [wl_ne (Or.inl (by decide)), b2 s (by omega)]; rfl
      · rw [wl_ne (Or.inl (by decide)), (c2.2 116 (by decide)).2, b1 _ (by omega)]; rfl
    obtain ⟨g, L, q1, q2, q3, q4, q5⟩ := x_fill1 H hd8 hFL
    have hWO : WO g P := Or.inr ⟨q3, hd8, q4, q5⟩
    refine ⟨g, ?_, ?_, q1.1, q4, q5⟩
    · have r1 := c1.1.1
      have k1 := c1.1.2.1
      have r2 := c2.1.1
      have k2 := c2.1.2.1
      have p1 := x_power (b := 10) (n := pop (bsP P)) (by decide) (by omega) g2
      have y : ¬ pop (bsP P) < 8 ∨ pop (bsP P) < 8 := by omega
      have em : o_imin (nI 8) (nI (pop (bsP P))) = nI (pop (bsP P)) := by
        unfold o_imin
        by_cases y : pop (bsP P) = 8
        · rw [y]; decide
        · rw [if_pos ((nI_ltI (by omega) (by omega)).mpr (by omega))]
      simp (disch := omega) only [DX10_fill, BX10_fill, ob_t, ob_n, ob_ite, e_cI, e_cL, e_cR, e_vI, e_vL, e_vR, e_d2, e_d2_a, e_d2_b, e_d2z, e_d2z_a, e_d2z_b, e_d1, e_d1_a, e_GI, e_GI_a, e_GL, e_GL_a, e_GR, e_GR_a, e_AI, e_AI_a, e_AI_b, e_AB, e_AB_a, e_AB_b, e_AZ, e_AZ_a, e_AZ_b, e_AL, e_AL_a, e_AL_b, e_AR, e_AR_a, e_AR_b, e_Len, e_Len_a, e_CI, e_CI_a, e_CI_b, e_CZ, e_CZ_a, e_And, e_kAnd, e_Or, e_kOr, e_Not, e_kNot, e_B, e_kB, e_T, e_kT, e_NN, e_kNN, e_NewA, e_NewA_a, e_NewC, e_kNewC, e_aN, e_aI, e_aI_a, e_aI_b, e_aL, e_aL_a, e_aL_b, e_aR, e_aR_a, e_aR_b, e_Call, e_kCall, e_CallV, e_kCallV, e_SetI, e_kSetI, e_SetL, e_kSetL, e_SetR, e_kSetR, e_Inc, e_Skip, e_Brk, e_Cnt, e_Ret, e_kRet, e_Ret0, e_Seq, e_kSeq0, e_kSeq1, e_kSeq2, e_kSeqR, e_If, e_kIf, e_Do, e_kDo, e_Sup, e_kN0, e_d3, e_k3a, e_k3b, e_k3c, e_P, e_kPa, e_kPb, e_UA, e_kUAa, e_kUAb, e_kUAc, e_UL, e_kULa, e_kULb, e_kULc, e_UF, e_kUFa, e_kUFb, e_Cp, e_kCp, e_Sw, e_kSwa, e_kSwb0, e_kSwb1, e_kSwbR, e_M1, e_kM1, e_MZ, e_kMZ, e_MN, e_kMN, e_Tv, e_kTv, e_Tc, e_kTc, e_lpS, e_kLp, e_kLpB0, e_kLpB1, e_kLpB2, e_kLpBR, e_kLpU, e_dwS, e_kDwB0, e_kDwC, f_II, f_LL, f_RR, f_IL, f_IR, f_LI, f_LR, f_RI, f_RL, r_lt, r_eq, r_ne, r_gt, r_le, r_ge, q_eq, q_ne, decide_eq_true_eq, idI, fI, fZ, fL, fR, and_true, true_and, and_false, false_and, or_true, true_or, or_false, false_or, not_true_eq_false, not_false_eq_true, if_true, if_false, ite_self, Bool.not_true, Bool.not_false, Bool.false_eq_true, Bool.true_eq_false, decide_true, decide_false, ne_eq, reduceIte, Nat.reduceEqDiff, Option.some.injEq, Prod.mk.injEq, eq_self, fa_lit, nI_add, pk_mul, nI_ltI, nI_leI, nI_eq, b01, b0, b1, x_hasBit, Nat.reduceLeDiff, Nat.reduceAdd, Nat.reduceMul, Nat.reduceSub, Nat.lt_irrefl, Nat.reduceLT, hO.koX, hO.k32, hO.k33, hO.k34, hO.k67, hO.k68, hO.k69, hO.k70, hO.k71, hO.k100, hO.k101, hO.k115, hO.k116, hO.k117, hO.k118, hO.k119, hO.k120, hO.k121, hO.roX_0, hO.roX_1, hO.roX_2, hO.roX_3, hO.roX_4, hO.roX_5, hO.roX_6, hO.roX_7, hO.roX_8, hO.roX_9, hO.roX_10, hO.roX_11, hO.roX_12, hO.roX_13, hO.r32_0, hO.r68_0, hO.r68_1, hO.r68_2, hO.r100_0, hO.r115_2, hO.r115_3, hO.r118_1, w_hr, w_hk, w_hl, w_eq, w_ne, wl_hr, wl_hk, wl_hi, wl_eq, wl_ne, f_ss, f_sR, f_sL, fa_litL, z, a1, r1, k1, a2, r2, k2, e1, x_bitCount, em, p1, hP.k, L]
    · refine H.part q1 (fun o ho => by unfold wfD cD at ho; unfold scr; omega) (fun k _ => (q1.2 oM (wfd_n (by omega))).1 k) (Or.inl fun o h1 h2 => wfd_n (by omega)) (Or.inr q2) (Or.inl fun o h1 h2 => wfd_n (by omega)) (Or.inl fun o h1 h2 => wfd_n (by omega)) (Or.inr hWO)
  · refine ⟨h, ?_, H, SH.rf h, z3, z4⟩
    simp (disch := omega) only [ob_t, ob_n, ob_ite, e_cI, e_cL, e_cR, e_vI, e_vL, e_vR, e_d2, e_d2_a, e_d2_b, e_d2z, e_d2z_a, e_d2z_b, e_d1, e_d1_a, e_GI, e_GI_a, e_GL, e_GL_a, e_GR, e_GR_a, e_AI, e_AI_a, e_AI_b, e_AB, e_AB_a, e_AB_b, e_AZ, e_AZ_a, e_AZ_b, e_AL, e_AL_a, e_AL_b, e_AR, e_AR_a, e_AR_b, e_Len, e_Len_a, e_CI, e_CI_a, e_CI_b, e_CZ, e_CZ_a, e_And, e_kAnd, e_Or, e_kOr, e_Not, e_kNot, e_B, e_kB, e_T, e_kT, e_NN, e_kNN, e_NewA, e_NewA_a, e_NewC, e_kNewC, e_aN, e_aI, e_aI_a, e_aI_b, e_aL, e_aL_a, e_aL_b, e_aR, e_aR_a, e_aR_b, e_Call, e_kCall, e_CallV, e_kCallV, e_SetI, e_kSetI, e_SetL, e_kSetL, e_SetR, e_kSetR, e_Inc, e_Skip, e_Brk, e_Cnt, e_Ret, e_kRet, e_Ret0, e_Seq, e_kSeq0, e_kSeq1, e_kSeq2, e_kSeqR, e_If, e_kIf, e_Do, e_kDo, e_Sup, e_kN0, e_d3, e_k3a, e_k3b, e_k3c, e_P, e_kPa, e_kPb, e_UA, e_kUAa, e_kUAb, e_kUAc, e_UL, e_kULa, e_kULb, e_kULc, e_UF, e_kUFa, e_kUFb, e_Cp, e_kCp, e_Sw, e_kSwa, e_kSwb0, e_kSwb1, e_kSwbR, e_M1, e_kM1, e_MZ, e_kMZ, e_MN, e_kMN, e_Tv, e_kTv, e_Tc, e_kTc, e_lpS, e_kLp, e_kLpB0, e_kLpB1, e_kLpB2, e_kLpBR, e_kLpU, e_dwS, e_kDwB0, e_kDwC, f_II, f_LL, f_RR, f_IL, f_IR, f_LI, f_LR, f_RI, f_RL, o_iadd, o_isub, o_imul, o_iand, o_ior, o_ixor, o_ladd, o_lsub, o_lmul, o_land, o_lor, o_ishl, o_ishr, o_iushr, o_lshl, o_lcmp, o_i2l, o_l2i, o_i2b, o_i2s, o_lneg, o_imax, o_imin, o_idiv, o_irem, o_ldiv, o_lrem, r_lt, r_le, r_gt, r_ge, r_eq, r_ne, q_lt, q_le, q_gt, q_ge, q_eq, q_ne, decide_eq_true_eq, idI, and_true, true_and, and_false, false_and, or_true, true_or, or_false, false_or, not_true_eq_false, not_false_eq_true, if_true, if_false, ite_self, Bool.not_true, Bool.not_false, Bool.false_eq_true, Bool.true_eq_false, decide_true, decide_false, ne_eq, reduceIte, Nat.reduceEqDiff, Option.some.injEq, Prod.mk.injEq, eq_self, fa_lit, nI_add, pk_mul, nI_ltI, nI_leI, nI_eq, b01, b0, b1, x_hasBit, Nat.reduceLeDiff, Nat.reduceAdd, Nat.reduceMul, Nat.reduceSub, Nat.lt_irrefl, Nat.reduceLT, hO.koX, hO.k32, hO.k33, hO.k34, hO.k67, hO.k68, hO.k69, hO.k70, hO.k71, hO.k100, hO.k101, hO.k115, hO.k116, hO.k117, hO.k118, hO.k119, hO.k120, hO.k121, hO.roX_0, hO.roX_1, hO.roX_2, hO.roX_3, hO.roX_4, hO.roX_5, hO.roX_6, hO.roX_7, hO.roX_8, hO.roX_9, hO.roX_10, hO.roX_11, hO.roX_12, hO.roX_13, hO.r32_0, hO.r68_0, hO.r68_1, hO.r68_2, hO.r100_0, hO.r115_2, hO.r115_3, hO.r118_1, hP.k, hP.k9, hP.r8, hP.r9, hP.r10, hP.r11, hP.r12, hP.r13, hP.r14, hP.r15, hP.r16, hP.c3, hP.c4, hP.c5, hP.c6, hP.c7, hP.c8, n_inb, nI_clamp, w_hr, w_hk, w_hl, w_eq, w_ne, wl_hr, wl_hk, wl_hi, wl_eq, wl_ne, f_ss, f_sR, f_sL, lc0, lc1, lc01, DX10_fill, BX10_fill, z]
end
