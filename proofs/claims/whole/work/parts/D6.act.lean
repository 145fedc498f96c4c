set_option maxRecDepth 100000
set_option maxHeartbeats 1000000
/-! an ACT more -/
section
variable {L : Nat} {xs : Nat → Int32} {h g : St} {P P' : PT}
theorem PIn.lo (e0 : ∀ k, P' 0 k = P 0 k) (e7 : ∀ k, P' 7 k = P 7 k) {j k : Nat} (hj : j < 9) (h : PIn P' j k) : PIn P j k := by
  unfold PIn at h ⊢
  simp only [e0, e7] at h
  rcases h with h | h | h | h | h | h | h | h | h | h | ⟨h1, h2, h3⟩
  · exact Or.inl h
  · exact Or.inr (Or.inl h)
  · exact Or.inr (Or.inr (Or.inl h))
  · exact Or.inr (Or.inr (Or.inr (Or.inl h)))
  · exact Or.inr (Or.inr (Or.inr (Or.inr (Or.inl h))))
  · exact Or.inr (Or.inr (Or.inr (Or.inr (Or.inr (Or.inl h)))))
  · exact Or.inr (Or.inr (Or.inr (Or.inr (Or.inr (Or.inr (Or.inl h))))))
  · exact Or.inr (Or.inr (Or.inr (Or.inr (Or.inr (Or.inr (Or.inr (Or.inl h)))))))
  · exact Or.inr (Or.inr (Or.inr (Or.inr (Or.inr (Or.inr (Or.inr (Or.inr (Or.inl h))))))))
  · exfalso; omega
  · exfalso; omega
theorem PIn.up {j k : Nat} (hj : 10 ≤ j) (h : PIn P j k) : j ≤ 13 ∧ k < P 9 1 := by
  unfold PIn at h
  omega
theorem WFP.act (hW : WFP P) (ha : P 9 2 < 20) (ht : 0 < P 0 0) (eL : ∀ j k, j < 9 → P' j k = P j k) (e90 : P' 9 0 = P 9 0) (e92 : P' 9 2 = P 9 2 + 1) (e91 : P' 9 1 = P 9 0 + cnA P' (P 9 2 + 1)) (eC : ∀ j k, 10 ≤ j → j ≤ 13 → k < P 9 1 → P' j k = P j k) (eA : ∀ j k, 14 ≤ j → k < P 9 2 → P' j k = P j k) (nw : ∀ k, P 9 1 ≤ k → k < P' 9 1 → P' 10 k < P 0 6 ∧ P' 11 k < P 0 7 ∧ P' 12 k < P 0 4 ∧ P' 13 k ≤ 11) (nA : P' 15 (P 9 2) = 0 ∨ (P' 14 (P 9 2) ≤ P 0 7 ∧ 1 ≤ P' 14 (P 9 2) ∧ P' 15 (P 9 2) ≤ P 7 (P' 14 (P 9 2) - 1))) : WFP P' := by
  have hc := cnA_le P' (P 9 2 + 1)
  unfold WFP at hW ⊢
  obtain ⟨w1, w2, w3, w4, w5, w6, w7, w8, w9, w10, w11, w12, w13, w14, w15, w16, w17, w18, w19, w20, w21⟩ := hW
  simp only [eL 0 _ (by decide), eL 1 _ (by decide), eL 2 _ (by decide), eL 3 _ (by decide), eL 4 _ (by decide), eL 5 _ (by decide), eL 6 _ (by decide), eL 7 _ (by decide), eL 8 _ (by decide), e90, e92]
  refine ⟨w1, w2, w3, w4, w5, w6, w7, w8, by omega, by omega, by omega, by omega, w13, fun z => absurd z (by omega), w15, w16, w17, w18, w19, fun k hk1 => ?_, fun k hk1 => ?_⟩
  · by_cases y : k < P 9 1
    · rw [eC 10 k (by decide) (by decide) y, eC 11 k (by decide) (by decide) y, eC 12 k (by decide) (by decide) y, eC 13 k (by decide) (by decide) y]
      exact w20 k y
    · exact nw k (by omega) hk1
  · by_cases y : k < P 9 2
    · rw [eA 14 k (by decide) y, eA 15 k (by decide) y]
      exact w21 k y
    · have e : k = P 9 2 := by omega
      subst e
      exact nA
theorem Inv.act (H : Inv L xs h P) (ha : P 9 2 < 20) (ht : 0 < P 0 0) (eL : ∀ j k, j < 9 → P' j k = P j k) (e90 : P' 9 0 = P 9 0) (e92 : P' 9 2 = P 9 2 + 1) (e91 : P' 9 1 = P 9 0 + cnA P' (P 9 2 + 1)) (eC : ∀ j k, 10 ≤ j → j ≤ 13 → k < P 9 1 → P' j k = P j k) (eA : ∀ j k, 14 ≤ j → k < P 9 2 → P' j k = P j k) (nw : ∀ k, P 9 1 ≤ k → k < P' 9 1 → P' 10 k < P 0 6 ∧ P' 11 k < P 0 7 ∧ P' 12 k < P 0 4 ∧ P' 13 k ≤ 11) (nA : P' 15 (P 9 2) = 0 ∨ (P' 14 (P 9 2) ≤ P 0 7 ∧ 1 ≤ P' 14 (P 9 2) ∧ P' 15 (P 9 2) ≤ P 7 (P' 14 (P 9 2) - 1))) (q : Ch chg h g) (hm : ∀ k, k = 6 ∨ k = 14 ∨ k = 15 → hi g oM k = hi h oM k) (f : Fresh g oD P') (a1 : hi g oA 14 = -nI 1) (a2 : hi g oA 16 = -nI 1) (wo : hi g 115 0 = nI 0) (hR : RP g oP P') (m1 : ∀ r, oM + 6 ≤ r → r < oM + 15 → r ≠ oM + 7 → ∀ k, hi g r k = hi h r k) (m2 : ∀ k, k ≠ 8 → hi g (oM + 7) k = hi h (oM + 7) k) (m3 : hi g (oM + 7) 8 = nI (P 9 2 + 1)) (m4 : ∀ k, (k < 4 * P 9 2 ∨ 4 * P 9 2 + 4 ≤ k) → hi g (oM + 15) k = hi h (oM + 15) k) (m5 : ∀ t, t < 3 → hi g (oM + 15) (4 * P 9 2 + t) = acP P' (P 9 2) t) (m6 : P' 15 (P 9 2) = 0 → hi g (oM + 15) (4 * P 9 2 + 3) = nI (P' 13 (P 9 0 + cnA P' (P 9 2)))) : Inv L xs g P' := by
  have hcc := o_is
  have ec : ∀ n, n ≤ P 9 2 → cnA P' n = cnA P n := fun n hn1 => cnA_cg n (fun i hi1 => eA 15 i (by decide) (by omega))
  have h91 : P 9 1 = P 9 0 + cnA P (P 9 2) := H.mg.2.1.2.2.2.2.2.2.2.2.2
  refine H.toP q hm hR (H.w.act ha ht eL e90 e92 e91 eC eA nw nA) f a1 a2 wo ?_ (fun i j hi1 hj => ?_)
  · obtain ⟨b1, b2, b3, b4, b5, b6, b7, b8, b9, b10⟩ := H.mg.2.1
    refine ⟨?_, fun w hw => ?_, fun k hk1 => ?_, fun k hk1 => ?_, fun k hk1 => ?_, fun s hs => ?_, fun k t hk1 ht => ?_, fun j t hj ht => ?_, fun j hj hz => ?_, ?_⟩
    · rw [m1 _ (by omega) (by omega) (by omega), eL 0 _ (by decide)]; exact b1
    · by_cases e : w = 8
      · subst e
        rw [show 9 * 0 + 8 = 8 by rfl, m3]
        show _ = nI (P' 9 2)
        rw [e92]
      · rw [m2 _ (by omega), b2 w hw]
        unfold hsP
        rw [eL 0 _ (by decide), e90]
        by_cases y : w < 7
        · rw [if_pos y, if_pos y]
        · rw [if_neg y, if_neg y, if_pos (by omega), if_pos (by omega)]
    · rw [eL 0 _ (by decide)] at hk1
      rw [m1 _ (by omega) (by omega) (by omega), eL 1 _ (by decide)]; exact b3 k hk1
    · rw [eL 0 _ (by decide)] at hk1
      rw [m1 _ (by omega) (by omega) (by omega), m1 _ (by omega) (by omega) (by omega), eL 2 _ (by decide), eL 3 _ (by decide)]; exact b4 k hk1
    · rw [eL 0 _ (by decide)] at hk1
      rw [m1 _ (by omega) (by omega) (by omega), m1 _ (by omega) (by omega) (by omega), eL 4 _ (by decide), eL 5 _ (by decide)]; exact b5 k hk1
    · rw [eL 0 _ (by decide)] at hs
      rw [m1 _ (by omega) (by omega) (by omega), m1 _ (by omega) (by omega) (by omega), eL 6 _ (by decide), eL 7 _ (by decide)]
      refine ⟨(b6 s hs).1, (b6 s hs).2.1, fun i hi1 => ?_⟩
      rw [m1 _ (by omega) (by omega) (by omega), eL 8 _ (by decide)]
      exact (b6 s hs).2.2 i hi1
    · rw [e90] at hk1
      rw [m1 _ (by omega) (by omega) (by omega), eC (10 + t) k (by omega) (by omega) (by omega)]
      exact b7 k t hk1 ht
    · rw [e92] at hj
      by_cases y : j < P 9 2
      · rw [m4 _ (by omega), b8 j t y ht]
        unfold acP
        rw [eA 15 j (by decide) y, eA 14 j (by decide) y, e90, ec j (by omega)]
        by_cases z : P 15 j = 0
        · have hlt := cnA_lt P y z
          rw [if_pos z, if_pos z, eC (10 + t) _ (by omega) (by omega) (by omega)]
        · rw [if_neg z, if_neg z]
      · have e : j = P 9 2 := by omega
        subst e
        rw [show 80 * 0 + 4 * P 9 2 + t = 4 * P 9 2 + t by omega]
        exact m5 t ht
    · rw [e92] at hj
      by_cases y : j < P 9 2
      · rw [eA 15 j (by decide) y] at hz
        have hlt := cnA_lt P y hz
        rw [m4 _ (by omega), b9 j y hz, e90, ec j (by omega), eC 13 _ (by omega) (by omega) (by omega)]
      · have e : j = P 9 2 := by omega
        subst e
        rw [show 80 * 0 + 4 * P 9 2 + 3 = 4 * P 9 2 + 3 by omega, e90]
        exact m6 hz
    · rw [e91, e90, e92]
  · by_cases e : i = 1
    · subst e
      have hj9 : 9 ≤ j := hj
      exact m2 j (by omega)
    · by_cases e' : i = 9
      · subst e'
        have hj9 : 80 ≤ j := hj
        exact m4 j (by omega)
      · rw [m1 _ (by omega) (by omega) (by omega)]
theorem x_addAct (hO : CO h) (hP : PS h oP) (u v : Int32) {a : Nat} (ha : a < 20) (y2 : hi h (oP + 9) 2 = nI a) : DX1_addAct (sI (sI (sR fr0 0 (oP + 9)) 1 u) 2 v) h = some ((), wI (wI (wI h (oP + 14) a u) (oP + 15) a v) (oP + 9) 2 (nI (a + 1))) := by
  have hcc := o_is
  have k14 := hP.k14
  have k15 := hP.k15
  have e1 : (nI 20 ≤ nI a) = False := by rw [nI_leI (by decide) (by omega)]; exact eq_false (by omega)
  have c1 : DX11_put (sI (sI (sR fr0 0 (oP + 14)) 1 (nI a)) 2 u) h = some ((), wI h (oP + 14) a u) := x_put (by rw [k14]) (by omega) (by rw [k14]; exact ha) (by rw [k14]; decide)
  have c2 : DX11_put (sI (sI (sR fr0 0 (oP + 15)) 1 (nI a)) 2 v) (wI h (oP + 14) a u) = some ((), wI (wI h (oP + 14) a u) (oP + 15) a v) := x_put (by show (hk h _).1 = 13; rw [k15]) (by omega) (by show a < (hk h _).2; rw [k15]; exact ha) (by show (hk h _).2 < _; rw [k15]; decide)
  simp (disch := omega) only [ob_t, ob_n, ob_ite, e_cI, e_cL, e_cR, e_vI, e_vL, e_vR, e_d2, e_d2_a, e_d2_b, e_d2z, e_d2z_a, e_d2z_b, e_d1, e_d1_a, e_GI, e_GI_a, e_GL, e_GL_a, e_GR, e_GR_a, e_AI, e_AI_a, e_AI_b, e_AB, e_AB_a, e_AB_b, e_AZ, e_AZ_a, e_AZ_b, e_AL, e_AL_a, e_AL_b, e_AR, e_AR_a, e_AR_b, e_Len, e_Len_a, e_CI, e_CI_a, e_CI_b, e_CZ, e_CZ_a, e_And, e_kAnd, e_Or, e_kOr, e_Not, e_kNot, e_B, e_kB, e_T, e_kT, e_NN, e_kNN, e_NewA, e_NewA_a, e_NewC, e_kNewC, e_aN, e_aI, e_aI_a, e_aI_b, e_aL, e_aL_a, e_aL_b, e_aR, e_aR_a, e_aR_b, e_Call, e_kCall, e_CallV, e_kCallV, e_SetI, e_kSetI, e_SetL, e_kSetL, e_SetR, e_kSetR, e_Inc, e_Skip, e_Brk, e_Cnt, e_Ret, e_kRet, e_Ret0, e_Seq, e_kSeq0, e_kSeq1, e_kSeq2, e_kSeqR, e_If, e_kIf, e_Do, e_kDo, e_Sup, e_kN0, e_d3, e_k3a, e_k3b, e_k3c, e_P, e_kPa, e_kPb, e_UA, e_kUAa, e_kUAb, e_kUAc, e_UL, e_kULa, e_kULb, e_kULc, e_UF, e_kUFa, e_kUFb, e_Cp, e_kCp, e_Sw, e_kSwa, e_kSwb0, e_kSwb1, e_kSwbR, e_M1, e_kM1, e_MZ, e_kMZ, e_MN, e_kMN, e_Tv, e_kTv, e_Tc, e_kTc, e_lpS, e_kLp, e_kLpB0, e_kLpB1, e_kLpB2, e_kLpBR, e_kLpU, e_dwS, e_kDwB0, e_kDwC, f_II, f_LL, f_RR, f_IL, f_IR, f_LI, f_LR, f_RI, f_RL, o_iadd, o_isub, o_imul, o_iand, o_ior, o_ixor, o_ladd, o_lsub, o_lmul, o_land, o_lor, o_ishl, o_ishr, o_iushr, o_lshl, o_lcmp, o_i2l, o_l2i, o_i2b, o_i2s, o_lneg, o_imax, o_imin, o_idiv, o_irem, o_ldiv, o_lrem, r_lt, r_le, r_gt, r_ge, r_eq, r_ne, q_lt, q_le, q_gt, q_ge, q_eq, q_ne, decide_eq_true_eq, idI, and_true, true_and, and_false, false_and, or_true, true_or, or_false, false_or, not_true_eq_false, not_false_eq_true, if_true, if_false, ite_self, Bool.not_true, Bool.not_false, Bool.false_eq_true, Bool.true_eq_false, decide_true, decide_false, ne_eq, reduceIte, Nat.reduceEqDiff, Option.some.injEq, Prod.mk.injEq, eq_self, fa_lit, nI_add, pk_mul, nI_ltI, nI_leI, nI_eq, b01, b0, b1, x_hasBit, Nat.reduceLeDiff, Nat.reduceAdd, Nat.reduceMul, Nat.reduceSub, Nat.lt_irrefl, Nat.reduceLT, hO.koX, hO.k32, hO.k33, hO.k34, hO.k67, hO.k68, hO.k69, hO.k70, hO.k71, hO.k100, hO.k101, hO.k115, hO.k116, hO.k117, hO.k118, hO.k119, hO.k120, hO.k121, hO.roX_0, hO.roX_1, hO.roX_2, hO.roX_3, hO.roX_4, hO.roX_5, hO.roX_6, hO.roX_7, hO.roX_8, hO.roX_9, hO.roX_10, hO.roX_11, hO.roX_12, hO.roX_13, hO.r32_0, hO.r68_0, hO.r68_1, hO.r68_2, hO.r100_0, hO.r115_2, hO.r115_3, hO.r118_1, hP.k, hP.k9, hP.r8, hP.r9, hP.r10, hP.r11, hP.r12, hP.r13, hP.r14, hP.r15, hP.r16, hP.c3, hP.c4, hP.c5, hP.c6, hP.c7, hP.c8, n_inb, nI_clamp, w_hr, w_hk, w_hl, w_eq, w_ne, wl_hr, wl_hk, wl_hi, wl_eq, wl_ne, f_ss, f_sR, f_sL, lc0, lc1, lc01, DX1_addAct, BX1_addAct, y2, e1, c1, c2, fI]
theorem m_adds (hM : MS h oM) (u v w x : Int32) {a : Nat} (ha : a < 20) (y2 : hi h (oM + 7) 8 = nI a) : DX12_adds (sI (sI (sI (sI (sR fr0 0 oM) 1 u) 2 v) 3 w) 4 x) h = some ((), wI (wI (wI (wI (wI h (oM + 15) (4 * a) u) (oM + 15) (4 * a + 1) v) (oM + 15) (4 * a + 2) w) (oM + 15) (4 * a + 3) x) (oM + 7) 8 (nI (a + 1))) := by
  have hcc := o_is
  simp (disch := omega) only [ob_t, ob_n, ob_ite, e_cI, e_cL, e_cR, e_vI, e_vL, e_vR, e_d2, e_d2_a, e_d2_b, e_d2z, e_d2z_a, e_d2z_b, e_d1, e_d1_a, e_GI, e_GI_a, e_GL, e_GL_a, e_GR, e_GR_a, e_AI, e_AI_a, e_AI_b, e_AB, e_AB_a, e_AB_b, e_AZ, e_AZ_a, e_AZ_b, e_AL, e_AL_a, e_AL_b, e_AR, e_AR_a, e_AR_b, e_Len, e_Len_a, e_CI, e_CI_a, e_CI_b, e_CZ, e_CZ_a, e_And, e_kAnd, e_Or, e_kOr, e_Not, e_kNot, e_B, e_kB, e_T, e_kT, e_NN, e_kNN, e_NewA, e_NewA_a, e_NewC, e_kNewC, e_aN, e_aI, e_aI_a, e_aI_b, e_aL, e_aL_a, e_aL_b, e_aR, e_aR_a, e_aR_b, e_Call, e_kCall, e_CallV, e_kCallV, e_SetI, e_kSetI, e_SetL, e_kSetL, e_SetR, e_kSetR, e_Inc, e_Skip, e_Brk, e_Cnt, e_Ret, e_kRet, e_Ret0, e_Seq, e_kSeq0, e_kSeq1, e_kSeq2, e_kSeqR, e_If, e_kIf, e_Do, e_kDo, e_Sup, e_kN0, e_d3, e_k3a, e_k3b, e_k3c, e_P, e_kPa, e_kPb, e_UA, e_kUAa, e_kUAb, e_kUAc, e_UL, e_kULa, e_kULb, e_kULc, e_UF, e_kUFa, e_kUFb, e_Cp, e_kCp, e_Sw, e_kSwa, e_kSwb0, e_kSwb1, e_kSwbR, e_M1, e_kM1, e_MZ, e_kMZ, e_MN, e_kMN, e_Tv, e_kTv, e_Tc, e_kTc, e_lpS, e_kLp, e_kLpB0, e_kLpB1, e_kLpB2, e_kLpBR, e_kLpU, e_dwS, e_kDwB0, e_kDwC, f_II, f_LL, f_RR, f_IL, f_IR, f_LI, f_LR, f_RI, f_RL, o_iadd, o_isub, o_imul, o_iand, o_ior, o_ixor, o_ladd, o_lsub, o_lmul, o_land, o_lor, o_ishl, o_ishr, o_iushr, o_lshl, o_lcmp, o_i2l, o_l2i, o_i2b, o_i2s, o_lneg, o_imax, o_imin, o_idiv, o_irem, o_ldiv, o_lrem, r_lt, r_le, r_gt, r_ge, r_eq, r_ne, q_lt, q_le, q_gt, q_ge, q_eq, q_ne, decide_eq_true_eq, idI, and_true, true_and, and_false, false_and, or_true, true_or, or_false, false_or, not_true_eq_false, not_false_eq_true, if_true, if_false, ite_self, Bool.not_true, Bool.not_false, Bool.false_eq_true, Bool.true_eq_false, decide_true, decide_false, ne_eq, reduceIte, Nat.reduceEqDiff, Option.some.injEq, Prod.mk.injEq, eq_self, fa_lit, nI_add, pk_mul, nI_ltI, nI_leI, nI_eq, b01, b0, b1, x_hasBit, Nat.reduceLeDiff, Nat.reduceAdd, Nat.reduceMul, Nat.reduceSub, Nat.lt_irrefl, Nat.reduceLT, n_inb, nI_clamp, w_hr, w_hk, w_hl, w_eq, w_ne, wl_hr, wl_hk, wl_hi, wl_eq, wl_ne, hM.k, hM.k1, hM.k2, hM.k3, hM.k4, hM.k5, hM.k6, hM.k7, hM.k8, hM.k9, hM.k10, hM.k11, hM.k12, hM.k13, hM.k14, hM.k15, hM.k16, hM.k17, hM.k18, hM.k19, hM.k20, hM.k21, hM.k22, hM.k23, hM.k24, hM.k25, hM.k26, hM.k27, hM.k28, hM.k29, hM.k30, hM.k31, hM.k32, hM.k33, hM.k34, hM.k35, hM.r1, hM.r2, hM.r3, hM.r4, hM.r5, hM.r16, hM.r17, hM.r18, hM.r19, hM.r20, hM.r21, hM.r22, hM.r23, hM.r24, hM.r25, hM.r26, hM.r31, hM.r32, hM.r33, hM.r34, hM.r35, hM.r36, hM.r37, hM.r38, hM.r39, hM.r40, hM.r41, hM.r42, hM.r43, hM.r44, hM.r47, hM.r48, hM.r49, hM.r50, hM.r54, stI, fI, fZ, fL, stL, f_ss, f_sL, f_sR, lc0, lc1, lc01, DX12_adds, BX12_adds, y2]
end
