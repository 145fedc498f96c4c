set_option maxRecDepth 100000
set_option maxHeartbeats 1000000
/-! the text of a PORT: the model reads a LINE, on: a SLATE; any LINE but the first -/
section
variable {B : Nat → Int32} {n p : Nat} {h g k0 : St} {P : PT} {D : Nat → Nat → Prop}
theorem ml_slate (H : MRd B n (nxt B n p) h) (R : RMc (PIM P) h P) (hc : P 0 7 < 3) (h8 : P 0 4 ≤ 8) : ∃ g, DX12_slateLine (sR fr0 0 oM) h = some ((), g) ∧ ML h g ∧ OutM B n (bSlate B n p P) g := by
  have hM := H.1.1.1
  have y0 := m_has hM (w := 6) (by decide)
  rw [show 36 + 6 = 35 + 7 by decide, R.q (k := 7) (by decide) (by decide)] at y0
  have e6 : nI 12 + nI (P 0 7) = nI (12 + P 0 7) := nI_add _ _
  have e9 : nI (P 0 7) + nI 1 = nI (P 0 7 + 1) := nI_add _ _
  obtain ⟨k1, r1, x1, c1, O1⟩ := mr_hhA H (j := 8) (c := lN 47) cdw_8.symm (top := P 0 4) (by omega) (R.q (k := 4) (by decide) (by decide))
  have w1 := mw_c k1 (o := 11) (by decide) (12 + P 0 7) r1
  have l1 := ML.w k1 (o := 11) (j := 12 + P 0 7) (by decide) (by show 4 * 3 ≤ _; omega) r1
  have w2 := mw_c (wI k1 (oM + 11) (12 + P 0 7) r1) (o := 12) (by decide) (12 + P 0 7) (nI 0)
  have l2 := ML.w (wI k1 (oM + 11) (12 + P 0 7) r1) (o := 12) (j := 12 + P 0 7) (by decide) (by show 4 * 3 ≤ _; omega) (nI 0)
  have hM2 : MS (wI (wI k1 (oM + 11) (12 + P 0 7) r1) (oM + 12) (12 + P 0 7) (nI 0)) oM := ((hM.to c1.1).to w1.1).to w2.1
  have hD : ¬ (PIM P 7 (P 0 7) ∨ (7 = 6 ∧ P 0 7 = P 0 7)) := by
    rintro (⟨z, -⟩ | z)
    · unfold PIn at z; omega
    · omega
  obtain ⟨k2, g3, x2, c2, L3, l3, u7, O3⟩ : ∃ k2 g3, DX12_asks (sL (sR fr0 0 oM) 1 (lN 464134)) (wI (wI k1 (oM + 11) (12 + P 0 7) r1) (oM + 12) (12 + P 0 7) (nI 0)) = some ((), k2) ∧ Ch mTD (wI (wI k1 (oM + 11) (12 + P 0 7) r1) (oM + 12) (12 + P 0 7) (nI 0)) k2 ∧ iter (lpS msC (dCZ q_eq (dGI 12 12 (vR 0))) msB dSkip) (msF (P 0 7), k2) = some (.inl 0, msF (P 0 7), g3) ∧ ML k2 g3 ∧ (∀ j, hi g3 (oM + 7) j = hi k2 (oM + 7) j) ∧ ((∃ p2 P', bSlate B n p P = .inr (p2, P') ∧ MRd B n p2 g3 ∧ RMc (fun a b => PIM P' a b ∧ ¬ (a = 0 ∧ b = 7)) g3 P' ∧ P' 0 7 = P 0 7 + 1) ∨ ∃ e, bSlate B n p P = .inl e ∧ MFl e g3) := by
    have stop : ∀ (k2 : St) (e : Nat × Nat), MFl e k2 → iter (lpS msC (dCZ q_eq (dGI 12 12 (vR 0))) msB dSkip) (msF (P 0 7), k2) = some (.inl 0, msF (P 0 7), k2) := by
      intro k2 e K
      have hM := K.1
      obtain ⟨y0, f1, f2⟩ := K.ne
      refine iter_inr ?_
      unfold msF
      simp (disch := omega) only [nI_n10, ob_t, ob_n, ob_ite, e_cI, e_cL, e_cR, e_vI, e_vL, e_vR, e_d2, e_d2_a, e_d2_b, e_d2z, e_d2z_a, e_d2z_b, e_d1, e_d1_a, e_GI, e_GI_a, e_GL, e_GL_a, e_GR, e_GR_a, e_AI, e_AI_a, e_AI_b, e_AB, e_AB_a, e_AB_b, e_AZ, e_AZ_a, e_AZ_b, e_AL, e_AL_a, e_AL_b, e_AR, e_AR_a, e_AR_b, e_Len, e_Len_a, e_CI, e_CI_a, e_CI_b, e_CZ, e_CZ_a, e_And, e_kAnd, e_Or, e_kOr, e_Not, e_kNot, e_B, e_kB, e_T, e_kT, e_NN, e_kNN, e_NewA, e_NewA_a, e_NewC, e_kNewC, e_aN, e_aI, e_aI_a, e_aI_b, e_aL, e_aL_a, e_aL_b, e_aR, e_aR_a, e_aR_b, e_Call, e_kCall, e_CallV, e_kCallV, e_SetI, e_kSetI, e_SetL, e_kSetL, e_SetR, e_kSetR, e_Inc, e_Skip, e_Brk, e_Cnt, e_Ret, e_kRet, e_Ret0, e_Seq, e_kSeq0, e_kSeq1, e_kSeq2, e_kSeqR, e_If, e_kIf, e_Do, e_kDo, e_Sup, e_kN0, e_d3, e_k3a, e_k3b, e_k3c, e_P, e_kPa, e_kPb, e_UA, e_kUAa, e_kUAb, e_kUAc, e_UL, e_kULa, e_kULb, e_kULc, e_UF, e_kUFa, e_kUFb, e_Cp, e_kCp, e_Sw, e_kSwa, e_kSwb0, e_kSwb1, e_kSwbR, e_M1, e_kM1, e_MZ, e_kMZ, e_MN, e_kMN, e_Tv, e_kTv, e_Tc, e_kTc, e_lpS, e_kLp, e_kLpB0, e_kLpB1, e_kLpB2, e_kLpBR, e_kLpU, e_dwS, e_kDwB0, e_kDwC, f_II, f_LL, f_RR, f_IL, f_IR, f_LI, f_LR, f_RI, f_RL, and_true, true_and, and_false, false_and, or_true, true_or, or_false, false_or, not_true_eq_false, not_false_eq_true, if_true, if_false, ite_self, Bool.not_true, Bool.not_false, Bool.false_eq_true, Bool.true_eq_false, decide_true, decide_false, ne_eq, reduceIte, Nat.reduceEqDiff, Option.some.injEq, Prod.mk.injEq, eq_self, r_lt, r_le, r_gt, r_ge, r_eq, r_ne, q_lt, q_le, q_gt, q_ge, q_eq, q_ne, decide_eq_true_eq, b01, b0, b1, o_iadd, o_imul, n_inb, nI_clamp, w_hr, w_hk, w_hl, w_eq, w_ne, wl_hr, wl_hk, wl_hi, wl_eq, wl_ne, stI, idI, fI, fL, f_ss, f_sR, f_sL, lc0, lc1, lc01, fa_lit, fa_litL, hM.k, f1, f2]
    obtain ⟨a, p1, e1, rfl, K, -, -⟩ | ⟨e, e1, K⟩ := O1
    · have R2 := (((R.to c1 mT6).w (j := 6) (k := P 0 7) (Or.inr (Or.inl (by decide))) a).wo (j := 7) (k := P 0 7) (Or.inr (Or.inl (by decide))) hD (nI 0))
      obtain ⟨k2, x2, c2, ⟨z, K2⟩ | ⟨z, K2⟩⟩ := mr_asks ((K.to w1 mW0 mW5).to w2 mW0 mW5) (j := 11) (c := lN 464134) cdw_11.symm
      · obtain ⟨g3, i1, i2, i7, i3⟩ := ms_loop hc 6 0 p1 _ k2 _ rfl (by decide) hD z K2 (R2.to c2 mT6) (by rw [(c2.2 _ (mT6 _ (by omega))).1, w_eq])
        refine ⟨k2, g3, x2, c2, i1, i2, i7, ?_⟩
        obtain ⟨w', p2, Q, e2, K3, R3, k12⟩ | ⟨e, e2, K3⟩ := i3
        · obtain ⟨j1, j2, j3, j4, j5, j6, j7⟩ := pWs_r 6 0 _ _ _ _ _ (by decide) e2
          refine Or.inl ⟨p2, _, by unfold bSlate; rw [e1, bnd_r, e2, bnd_r], K3, ?_, up_eq _ _ _ _⟩
          have R4 := R3.add (j := 7) (k := P 0 7) (v := w') (Or.inr (Or.inl (by decide))) k12
          intro a' b' hz
          obtain ⟨⟨hz, h9⟩, h07⟩ := hz
          have v0 : ∀ k, k ≠ 7 → up (up Q 7 (P 0 7) w') 0 7 (P 0 7 + 1) 0 k = P 0 k := fun k hk1 => by
            rw [up_o _ _ (by omega), up_o _ _ (by omega), j1 _ _ (by decide), up_o _ _ (by omega)]
          have hm : (((PIM P a' b' ∨ (a' = 6 ∧ b' = P 0 7)) ∨ (a' = 8 ∧ 6 * P 0 7 + 0 ≤ b' ∧ b' < 6 * P 0 7 + w')) ∨ (a' = 7 ∧ b' = P 0 7)) := by
            obtain y | y := pin_gen (P := P) (d4 := 0) (d5 := 0) (d6 := 0) (d7 := 1) (d9 := 0) (v0 4 (by decide)) (v0 5 (by decide)) (v0 6 (by decide)) (up_eq _ _ _ _) (by rw [up_o _ _ (by omega), up_o _ _ (by omega), j1 _ _ (by decide), up_o _ _ (by omega)]; rfl) (fun s hs1 => by rw [up_o _ _ (by omega), up_o _ _ (by omega), j1 _ _ (by decide), up_o _ _ (by omega)]) hz
            · exact Or.inl (Or.inl (Or.inl ⟨y, h9⟩))
            · rcases y with y | y | y | y | y | y
              · omega
              · omega
              · omega
              · by_cases w : a' = 6
                · exact Or.inl (Or.inl (Or.inr ⟨w, by omega⟩))
                · exact Or.inr ⟨by omega, by omega⟩
              · have yb : b' / 6 = P 0 7 := by omega
                have y4 := y.2.2.2
                rw [yb, up_o _ _ (by omega), up_eq] at y4
                exact Or.inl (Or.inr ⟨y.1, by omega, by omega⟩)
              · omega
          obtain ⟨v1, v2⟩ := R4 a' b' hm
          refine ⟨v1, v2.trans ?_⟩
          rw [show up (up Q 7 (P 0 7) w') 0 7 (P 0 7 + 1) a' b' = up Q 7 (P 0 7) w' a' b' from up_o _ _ (by omega)]
        · exact Or.inr ⟨e, by unfold bSlate; rw [e1, bnd_r, e2, bnd_l], K3⟩
      · refine ⟨k2, k2, x2, c2, stop k2 _ K2, ML.rf _, fun _ => rfl, Or.inr ⟨(1, p1), ?_, K2⟩⟩
        unfold bSlate
        rw [e1, bnd_r]
        unfold pWs pA
        dsimp only
        rw [if_neg (by rw [z]; decide), bnd_l, bnd_l]
    · have K2 := (K.to w1 mW0).to w2 mW0
      exact ⟨_, _, mf_asks K2 _, Ch.rf _ _, stop _ e K2, ML.rf _, fun _ => rfl, Or.inr ⟨e, by unfold bSlate; rw [e1, bnd_l], K2⟩⟩
  have L1 : LX12_slateLine_1 (sI (sR fr0 0 oM) 1 (nI (12 + P 0 7))) k2 = some (.inl 0, sI (sR fr0 0 oM) 1 (nI (12 + P 0 7)), g3) := by
    unfold LX12_slateLine_1
    rw [e_Loop]
    exact L3
  have hM3 : MS g3 oM := (hM2.to c2.1).to l3.1.1
  obtain ⟨t1, t2, t3, t4⟩ := ml_tail hM3 (w := 6) (c := P 0 7) (by decide) (by rw [u7, (c2.2 _ (mT6 _ (by omega))).1, w_ne (by omega), w_ne (by omega)]; exact (R.to c1 mT6).q (k := 7) (by decide) (by decide))
  refine ⟨_, ?_, (((((ML.tm c1).tr l1).tr l2).tr (ML.tm c2)).tr l3).tr t3, ?_⟩
  · simp (disch := omega) only [DX12_slateLine, BX12_slateLine, nI_n10, ob_t, ob_n, ob_ite, e_cI, e_cL, e_cR, e_vI, e_vL, e_vR, e_d2, e_d2_a, e_d2_b, e_d2z, e_d2z_a, e_d2z_b, e_d1, e_d1_a, e_GI, e_GI_a, e_GL, e_GL_a, e_GR, e_GR_a, e_AI, e_AI_a, e_AI_b, e_AB, e_AB_a, e_AB_b, e_AZ, e_AZ_a, e_AZ_b, e_AL, e_AL_a, e_AL_b, e_AR, e_AR_a, e_AR_b, e_Len, e_Len_a, e_CI, e_CI_a, e_CI_b, e_CZ, e_CZ_a, e_And, e_kAnd, e_Or, e_kOr, e_Not, e_kNot, e_B, e_kB, e_T, e_kT, e_NN, e_kNN, e_NewA, e_NewA_a, e_NewC, e_kNewC, e_aN, e_aI, e_aI_a, e_aI_b, e_aL, e_aL_a, e_aL_b, e_aR, e_aR_a, e_aR_b, e_Call, e_kCall, e_CallV, e_kCallV, e_SetI, e_kSetI, e_SetL, e_kSetL, e_SetR, e_kSetR, e_Inc, e_Skip, e_Brk, e_Cnt, e_Ret, e_kRet, e_Ret0, e_Seq, e_kSeq0, e_kSeq1, e_kSeq2, e_kSeqR, e_If, e_kIf, e_Do, e_kDo, e_Sup, e_kN0, e_d3, e_k3a, e_k3b, e_k3c, e_P, e_kPa, e_kPb, e_UA, e_kUAa, e_kUAb, e_kUAc, e_UL, e_kULa, e_kULb, e_kULc, e_UF, e_kUFa, e_kUFb, e_Cp, e_kCp, e_Sw, e_kSwa, e_kSwb0, e_kSwb1, e_kSwbR, e_M1, e_kM1, e_MZ, e_kMZ, e_MN, e_kMN, e_Tv, e_kTv, e_Tc, e_kTc, e_lpS, e_kLp, e_kLpB0, e_kLpB1, e_kLpB2, e_kLpBR, e_kLpU, e_dwS, e_kDwB0, e_kDwC, f_II, f_LL, f_RR, f_IL, f_IR, f_LI, f_LR, f_RI, f_RL, and_true, true_and, and_false, false_and, or_true, true_or, or_false, false_or, not_true_eq_false, not_false_eq_true, if_true, if_false, ite_self, Bool.not_true, Bool.not_false, Bool.false_eq_true, Bool.true_eq_false, decide_true, decide_false, ne_eq, reduceIte, Nat.reduceEqDiff, Option.some.injEq, Prod.mk.injEq, eq_self, r_lt, r_le, r_gt, r_ge, r_eq, r_ne, q_lt, q_le, q_gt, q_ge, q_eq, q_ne, decide_eq_true_eq, b01, b0, b1, o_iadd, o_imul, n_inb, nI_clamp, w_hr, w_hk, w_hl, w_eq, w_ne, wl_hr, wl_hk, wl_hi, wl_eq, wl_ne, stI, idI, fI, fL, f_ss, f_sR, f_sL, lc0, lc1, lc01, fa_lit, fa_litL, hM.k, hM.k1, hM.k2, hM.k3, hM.k4, hM.k5, hM.k6, hM.k7, hM.k8, hM.k9, hM.k10, hM.k11, hM.k12, hM.k13, hM.k14, hM.k15, hM.k16, hM.k17, hM.k18, hM.k19, hM.k20, hM.k21, hM.k22, hM.k23, hM.k24, hM.k25, hM.k26, hM.k27, hM.k28, hM.k29, hM.k30, hM.k31, hM.k32, hM.k33, hM.k34, hM.k35, hM.r1, hM.r2, hM.r3, hM.r4, hM.r5, hM.r16, hM.r17, hM.r18, hM.r19, hM.r20, hM.r21, hM.r22, hM.r23, hM.r24, hM.r25, hM.r26, hM.r31, hM.r32, hM.r33, hM.r34, hM.r35, hM.r36, hM.r37, hM.r38, hM.r39, hM.r40, hM.r41, hM.r42, hM.r43, hM.r44, hM.r47, hM.r48, hM.r49, hM.r50, hM.r54, y0, x1, x2, L1, t1, t2, c1.1.1, c1.1.2.1, c2.1.1, c2.1.2.1, l3.1.1.1, l3.1.1.2.1, e6, e9]
  · obtain ⟨p2, P', e1, K, R3, e7⟩ | ⟨e, e1, K⟩ := O3
    · refine Or.inl ⟨p2, P', e1, K.to t4 mW0 mW5, fun a b hz => ?_⟩
      by_cases z : a = 0 ∧ b = 7
      · obtain ⟨rfl, rfl⟩ := z
        refine ⟨Or.inl ⟨rfl, by decide⟩, ?_⟩
        rw [e7]
        exact w_eq _ _ _ _
      · obtain ⟨v1, v2⟩ := (R3.wo (j := 0) (k := 7) (Or.inl ⟨rfl, by decide⟩) (fun q => q.2 ⟨rfl, rfl⟩) (nI (P 0 7 + 1))) a b ⟨hz, z⟩
        exact ⟨v1, v2⟩
    · exact Or.inr ⟨e, e1, K.to t4 mW0⟩
end
