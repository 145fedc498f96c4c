set_option maxRecDepth 100000
set_option maxHeartbeats 1000000
/-! the text of a PORT: what the model has read, as a PORT -/
section
variable {B : Nat → Int32} {n p : Nat} {h g k0 : St} {P : PT}
theorem MP.keepS {c : Nat} (H : MP h oM c P) (hW : WFP P) (e : ∀ i j, i < 10 → mz i * c ≤ j → j < mz i * c + mz i → hi g (oM + 6 + i) j = hi h (oM + 6 + i) j) : MP g oM c P := by
  have n0 : ∀ k, k < 1 → hi g (oM + 6) (1 * c + k) = hi h (oM + 6) (1 * c + k) := fun k hk1 => e 0 (1 * c + k) (by decide) (show 1 * c ≤ 1 * c + k by omega) (show 1 * c + k < 1 * c + 1 by omega)
  have n1 : ∀ k, k < 9 → hi g (oM + 7) (9 * c + k) = hi h (oM + 7) (9 * c + k) := fun k hk1 => e 1 (9 * c + k) (by decide) (show 9 * c ≤ 9 * c + k by omega) (show 9 * c + k < 9 * c + 9 by omega)
  have n2 : ∀ k, k < 8 → hi g (oM + 8) (8 * c + k) = hi h (oM + 8) (8 * c + k) := fun k hk1 => e 2 (8 * c + k) (by decide) (show 8 * c ≤ 8 * c + k by omega) (show 8 * c + k < 8 * c + 8 by omega)
  have n3 : ∀ k, k < 24 → hi g (oM + 9) (24 * c + k) = hi h (oM + 9) (24 * c + k) := fun k hk1 => e 3 (24 * c + k) (by decide) (show 24 * c ≤ 24 * c + k by omega) (show 24 * c + k < 24 * c + 24 by omega)
  have n4 : ∀ k, k < 10 → hi g (oM + 10) (10 * c + k) = hi h (oM + 10) (10 * c + k) := fun k hk1 => e 4 (10 * c + k) (by decide) (show 10 * c ≤ 10 * c + k by omega) (show 10 * c + k < 10 * c + 10 by omega)
  have n5 : ∀ k, k < 3 → hi g (oM + 11) (3 * c + k) = hi h (oM + 11) (3 * c + k) := fun k hk1 => e 5 (3 * c + k) (by decide) (show 3 * c ≤ 3 * c + k by omega) (show 3 * c + k < 3 * c + 3 by omega)
  have n6 : ∀ k, k < 3 → hi g (oM + 12) (3 * c + k) = hi h (oM + 12) (3 * c + k) := fun k hk1 => e 6 (3 * c + k) (by decide) (show 3 * c ≤ 3 * c + k by omega) (show 3 * c + k < 3 * c + 3 by omega)
  have n7 : ∀ k, k < 18 → hi g (oM + 13) (18 * c + k) = hi h (oM + 13) (18 * c + k) := fun k hk1 => e 7 (18 * c + k) (by decide) (show 18 * c ≤ 18 * c + k by omega) (show 18 * c + k < 18 * c + 18 by omega)
  have n8 : ∀ k, k < 48 → hi g (oM + 14) (48 * c + k) = hi h (oM + 14) (48 * c + k) := fun k hk1 => e 8 (48 * c + k) (by decide) (show 48 * c ≤ 48 * c + k by omega) (show 48 * c + k < 48 * c + 48 by omega)
  have n9 : ∀ k, k < 80 → hi g (oM + 15) (80 * c + k) = hi h (oM + 15) (80 * c + k) := fun k hk1 => e 9 (80 * c + k) (by decide) (show 80 * c ≤ 80 * c + k by omega) (show 80 * c + k < 80 * c + 80 by omega)
  have w05 : P 0 5 ≤ 12 := hW.2.2.2.2.1
  have w06 : P 0 6 ≤ 5 := hW.2.2.2.2.2.1
  have w07 : P 0 7 ≤ 3 := hW.2.2.2.2.2.2.1
  have w04 : P 0 4 ≤ 8 := hW.2.2.2.1
  have w90 : P 9 0 ≤ 12 := hW.2.2.2.2.2.2.2.1
  have w92 : P 9 2 ≤ 20 := hW.2.2.2.2.2.2.2.2.2.1
  obtain ⟨b1, b2, b3, b4, b5, b6, b7, b8, b9, b10⟩ := H
  refine ⟨?_, fun w hw => ?_, fun k hk1 => ?_, fun k hk1 => ⟨?_, ?_⟩, fun k hk1 => ⟨?_, ?_⟩, fun s hs => ⟨?_, ?_, fun i hi1 => ?_⟩, fun k t hk1 ht => ?_, fun j t hj ht => ?_, fun j hj hz => ?_, b10⟩
  · have e0 := n0 0 (by decide)
    rw [show 1 * c + 0 = c by omega] at e0
    rw [e0]; exact b1
  · rw [n1 w hw]; exact b2 w hw
  · rw [n2 k (by omega)]; exact b3 k hk1
  · rw [show 24 * c + 2 * k = 24 * c + (2 * k) by omega, n3 (2 * k) (by omega)]; exact (b4 k hk1).1
  · rw [show 24 * c + 2 * k + 1 = 24 * c + (2 * k + 1) by omega, n3 (2 * k + 1) (by omega)]; exact (b4 k hk1).2
  · rw [n4 (2 * k) (by omega)]; exact (b5 k hk1).1
  · rw [show 10 * c + 2 * k + 1 = 10 * c + (2 * k + 1) by omega, n4 (2 * k + 1) (by omega)]; exact (b5 k hk1).2
  · rw [n5 s (by omega)]; exact (b6 s hs).1
  · rw [n6 s (by omega)]; exact (b6 s hs).2.1
  · have hq := hW.sl hs
    rw [show 18 * c + 6 * s + i = 18 * c + (6 * s + i) by omega, n7 (6 * s + i) (by omega), show 18 * c + (6 * s + i) = 18 * c + 6 * s + i by omega]
    exact (b6 s hs).2.2 i hi1
  · rw [show 48 * c + 4 * k + t = 48 * c + (4 * k + t) by omega, n8 (4 * k + t) (by omega), show 48 * c + (4 * k + t) = 48 * c + 4 * k + t by omega]
    exact b7 k t hk1 ht
  · rw [show 80 * c + 4 * j + t = 80 * c + (4 * j + t) by omega, n9 (4 * j + t) (by omega), show 80 * c + (4 * j + t) = 80 * c + 4 * j + t by omega]
    exact b8 j t hj ht
  · rw [show 80 * c + 4 * j + 3 = 80 * c + (4 * j + 3) by omega, n9 (4 * j + 3) (by omega), show 80 * c + (4 * j + 3) = 80 * c + 4 * j + 3 by omega]
    exact b9 j hj hz
theorem MP.read (R : RMc (PIM P) h P) (hW : WQ P) : MP h oM 4 (finP P) := by
  obtain ⟨⟨w1, w2, w3, w4, w5, w6, w7, w8, z1, z2, v1, v2, v3, v4, v5⟩, -, -⟩ := hW
  have u : ∀ j k, j ≠ 9 ∨ k ≠ 0 → finP P j k = P j k := fun j k hj => up_o _ _ (by omega)
  have u0 : finP P 9 0 = P 9 1 := up_eq _ _ _ _
  have ac : finP P 9 2 = 0 := (u 9 2 (by omega)).trans z2
  have r : ∀ j k, PIn P j k → ¬ (j = 9 ∧ k = 0) → hi h (oM + (mA j k).1) (mA j k).2 = nI (P j k) := fun j k a b => (R j k ⟨a, b⟩).2
  refine ⟨?_, fun w hw => ?_, fun k hk1 => ?_, fun k hk1 => ⟨?_, ?_⟩, fun k hk1 => ⟨?_, ?_⟩, fun s hs => ⟨?_, ?_, fun i hi1 => ?_⟩, fun k t hk1 ht => ?_, fun j t hj ht => ?_, fun j hj hz => ?_, ?_⟩
  · rw [u 0 0 (by omega)]; exact R.q0
  · unfold hsP
    by_cases y : w < 7
    · rw [if_pos y, u _ _ (by omega)]
      have := R.q (k := w + 1) (by omega) (by omega)
      rw [show 35 + (w + 1) = 9 * 4 + w by omega] at this
      exact this
    · rw [if_neg y]
      by_cases x : w = 7
      · rw [if_pos x, u0, x]; exact R.q9
      · rw [if_neg x, u 9 2 (by omega), show w = 8 by omega]
        exact r 9 2 (Or.inr (Or.inr (Or.inr (Or.inr (Or.inr (Or.inr (Or.inr (Or.inr (Or.inr (Or.inl ⟨rfl, by decide⟩)))))))))) (by omega)
  · rw [u 0 4 (by omega)] at hk1
    rw [u _ _ (by omega)]
    exact r 1 k (Or.inr (Or.inl ⟨rfl, hk1⟩)) (by omega)
  · rw [u 0 5 (by omega)] at hk1
    rw [u _ _ (by omega)]
    exact r 2 k (Or.inr (Or.inr (Or.inl ⟨rfl, hk1⟩))) (by omega)
  · rw [u 0 5 (by omega)] at hk1
    rw [u _ _ (by omega), show 24 * 4 + 2 * k + 1 = 97 + 2 * k by omega]
    exact r 3 k (Or.inr (Or.inr (Or.inr (Or.inl ⟨rfl, hk1⟩)))) (by omega)
  · rw [u 0 6 (by omega)] at hk1
    rw [u _ _ (by omega)]
    exact r 4 k (Or.inr (Or.inr (Or.inr (Or.inr (Or.inl ⟨rfl, hk1⟩))))) (by omega)
  · rw [u 0 6 (by omega)] at hk1
    rw [u _ _ (by omega), show 10 * 4 + 2 * k + 1 = 41 + 2 * k by omega]
    exact r 5 k (Or.inr (Or.inr (Or.inr (Or.inr (Or.inr (Or.inl ⟨rfl, hk1⟩)))))) (by omega)
  · rw [u 0 7 (by omega)] at hs
    rw [u _ _ (by omega)]
    exact r 6 s (Or.inr (Or.inr (Or.inr (Or.inr (Or.inr (Or.inr (Or.inl ⟨rfl, hs⟩))))))) (by omega)
  · rw [u 0 7 (by omega)] at hs
    rw [u _ _ (by omega)]
    exact r 7 s (Or.inr (Or.inr (Or.inr (Or.inr (Or.inr (Or.inr (Or.inr (Or.inl ⟨rfl, hs⟩)))))))) (by omega)
  · rw [u 0 7 (by omega)] at hs
    rw [u _ _ (by omega)] at hi1
    obtain ⟨-, -, q3, -⟩ := v4 s hs
    have e1 : (6 * s + i) / 6 = s := by omega
    have e2 : (6 * s + i) % 6 = i := by omega
    rw [u _ _ (by omega), show 18 * 4 + 6 * s + i = 72 + (6 * s + i) by omega]
    exact r 8 (6 * s + i) (Or.inr (Or.inr (Or.inr (Or.inr (Or.inr (Or.inr (Or.inr (Or.inr (Or.inl ⟨rfl, by omega, by rw [e1]; exact hs, by rw [e1, e2]; exact hi1⟩))))))))) (by omega)
  · rw [u0] at hk1
    rw [u _ _ (by omega)]
    have := r (10 + t) k (Or.inr (Or.inr (Or.inr (Or.inr (Or.inr (Or.inr (Or.inr (Or.inr (Or.inr (Or.inr ⟨by omega, by omega, hk1⟩)))))))))) (by omega)
    rcases (show t = 0 ∨ t = 1 ∨ t = 2 ∨ t = 3 by omega) with rfl | rfl | rfl | rfl <;> exact this
  · omega
  · omega
  · rw [u 9 1 (by omega), u0, ac]
    rfl
theorem mclears (hM : MS h oM) : ∃ g, DX12_clears (sR fr0 0 oM) h = some ((), g) ∧ ML h g ∧ Ch mWD h g ∧ RMc (PIM Z0) g Z0 := by
  have w0 := mw_c h (o := 6) (by decide) 4 (nI 0)
  have l0 := ML.w h (o := 6) (j := 4) (by decide) (by decide) (nI 0)
  obtain ⟨g, L1, a1, a2, a3, a4⟩ : ∃ g, LX12_clears_1 (sI (sR fr0 0 oM) 1 (nI 0)) (wI h (oM + 6) 4 (nI 0)) = some (.inl 0, sI (sR fr0 0 oM) 1 (nI 9), g) ∧ ML (wI h (oM + 6) 4 (nI 0)) g ∧ Ch mWD (wI h (oM + 6) 4 (nI 0)) g ∧ (∀ j, j < 9 → hi g (oM + 7) (36 + j) = nI 0) ∧ hi g (oM + 6) 4 = nI 0 := by
    unfold LX12_clears_1
    refine loop_g (fun k => sI (sR fr0 0 oM) 1 (nI k)) (fun k g => ML (wI h (oM + 6) 4 (nI 0)) g ∧ Ch mWD (wI h (oM + 6) 4 (nI 0)) g ∧ (∀ j, j < k → hi g (oM + 7) (36 + j) = nI 0) ∧ hi g (oM + 6) 4 = nI 0) 9 rfl ⟨ML.rf _, Ch.rf _ _, fun j hj => by omega, w_eq _ _ _ _⟩ (fun k g hk1 hI => ?_) (fun g hI => ?_)
    · obtain ⟨a1, a2, a3, a4⟩ := hI
      have hM2 : MS g oM := (hM.to w0.1).to a2.1
      have x1 := m_tellsOf hM2 (w := k) hk1 (nI 0)
      have e1 : (nI k < nI 9) = True := by rw [nI_ltI (by omega) (by decide)]; exact eq_true hk1
      have e5 : nI k + nI 1 = nI (k + 1) := nI_add _ _
      refine ⟨wI g (oM + 7) (36 + k) (nI 0), ?_, a1.tr (ML.w _ (by decide) (by show 4 * 9 ≤ _; omega) _), a2.tr (mw_c _ (by decide) _ _), fun j hj => ?_, by rw [w_ne (by omega)]; exact a4⟩
      · simp (disch := omega) only [nI_n10, ob_t, ob_n, ob_ite, e_cI, e_cL, e_cR, e_vI, e_vL, e_vR, e_d2, e_d2_a, e_d2_b, e_d2z, e_d2z_a, e_d2z_b, e_d1, e_d1_a, e_GI, e_GI_a, e_GL, e_GL_a, e_GR, e_GR_a, e_AI, e_AI_a, e_AI_b, e_AB, e_AB_a, e_AB_b, e_AZ, e_AZ_a, e_AZ_b, e_AL, e_AL_a, e_AL_b, e_AR, e_AR_a, e_AR_b, e_Len, e_Len_a, e_CI, e_CI_a, e_CI_b, e_CZ, e_CZ_a, e_And, e_kAnd, e_Or, e_kOr, e_Not, e_kNot, e_B, e_kB, e_T, e_kT, e_NN, e_kNN, e_NewA, e_NewA_a, e_NewC, e_kNewC, e_aN, e_aI, e_aI_a, e_aI_b, e_aL, e_aL_a, e_aL_b, e_aR, e_aR_a, e_aR_b, e_Call, e_kCall, e_CallV, e_kCallV, e_SetI, e_kSetI, e_SetL, e_kSetL, e_SetR, e_kSetR, e_Inc, e_Skip, e_Brk, e_Cnt, e_Ret, e_kRet, e_Ret0, e_Seq, e_kSeq0, e_kSeq1, e_kSeq2, e_kSeqR, e_If, e_kIf, e_Do, e_kDo, e_Sup, e_kN0, e_d3, e_k3a, e_k3b, e_k3c, e_P, e_kPa, e_kPb, e_UA, e_kUAa, e_kUAb, e_kUAc, e_UL, e_kULa, e_kULb, e_kULc, e_UF, e_kUFa, e_kUFb, e_Cp, e_kCp, e_Sw, e_kSwa, e_kSwb0, e_kSwb1, e_kSwbR, e_M1, e_kM1, e_MZ, e_kMZ, e_MN, e_kMN, e_Tv, e_kTv, e_Tc, e_kTc, e_lpS, e_kLp, e_kLpB0, e_kLpB1, e_kLpB2, e_kLpBR, e_kLpU, e_dwS, e_kDwB0, e_kDwC, f_II, f_LL, f_RR, f_IL, f_IR, f_LI, f_LR, f_RI, f_RL, and_true, true_and, and_false, false_and, or_true, true_or, or_false, false_or, not_true_eq_false, not_false_eq_true, if_true, if_false, ite_self, Bool.not_true, Bool.not_false, Bool.false_eq_true, Bool.true_eq_false, decide_true, decide_false, ne_eq, reduceIte, Nat.reduceEqDiff, Option.some.injEq, Prod.mk.injEq, eq_self, r_lt, r_le, r_gt, r_ge, r_eq, r_ne, q_lt, q_le, q_gt, q_ge, q_eq, q_ne, decide_eq_true_eq, b01, b0, b1, o_iadd, o_imul, n_inb, nI_clamp, w_hr, w_hk, w_hl, w_eq, w_ne, wl_hr, wl_hk, wl_hi, wl_eq, wl_ne, stI, idI, fI, fL, f_ss, f_sR, f_sL, lc0, lc1, lc01, fa_lit, fa_litL, hM2.k, x1, e1, e5]
      · by_cases y : j = k
        · rw [y, w_eq]
        · rw [w_ne (by omega)]; exact a3 j (by omega)
    · have e1 : (nI 9 < nI 9) = False := eq_false (by decide)
      simp (disch := omega) only [nI_n10, ob_t, ob_n, ob_ite, e_cI, e_cL, e_cR, e_vI, e_vL, e_vR, e_d2, e_d2_a, e_d2_b, e_d2z, e_d2z_a, e_d2z_b, e_d1, e_d1_a, e_GI, e_GI_a, e_GL, e_GL_a, e_GR, e_GR_a, e_AI, e_AI_a, e_AI_b, e_AB, e_AB_a, e_AB_b, e_AZ, e_AZ_a, e_AZ_b, e_AL, e_AL_a, e_AL_b, e_AR, e_AR_a, e_AR_b, e_Len, e_Len_a, e_CI, e_CI_a, e_CI_b, e_CZ, e_CZ_a, e_And, e_kAnd, e_Or, e_kOr, e_Not, e_kNot, e_B, e_kB, e_T, e_kT, e_NN, e_kNN, e_NewA, e_NewA_a, e_NewC, e_kNewC, e_aN, e_aI, e_aI_a, e_aI_b, e_aL, e_aL_a, e_aL_b, e_aR, e_aR_a, e_aR_b, e_Call, e_kCall, e_CallV, e_kCallV, e_SetI, e_kSetI, e_SetL, e_kSetL, e_SetR, e_kSetR, e_Inc, e_Skip, e_Brk, e_Cnt, e_Ret, e_kRet, e_Ret0, e_Seq, e_kSeq0, e_kSeq1, e_kSeq2, e_kSeqR, e_If, e_kIf, e_Do, e_kDo, e_Sup, e_kN0, e_d3, e_k3a, e_k3b, e_k3c, e_P, e_kPa, e_kPb, e_UA, e_kUAa, e_kUAb, e_kUAc, e_UL, e_kULa, e_kULb, e_kULc, e_UF, e_kUFa, e_kUFb, e_Cp, e_kCp, e_Sw, e_kSwa, e_kSwb0, e_kSwb1, e_kSwbR, e_M1, e_kM1, e_MZ, e_kMZ, e_MN, e_kMN, e_Tv, e_kTv, e_Tc, e_kTc, e_lpS, e_kLp, e_kLpB0, e_kLpB1, e_kLpB2, e_kLpBR, e_kLpU, e_dwS, e_kDwB0, e_kDwC, f_II, f_LL, f_RR, f_IL, f_IR, f_LI, f_LR, f_RI, f_RL, and_true, true_and, and_false, false_and, or_true, true_or, or_false, false_or, not_true_eq_false, not_false_eq_true, if_true, if_false, ite_self, Bool.not_true, Bool.not_false, Bool.false_eq_true, Bool.true_eq_false, decide_true, decide_false, ne_eq, reduceIte, Nat.reduceEqDiff, Option.some.injEq, Prod.mk.injEq, eq_self, r_lt, r_le, r_gt, r_ge, r_eq, r_ne, q_lt, q_le, q_gt, q_ge, q_eq, q_ne, decide_eq_true_eq, b01, b0, b1, o_iadd, o_imul, n_inb, nI_clamp, w_hr, w_hk, w_hl, w_eq, w_ne, wl_hr, wl_hk, wl_hi, wl_eq, wl_ne, stI, idI, fI, fL, f_ss, f_sR, f_sL, lc0, lc1, lc01, fa_lit, fa_litL, e1]
  refine ⟨g, ?_, l0.tr a1, w0.tr a2, ?_⟩
  · simp (disch := omega) only [DX12_clears, BX12_clears, nI_n10, ob_t, ob_n, ob_ite, e_cI, e_cL, e_cR, e_vI, e_vL, e_vR, e_d2, e_d2_a, e_d2_b, e_d2z, e_d2z_a, e_d2z_b, e_d1, e_d1_a, e_GI, e_GI_a, e_GL, e_GL_a, e_GR, e_GR_a, e_AI, e_AI_a, e_AI_b, e_AB, e_AB_a, e_AB_b, e_AZ, e_AZ_a, e_AZ_b, e_AL, e_AL_a, e_AL_b, e_AR, e_AR_a, e_AR_b, e_Len, e_Len_a, e_CI, e_CI_a, e_CI_b, e_CZ, e_CZ_a, e_And, e_kAnd, e_Or, e_kOr, e_Not, e_kNot, e_B, e_kB, e_T, e_kT, e_NN, e_kNN, e_NewA, e_NewA_a, e_NewC, e_kNewC, e_aN, e_aI, e_aI_a, e_aI_b, e_aL, e_aL_a, e_aL_b, e_aR, e_aR_a, e_aR_b, e_Call, e_kCall, e_CallV, e_kCallV, e_SetI, e_kSetI, e_SetL, e_kSetL, e_SetR, e_kSetR, e_Inc, e_Skip, e_Brk, e_Cnt, e_Ret, e_kRet, e_Ret0, e_Seq, e_kSeq0, e_kSeq1, e_kSeq2, e_kSeqR, e_If, e_kIf, e_Do, e_kDo, e_Sup, e_kN0, e_d3, e_k3a, e_k3b, e_k3c, e_P, e_kPa, e_kPb, e_UA, e_kUAa, e_kUAb, e_kUAc, e_UL, e_kULa, e_kULb, e_kULc, e_UF, e_kUFa, e_kUFb, e_Cp, e_kCp, e_Sw, e_kSwa, e_kSwb0, e_kSwb1, e_kSwbR, e_M1, e_kM1, e_MZ, e_kMZ, e_MN, e_kMN, e_Tv, e_kTv, e_Tc, e_kTc, e_lpS, e_kLp, e_kLpB0, e_kLpB1, e_kLpB2, e_kLpBR, e_kLpU, e_dwS, e_kDwB0, e_kDwC, f_II, f_LL, f_RR, f_IL, f_IR, f_LI, f_LR, f_RI, f_RL, and_true, true_and, and_false, false_and, or_true, true_or, or_false, false_or, not_true_eq_false, not_false_eq_true, if_true, if_false, ite_self, Bool.not_true, Bool.not_false, Bool.false_eq_true, Bool.true_eq_false, decide_true, decide_false, ne_eq, reduceIte, Nat.reduceEqDiff, Option.some.injEq, Prod.mk.injEq, eq_self, r_lt, r_le, r_gt, r_ge, r_eq, r_ne, q_lt, q_le, q_gt, q_ge, q_eq, q_ne, decide_eq_true_eq, b01, b0, b1, o_iadd, o_imul, n_inb, nI_clamp, w_hr, w_hk, w_hl, w_eq, w_ne, wl_hr, wl_hk, wl_hi, wl_eq, wl_ne, stI, idI, fI, fL, f_ss, f_sR, f_sL, lc0, lc1, lc01, fa_lit, fa_litL, hM.k, hM.k1, hM.k2, hM.k3, hM.k4, hM.k5, hM.k6, hM.k7, hM.k8, hM.k9, hM.k10, hM.k11, hM.k12, hM.k13, hM.k14, hM.k15, hM.k16, hM.k17, hM.k18, hM.k19, hM.k20, hM.k21, hM.k22, hM.k23, hM.k24, hM.k25, hM.k26, hM.k27, hM.k28, hM.k29, hM.k30, hM.k31, hM.k32, hM.k33, hM.k34, hM.k35, hM.r1, hM.r2, hM.r3, hM.r4, hM.r5, hM.r16, hM.r17, hM.r18, hM.r19, hM.r20, hM.r21, hM.r22, hM.r23, hM.r24, hM.r25, hM.r26, hM.r31, hM.r32, hM.r33, hM.r34, hM.r35, hM.r36, hM.r37, hM.r38, hM.r39, hM.r40, hM.r41, hM.r42, hM.r43, hM.r44, hM.r47, hM.r48, hM.r49, hM.r50, hM.r54, L1]
  · intro a b hz
    refine ⟨pin_v hz, ?_⟩
    obtain ⟨hz, h9⟩ := hz
    have hz2 : (a = 0 ∧ b < 8) ∨ (a = 9 ∧ b < 3) := by
      unfold PIn Z0 at hz
      rcases hz with z | z | z | z | z | z | z | z | z | z | z
      · exact Or.inl z
      · omega
      · omega
      · omega
      · omega
      · omega
      · omega
      · omega
      · omega
      · exact Or.inr z
      · omega
    rcases hz2 with ⟨rfl, z⟩ | ⟨rfl, z⟩
    · by_cases y : b = 0
      · subst y; exact a4
      · have := a3 (b - 1) (by omega)
        rw [show 36 + (b - 1) = 35 + b by omega] at this
        unfold mA
        rw [if_pos rfl, if_neg y]
        exact this
    · have := a3 (b + 6) (by omega)
      rw [show 36 + (b + 6) = 42 + b by omega] at this
      exact this
theorem m_pread (hM : MS h oM) (hn : n ≤ 800) (s6 : hi h oM 6 = nI n) (hB : ∀ k, k < n → hi h (oM + 5) k = B k) : ∃ g1 g2 g3 g4, fI 12 0 oM (nI 0) h = some g1 ∧ DX12_clears (sR fr0 0 oM) g1 = some ((), g2) ∧ DX12_begins (sR fr0 0 oM) g2 = some ((), g3) ∧ LX12_port_1 (sR fr0 0 oM) g3 = some (.inl 0, sR fr0 0 oM, g4) ∧ SH h g1 ∧ SH g1 g2 ∧ SH g2 g3 ∧ SH g3 g4 ∧ ML h g4 ∧ ((∃ P' p', bAll B n (n + 1) (skp B n 0) Z0 = .inr P' ∧ MRd B n p' g4 ∧ RMc (PIM P') g4 P' ∧ WQ P' ∧ P' 0 0 ≤ 800) ∨ ∃ e, bAll B n (n + 1) (skp B n 0) Z0 = .inl e ∧ MFl e g4) := by
  have c1 : Ch mTD h (wI h oM 0 (nI 0)) := Ch.w (D := mTD) rfl _ _ _
  obtain ⟨g2, x2, l2, c2, R2⟩ := mclears (hM.to c1.1)
  have c3 : Ch mTD g2 (wI (wI (wI g2 oM 12 (nI 0)) oM 13 (-nI 1)) oM 7 (nI 0)) := ((Ch.w (D := mTD) rfl _ _ _).tr (Ch.w (D := mTD) rfl _ _ _)).tr (Ch.w (D := mTD) rfl _ _ _)
  have hM2 : MS g2 oM := (hM.to c1.1).to c2.1
  have t1 : MTp B n (wI (wI (wI g2 oM 12 (nI 0)) oM 13 (-nI 1)) oM 7 (nI 0)) := ⟨hM2.to c3.1, hn, by rw [w_ne (by omega), w_ne (by omega), w_ne (by omega), (c2.2 _ mW0).1, w_ne (by omega)]; exact s6, fun k hk1 => by rw [(c3.2 _ m5).1, (c2.2 _ mW5).1, (c1.2 _ m5).1]; exact hB k hk1⟩
  obtain ⟨g3, x3, c4, K, u⟩ := m_nextG t1 (Nat.zero_le n) (w_eq _ _ _ _)
  have K3 : MRd B n (skp B n 0) g3 := ⟨K, by rw [u 12 (by omega), w_ne (by omega), w_ne (by omega), w_eq]⟩
  obtain ⟨g4, i1, l4, O⟩ := mp_loop (n + 1) (skp B n 0) Z0 g3 (by omega) (Nat.zero_le _) WQ_0 K3 ((R2.to c3 mT6).to c4 mT6)
  refine ⟨_, g2, g3, g4, ?_, x2, ?_, ?_, c1.1, c2.1, c3.1.tr c4.1, l4.1.1, (((ML.tm c1).tr l2).tr (ML.tm (c3.tr c4))).tr l4, O⟩
  · unfold fI
    rw [if_pos (by rw [hM.k])]
  · have hM := hM2
    simp (disch := omega) only [DX12_begins, BX12_begins, nI_n10, ob_t, ob_n, ob_ite, e_cI, e_cL, e_cR, e_vI, e_vL, e_vR, e_d2, e_d2_a, e_d2_b, e_d2z, e_d2z_a, e_d2z_b, e_d1, e_d1_a, e_GI, e_GI_a, e_GL, e_GL_a, e_GR, e_GR_a, e_AI, e_AI_a, e_AI_b, e_AB, e_AB_a, e_AB_b, e_AZ, e_AZ_a, e_AZ_b, e_AL, e_AL_a, e_AL_b, e_AR, e_AR_a, e_AR_b, e_Len, e_Len_a, e_CI, e_CI_a, e_CI_b, e_CZ, e_CZ_a, e_And, e_kAnd, e_Or, e_kOr, e_Not, e_kNot, e_B, e_kB, e_T, e_kT, e_NN, e_kNN, e_NewA, e_NewA_a, e_NewC, e_kNewC, e_aN, e_aI, e_aI_a, e_aI_b, e_aL, e_aL_a, e_aL_b, e_aR, e_aR_a, e_aR_b, e_Call, e_kCall, e_CallV, e_kCallV, e_SetI, e_kSetI, e_SetL, e_kSetL, e_SetR, e_kSetR, e_Inc, e_Skip, e_Brk, e_Cnt, e_Ret, e_kRet, e_Ret0, e_Seq, e_kSeq0, e_kSeq1, e_kSeq2, e_kSeqR, e_If, e_kIf, e_Do, e_kDo, e_Sup, e_kN0, e_d3, e_k3a, e_k3b, e_k3c, e_P, e_kPa, e_kPb, e_UA, e_kUAa, e_kUAb, e_kUAc, e_UL, e_kULa, e_kULb, e_kULc, e_UF, e_kUFa, e_kUFb, e_Cp, e_kCp, e_Sw, e_kSwa, e_kSwb0, e_kSwb1, e_kSwbR, e_M1, e_kM1, e_MZ, e_kMZ, e_MN, e_kMN, e_Tv, e_kTv, e_Tc, e_kTc, e_lpS, e_kLp, e_kLpB0, e_kLpB1, e_kLpB2, e_kLpBR, e_kLpU, e_dwS, e_kDwB0, e_kDwC, f_II, f_LL, f_RR, f_IL, f_IR, f_LI, f_LR, f_RI, f_RL, and_true, true_and, and_false, false_and, or_true, true_or, or_false, false_or, not_true_eq_false, not_false_eq_true, if_true, if_false, ite_self, Bool.not_true, Bool.not_false, Bool.false_eq_true, Bool.true_eq_false, decide_true, decide_false, ne_eq, reduceIte, Nat.reduceEqDiff, Option.some.injEq, Prod.mk.injEq, eq_self, r_lt, r_le, r_gt, r_ge, r_eq, r_ne, q_lt, q_le, q_gt, q_ge, q_eq, q_ne, decide_eq_true_eq, b01, b0, b1, o_iadd, o_imul, n_inb, nI_clamp, w_hr, w_hk, w_hl, w_eq, w_ne, wl_hr, wl_hk, wl_hi, wl_eq, wl_ne, stI, idI, fI, fL, f_ss, f_sR, f_sL, lc0, lc1, lc01, fa_lit, fa_litL, hM.k, x3]
  · rw [port_loop_is, e_Loop]
    exact i1
end
