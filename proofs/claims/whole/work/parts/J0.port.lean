set_option maxRecDepth 100000
set_option maxHeartbeats 2000000
/-! calls: port -/
section
variable {L : Nat} {xs : Nat → Int32} {h g : St} {P P' : PT}
def rdD (o : Nat) : Prop := o = 32 ∨ o = 34 ∨ (51 ≤ o ∧ o < 67) ∨ o = 122 ∨ (128 ≤ o ∧ o < 138)
def rdE (o : Nat) : Prop := o = 32 ∨ o = 34 ∨ (35 ≤ o ∧ o < 67) ∨ o = 72 ∨ o = 102 ∨ o = 115 ∨ o = 122 ∨ (128 ≤ o ∧ o < 138)
theorem Inv.readF (H : Inv L xs h P) (q : Ch rdD h g) (hI : ∀ i j, i < 10 → j < 4 * mz i → hi g (oM + 6 + i) j = hi h (oM + 6 + i) j) (t : TPr g) : Inv L xs g P := by
  have hc := o_is
  have ns : ∀ o, (o < 32 ∨ o = 33 ∨ (35 ≤ o ∧ o < 51) ∨ (67 ≤ o ∧ o < 122) ∨ (122 < o ∧ o < 128) ∨ 138 ≤ o) → ¬ rdD o := fun o ho z => by unfold rdD at z; omega
  have hm : ∀ i, i < 10 → ∀ c j, c < 4 → j < mz i * c + mz i → j < 4 * mz i := fun i hi1 c j h1 h2 => by
    have : mz i * c ≤ mz i * 3 := Nat.mul_le_mul_left _ (by omega)
    omega
  obtain ⟨S, hS⟩ := H.wi
  refine ⟨H.sh.to q.1, RP.ch q (fun j hj => ns _ (by omega)) H.2.1, H.w, H.fr.keep q (fun o h1 h2 => ns o (by omega)), ⟨S, hS.keep q (fun o h1 h2 => ns o (by omega))⟩, H.a1.keep q (fun o h1 h2 => ns o (by omega)), H.a2.keep q (Or.inl (ns _ (by omega))) (ns _ (by omega)), H.wo.keep q (fun o h1 h2 => ns o (by omega)), H.mg.p.keepS H.w (fun i j h1 h2 h3 => hI i j h1 (hm i h1 0 j (by omega) h3)), H.sl.keep q (fun o h1 h2 => ns o (by omega)) (fun o h1 h2 => ns o (by omega)), t, ⟨fun k hk1 => ?_, ?_⟩, H.nm.keep q.1, H.cn.keep q (fun o ho => ns o (by omega))⟩
  · rw [q.1.1]
    have h3 := (q.2 (oM + 16) (ns _ (by omega))).1 k
    rcases H.im.1 k hk1 with ⟨b1, b2⟩ | ⟨b1, b2, b3, P0, b4, b5⟩
    · exact Or.inl ⟨b1, by rw [h3]; exact b2⟩
    · exact Or.inr ⟨b1, by rw [q.1.2.2.1]; exact b2, by rw [h3]; exact b3, P0, b4.ch q (fun j hj => ns _ (by omega)), b5.keepS b4.2.2 (fun i j h1 h2 h3 => hI i j h1 (hm i h1 (1 + k) j (by omega) h3))⟩
  · rw [q.1.1]
    exact H.im.2
theorem Inv.readT (H : Inv L xs h P) (q : Ch rdE h g) (hR : RP g oP P') (hW : WFP P') (f : Fresh g oD P') (a1 : hi g oA 14 = -nI 1) (a2 : hi g oA 16 = -nI 1) (wo : hi g 115 0 = nI 0) (hM : MP g oM 0 P') (hI : ∀ i j, i < 10 → mz i ≤ j → j < 4 * mz i → hi g (oM + 6 + i) j = hi h (oM + 6 + i) j) (t : TPr g) : Inv L xs g P' := by
  have hc := o_is
  have ns : ∀ o, (o < 32 ∨ o = 33 ∨ (67 ≤ o ∧ o < 72) ∨ (72 < o ∧ o < 102) ∨ (102 < o ∧ o < 115) ∨ (115 < o ∧ o < 122) ∨ (122 < o ∧ o < 128) ∨ 138 ≤ o) → ¬ rdE o := fun o ho z => by unfold rdE at z; omega
  have hm : ∀ i, i < 10 → ∀ c j, 1 ≤ c → c < 4 → mz i * c ≤ j → j < mz i * c + mz i → mz i ≤ j ∧ j < 4 * mz i := fun i hi1 c j h0 h1 h2 h3 => by
    have e1 : mz i * c ≤ mz i * 3 := Nat.mul_le_mul_left _ (by omega)
    have e2 : mz i * 1 ≤ mz i * c := Nat.mul_le_mul_left _ h0
    omega
  obtain ⟨S, hS⟩ := H.wi
  refine ⟨H.sh.to q.1, hR, hW, f, ⟨S, hS.keep q (fun o h1 h2 => ns o (by omega))⟩, Or.inl a1, Or.inl a2, Or.inl wo, hM, H.sl.keep q (fun o h1 h2 => ns o (by omega)) (fun o h1 h2 => ns o (by omega)), t, ⟨fun k hk1 => ?_, ?_⟩, H.nm.keep q.1, H.cn.keep q (fun o ho => ns o (by omega))⟩
  · rw [q.1.1]
    have h3 := (q.2 (oM + 16) (ns _ (by omega))).1 k
    rcases H.im.1 k hk1 with ⟨b1, b2⟩ | ⟨b1, b2, b3, P0, b4, b5⟩
    · exact Or.inl ⟨b1, by rw [h3]; exact b2⟩
    · exact Or.inr ⟨b1, by rw [q.1.2.2.1]; exact b2, by rw [h3]; exact b3, P0, b4.ch q (fun j hj => ns _ (by omega)), b5.keepS b4.2.2 (fun i j h1 h2 h3 => by
        obtain ⟨y1, y2⟩ := hm i h1 (1 + k) j (by omega) (by omega) h2 h3
        exact hI i j h1 y1 y2)⟩
  · rw [q.1.1]
    exact H.im.2
theorem m_over0 (hM : MS h oM) (e : hi h oM 12 = nI 0) : DX12_isOver (sR fr0 0 oM) h = some ((), wI (wI (wI h oM 6 (nI 0)) oM 14 (nI 0)) oM 15 (-nI 1)) := by
  simp (disch := omega) only [DX12_isOver, BX12_isOver, nI_n10, ob_t, ob_n, ob_ite, e_cI, e_cL, e_cR, e_vI, e_vL, e_vR, e_d2, e_d2_a, e_d2_b, e_d2z, e_d2z_a, e_d2z_b, e_d1, e_d1_a, e_GI, e_GI_a, e_GL, e_GL_a, e_GR, e_GR_a, e_AI, e_AI_a, e_AI_b, e_AB, e_AB_a, e_AB_b, e_AZ, e_AZ_a, e_AZ_b, e_AL, e_AL_a, e_AL_b, e_AR, e_AR_a, e_AR_b, e_Len, e_Len_a, e_CI, e_CI_a, e_CI_b, e_CZ, e_CZ_a, e_And, e_kAnd, e_Or, e_kOr, e_Not, e_kNot, e_B, e_kB, e_T, e_kT, e_NN, e_kNN, e_NewA, e_NewA_a, e_NewC, e_kNewC, e_aN, e_aI, e_aI_a, e_aI_b, e_aL, e_aL_a, e_aL_b, e_aR, e_aR_a, e_aR_b, e_Call, e_kCall, e_CallV, e_kCallV, e_SetI, e_kSetI, e_SetL, e_kSetL, e_SetR, e_kSetR, e_Inc, e_Skip, e_Brk, e_Cnt, e_Ret, e_kRet, e_Ret0, e_Seq, e_kSeq0, e_kSeq1, e_kSeq2, e_kSeqR, e_If, e_kIf, e_Do, e_kDo, e_Sup, e_kN0, e_d3, e_k3a, e_k3b, e_k3c, e_P, e_kPa, e_kPb, e_UA, e_kUAa, e_kUAb, e_kUAc, e_UL, e_kULa, e_kULb, e_kULc, e_UF, e_kUFa, e_kUFb, e_Cp, e_kCp, e_Sw, e_kSwa, e_kSwb0, e_kSwb1, e_kSwbR, e_M1, e_kM1, e_MZ, e_kMZ, e_MN, e_kMN, e_Tv, e_kTv, e_Tc, e_kTc, e_lpS, e_kLp, e_kLpB0, e_kLpB1, e_kLpB2, e_kLpBR, e_kLpU, e_dwS, e_kDwB0, e_kDwC, f_II, f_LL, f_RR, f_IL, f_IR, f_LI, f_LR, f_RI, f_RL, and_true, true_and, and_false, false_and, or_true, true_or, or_false, false_or, not_true_eq_false, not_false_eq_true, if_true, if_false, ite_self, Bool.not_true, Bool.not_false, Bool.false_eq_true, Bool.true_eq_false, decide_true, decide_false, ne_eq, reduceIte, Nat.reduceEqDiff, Option.some.injEq, Prod.mk.injEq, eq_self, r_lt, r_le, r_gt, r_ge, r_eq, r_ne, q_lt, q_le, q_gt, q_ge, q_eq, q_ne, decide_eq_true_eq, b01, b0, b1, o_iadd, o_imul, n_inb, nI_clamp, w_hr, w_hk, w_hl, w_eq, w_ne, wl_hr, wl_hk, wl_hi, wl_eq, wl_ne, stI, idI, fL, f_ss, f_sR, f_sL, lc0, lc1, lc01, fa_lit, fa_litL, fI, hM.k, e]
theorem m_overE {x y : Int32} (hM : MS h oM) (e : hi h oM 12 = x) (ex : (x = nI 0) = False) (e2 : hi h oM 13 = y) : DX12_isOver (sR fr0 0 oM) h = some ((), wI (wI (wI h oM 6 (nI 0)) oM 14 x) oM 15 y) := by
  simp (disch := omega) only [DX12_isOver, BX12_isOver, nI_n10, ob_t, ob_n, ob_ite, e_cI, e_cL, e_cR, e_vI, e_vL, e_vR, e_d2, e_d2_a, e_d2_b, e_d2z, e_d2z_a, e_d2z_b, e_d1, e_d1_a, e_GI, e_GI_a, e_GL, e_GL_a, e_GR, e_GR_a, e_AI, e_AI_a, e_AI_b, e_AB, e_AB_a, e_AB_b, e_AZ, e_AZ_a, e_AZ_b, e_AL, e_AL_a, e_AL_b, e_AR, e_AR_a, e_AR_b, e_Len, e_Len_a, e_CI, e_CI_a, e_CI_b, e_CZ, e_CZ_a, e_And, e_kAnd, e_Or, e_kOr, e_Not, e_kNot, e_B, e_kB, e_T, e_kT, e_NN, e_kNN, e_NewA, e_NewA_a, e_NewC, e_kNewC, e_aN, e_aI, e_aI_a, e_aI_b, e_aL, e_aL_a, e_aL_b, e_aR, e_aR_a, e_aR_b, e_Call, e_kCall, e_CallV, e_kCallV, e_SetI, e_kSetI, e_SetL, e_kSetL, e_SetR, e_kSetR, e_Inc, e_Skip, e_Brk, e_Cnt, e_Ret, e_kRet, e_Ret0, e_Seq, e_kSeq0, e_kSeq1, e_kSeq2, e_kSeqR, e_If, e_kIf, e_Do, e_kDo, e_Sup, e_kN0, e_d3, e_k3a, e_k3b, e_k3c, e_P, e_kPa, e_kPb, e_UA, e_kUAa, e_kUAb, e_kUAc, e_UL, e_kULa, e_kULb, e_kULc, e_UF, e_kUFa, e_kUFb, e_Cp, e_kCp, e_Sw, e_kSwa, e_kSwb0, e_kSwb1, e_kSwbR, e_M1, e_kM1, e_MZ, e_kMZ, e_MN, e_kMN, e_Tv, e_kTv, e_Tc, e_kTc, e_lpS, e_kLp, e_kLpB0, e_kLpB1, e_kLpB2, e_kLpBR, e_kLpU, e_dwS, e_kDwB0, e_kDwC, f_II, f_LL, f_RR, f_IL, f_IR, f_LI, f_LR, f_RI, f_RL, and_true, true_and, and_false, false_and, or_true, true_or, or_false, false_or, not_true_eq_false, not_false_eq_true, if_true, if_false, ite_self, Bool.not_true, Bool.not_false, Bool.false_eq_true, Bool.true_eq_false, decide_true, decide_false, ne_eq, reduceIte, Nat.reduceEqDiff, Option.some.injEq, Prod.mk.injEq, eq_self, r_lt, r_le, r_gt, r_ge, r_eq, r_ne, q_lt, q_le, q_gt, q_ge, q_eq, q_ne, decide_eq_true_eq, b01, b0, b1, o_iadd, o_imul, n_inb, nI_clamp, w_hr, w_hk, w_hl, w_eq, w_ne, wl_hr, wl_hk, wl_hi, wl_eq, wl_ne, stI, idI, fL, f_ss, f_sR, f_sL, lc0, lc1, lc01, fa_lit, fa_litL, fI, hM.k, e, ex, e2]
theorem op_port : OpI L xs (DX11_port (sR fr0 0 oX)) (DX12_port (sR fr0 0 oM)) := by
  intro h P H
  have hO := H.co
  have hP := H.ps
  have hM := H.ms
  have hQ : PS h oQ := H.sh.2.2.1
  have hcc := o_is
  obtain ⟨⟨n, hn1, s1, s2⟩, t0, -, -⟩ := H.tp
  obtain ⟨g1, r, x1, c1, O⟩ := x_read (B := fun k => hi h 33 k) (n := n) (tx_of H.cn) ⟨hO, hn1, s1, fun _ _ => rfl⟩ hQ
  have nq : ∀ o, (o ≠ 32 ∧ o ≠ 34 ∧ (o < 51 ∨ 67 ≤ o)) → ¬ cqD o := fun o ho z => by unfold cqD at z; omega
  have c2 : Ch cqD g1 (wI g1 32 1 (nI 0)) := Ch.w (D := cqD) (Or.inl rfl) _ _ _
  have c12 := c1.tr c2
  obtain ⟨P1, e1, rfl, hR1, hW1, f0, f1⟩ | ⟨e, e1, rfl, K⟩ := O
  · have hR2 : RP (wI g1 32 1 (nI 0)) oQ (finP P1) := RP.ch (Ch.w (D := fun o => o = 32) rfl g1 1 (nI 0)) (fun j hj => by omega) hR1
    obtain ⟨g3, x3, c3, a0, a9, a1, a2, a3, a4, a5, a6, a7, a8, a10, a11, a12, a13, a14, a15⟩ := x_pcopy (p := oP) (q := oQ) (hP.to c12.1) (hQ.to c12.1) (by omega)
    have hR3 : RP g3 oP (finP P1) := RP.copied hR2 hW1 a0 a9 a1 a2 a3 a4 a5 a6 a7 a8 (fun j i h1 h2 h3 => by
      rcases (show j = 10 ∨ j = 11 ∨ j = 12 ∨ j = 13 by omega) with rfl | rfl | rfl | rfl
      · exact a10 i h3
      · exact a11 i h3
      · exact a12 i h3
      · exact a13 i h3) a14 a15
    obtain ⟨g4, x4, c4, v1, v2, v3, v4, v5⟩ := x_stale ((hO.to c12.1).to c3.1) ((H.ds.to c12.1).to c3.1) ((H.as.to c12.1).to c3.1)
    have hg : ∀ o, (o ≠ 32 ∧ o ≠ 34 ∧ (o < 35 ∨ 67 ≤ o)) → o ≠ 72 → o ≠ 102 → o ≠ 115 → ∀ k, hi g4 o k = hi h o k := fun o ho r1 r2 r3 k => by
      rw [v5 o r1 r2 r3 k, (c3.2 o (by omega)).1, (c12.2 o (nq o (by omega))).1]
    have hM4 : MS g4 oM := ((hM.to c12.1).to c3.1).to c4.1
    obtain ⟨m1, m2, m3, m4, y1, y2, y3, y4, d1, d2, d3, d4, l4, O⟩ := m_pread (B := fun k => hi h 33 k) (n := n) hM4 hn1 (by rw [hg _ (by omega) (by omega) (by omega) (by omega)]; exact s2) (fun k hk1 => by rw [hg _ (by omega) (by omega) (by omega) (by omega), t0 k (by omega)])
    obtain ⟨P2, p2, e2, K2, R2, W2, h00⟩ | ⟨e, e2, K2⟩ := O
    · have : P2 = P1 := by rw [e1] at e2; cases e2; rfl
      subst this
      have y5 := m_over0 K2.1.1.1 K2.2
      have c5 : Ch mTD m4 (wI (wI (wI m4 oM 6 (nI 0)) oM 14 (nI 0)) oM 15 (-nI 1)) := ((Ch.w (D := mTD) rfl _ _ _).tr (Ch.w (D := mTD) rfl _ _ _)).tr (Ch.w (D := mTD) rfl _ _ _)
      have b6 : MP (wI (wI (wI m4 oM 6 (nI 0)) oM 14 (nI 0)) oM 15 (-nI 1)) oM 4 (finP P2) := (MP.read R2 W2).ch (fun r r1 r2 => (c5.2 r (by unfold mTD; omega)).1)
      obtain ⟨m5, y6, c6, e4⟩ := m_copyPort (K2.1.1.1.to c5.1) (a := 4) (b := 0) (by omega) (by decide) (by decide)
      have hMP := b6.copied hW1 e4
      have f12 : hi (wI (wI (wI m4 oM 6 (nI 0)) oM 14 (nI 0)) oM 15 (-nI 1)) oM 12 = nI 0 := by rw [w_ne (by omega), w_ne (by omega), w_ne (by omega)]; exact K2.2
      have g5 : ∀ o, ¬ (o = 122 ∨ (128 ≤ o ∧ o < 138)) → ∀ k, hi m5 o k = hi g4 o k := fun o ho k => by
        rw [(c6.2 o (by omega)).1, (c5.2 o (by unfold mTD; omega)).1, (l4.1.2 o (by unfold mLD; omega)).1]
      have q5 : Ch rdE h m5 := (((((c12.mono (fun o ho => by unfold cqD at ho; unfold rdE; omega)).tr (c3.mono (fun o ho => by unfold rdE; omega))).tr (c4.mono (fun o ho => by unfold stD at ho; unfold rdE; omega))).tr (l4.1.mono (fun o ho => by unfold mLD at ho; unfold rdE; omega))).tr (c5.mono (fun o ho => by unfold mTD at ho; unfold rdE; omega))).tr (c6.mono (fun o ho => by unfold rdE; omega))
      have v16 : hi m5 oP 0 = nI (finP P2 0 0) := by
        rw [g5 _ (by omega), v5 _ (by omega) (by omega) (by omega)]
        exact hR3.1 0 0 (Or.inl ⟨rfl, by decide⟩)
      have v17 : hi g4 oP 0 = nI (finP P2 0 0) := by rw [← g5 oP (by omega)]; exact v16
      have v18 : hi m5 (oM + 6) 0 = nI (finP P2 0 0) := hMP.1
      refine ⟨nI (finP P2 0 0), g4, m5, finP P2, ?_, ?_, H.readT q5 ⟨fun j i hin => ?_, fun i hi1 => ?_⟩ hW1 (Or.inl ⟨?_, ?_⟩) ?_ ?_ ?_ hMP (fun i j hi1 hj hj2 => ?_) ⟨⟨0, by omega, ?_, ?_⟩, fun k hk1 => ?_, ?_, ?_⟩⟩
      · simp (disch := omega) only [DX11_port, BX11_port, nI_n10, ob_t, ob_n, ob_ite, e_cI, e_cL, e_cR, e_vI, e_vL, e_vR, e_d2, e_d2_a, e_d2_b, e_d2z, e_d2z_a, e_d2z_b, e_d1, e_d1_a, e_GI, e_GI_a, e_GL, e_GL_a, e_GR, e_GR_a, e_AI, e_AI_a, e_AI_b, e_AB, e_AB_a, e_AB_b, e_AZ, e_AZ_a, e_AZ_b, e_AL, e_AL_a, e_AL_b, e_AR, e_AR_a, e_AR_b, e_Len, e_Len_a, e_CI, e_CI_a, e_CI_b, e_CZ, e_CZ_a, e_And, e_kAnd, e_Or, e_kOr, e_Not, e_kNot, e_B, e_kB, e_T, e_kT, e_NN, e_kNN, e_NewA, e_NewA_a, e_NewC, e_kNewC, e_aN, e_aI, e_aI_a, e_aI_b, e_aL, e_aL_a, e_aL_b, e_aR, e_aR_a, e_aR_b, e_Call, e_kCall, e_CallV, e_kCallV, e_SetI, e_kSetI, e_SetL, e_kSetL, e_SetR, e_kSetR, e_Inc, e_Skip, e_Brk, e_Cnt, e_Ret, e_kRet, e_Ret0, e_Seq, e_kSeq0, e_kSeq1, e_kSeq2, e_kSeqR, e_If, e_kIf, e_Do, e_kDo, e_Sup, e_kN0, e_d3, e_k3a, e_k3b, e_k3c, e_P, e_kPa, e_kPb, e_UA, e_kUAa, e_kUAb, e_kUAc, e_UL, e_kULa, e_kULb, e_kULc, e_UF, e_kUFa, e_kUFb, e_Cp, e_kCp, e_Sw, e_kSwa, e_kSwb0, e_kSwb1, e_kSwbR, e_M1, e_kM1, e_MZ, e_kMZ, e_MN, e_kMN, e_Tv, e_kTv, e_Tc, e_kTc, e_lpS, e_kLp, e_kLpB0, e_kLpB1, e_kLpB2, e_kLpBR, e_kLpU, e_dwS, e_kDwB0, e_kDwC, f_II, f_LL, f_RR, f_IL, f_IR, f_LI, f_LR, f_RI, f_RL, and_true, true_and, and_false, false_and, or_true, true_or, or_false, false_or, not_true_eq_false, not_false_eq_true, if_true, if_false, ite_self, Bool.not_true, Bool.not_false, Bool.false_eq_true, Bool.true_eq_false, decide_true, decide_false, ne_eq, reduceIte, Nat.reduceEqDiff, Option.some.injEq, Prod.mk.injEq, eq_self, r_lt, r_le, r_gt, r_ge, r_eq, r_ne, q_lt, q_le, q_gt, q_ge, q_eq, q_ne, decide_eq_true_eq, b01, b0, b1, o_iadd, o_imul, n_inb, nI_clamp, w_hr, w_hk, w_hl, w_eq, w_ne, wl_hr, wl_hk, wl_hi, wl_eq, wl_ne, stI, idI, fL, f_ss, f_sR, f_sL, lc0, lc1, lc01, fa_lit, fa_litL, fI, hO.koX, hO.k32, hO.k33, hO.k34, hO.k67, hO.k68, hO.k69, hO.k70, hO.k71, hO.k100, hO.k101, hO.k115, hO.k116, hO.k117, hO.k118, hO.k119, hO.k120, hO.k121, hO.roX_0, hO.roX_1, hO.roX_2, hO.roX_3, hO.roX_4, hO.roX_5, hO.roX_6, hO.roX_7, hO.roX_8, hO.roX_9, hO.roX_10, hO.roX_11, hO.roX_12, hO.roX_13, hO.r32_0, hO.r68_0, hO.r68_1, hO.r68_2, hO.r100_0, hO.r115_2, hO.r115_3, hO.r118_1, hP.k, x1, x3, x4, v17, c1.1.1, c1.1.2.1, c3.1.1, c3.1.2.1, c4.1.1, c4.1.2.1]
      · have hM := hM4
        simp (disch := omega) only [DX12_port, BX12_port, nI_n10, ob_t, ob_n, ob_ite, e_cI, e_cL, e_cR, e_vI, e_vL, e_vR, e_d2, e_d2_a, e_d2_b, e_d2z, e_d2z_a, e_d2z_b, e_d1, e_d1_a, e_GI, e_GI_a, e_GL, e_GL_a, e_GR, e_GR_a, e_AI, e_AI_a, e_AI_b, e_AB, e_AB_a, e_AB_b, e_AZ, e_AZ_a, e_AZ_b, e_AL, e_AL_a, e_AL_b, e_AR, e_AR_a, e_AR_b, e_Len, e_Len_a, e_CI, e_CI_a, e_CI_b, e_CZ, e_CZ_a, e_And, e_kAnd, e_Or, e_kOr, e_Not, e_kNot, e_B, e_kB, e_T, e_kT, e_NN, e_kNN, e_NewA, e_NewA_a, e_NewC, e_kNewC, e_aN, e_aI, e_aI_a, e_aI_b, e_aL, e_aL_a, e_aL_b, e_aR, e_aR_a, e_aR_b, e_Call, e_kCall, e_CallV, e_kCallV, e_SetI, e_kSetI, e_SetL, e_kSetL, e_SetR, e_kSetR, e_Inc, e_Skip, e_Brk, e_Cnt, e_Ret, e_kRet, e_Ret0, e_Seq, e_kSeq0, e_kSeq1, e_kSeq2, e_kSeqR, e_If, e_kIf, e_Do, e_kDo, e_Sup, e_kN0, e_d3, e_k3a, e_k3b, e_k3c, e_P, e_kPa, e_kPb, e_UA, e_kUAa, e_kUAb, e_kUAc, e_UL, e_kULa, e_kULb, e_kULc, e_UF, e_kUFa, e_kUFb, e_Cp, e_kCp, e_Sw, e_kSwa, e_kSwb0, e_kSwb1, e_kSwbR, e_M1, e_kM1, e_MZ, e_kMZ, e_MN, e_kMN, e_Tv, e_kTv, e_Tc, e_kTc, e_lpS, e_kLp, e_kLpB0, e_kLpB1, e_kLpB2, e_kLpBR, e_kLpU, e_dwS, e_kDwB0, e_kDwC, f_II, f_LL, f_RR, f_IL, f_IR, f_LI, f_LR, f_RI, f_RL, and_true, true_and, and_false, false_and, or_true, true_or, or_false, false_or, not_true_eq_false, not_false_eq_true, if_true, if_false, ite_self, Bool.not_true, Bool.not_false, Bool.false_eq_true, Bool.true_eq_false, decide_true, decide_false, ne_eq, reduceIte, Nat.reduceEqDiff, Option.some.injEq, Prod.mk.injEq, eq_self, r_lt, r_le, r_gt, r_ge, r_eq, r_ne, q_lt, q_le, q_gt, q_ge, q_eq, q_ne, decide_eq_true_eq, b01, b0, b1, o_iadd, o_imul, n_inb, nI_clamp, w_hr, w_hk, w_hl, w_eq, w_ne, wl_hr, wl_hk, wl_hi, wl_eq, wl_ne, stI, idI, fL, f_ss, f_sR, f_sL, lc0, lc1, lc01, fa_lit, fa_litL, hM.k, hM.k6, hM.r16, y1, y2, y3, y4, y5, y6, d1.1, d1.2.1, d2.1, d2.2.1, d3.1, d3.2.1, d4.1, d4.2.1, c6.1.1, c6.1.2.1, f12, v18]
      · have := hin.j16
        rw [g5 _ (by omega), v5 _ (by omega) (by omega) (by omega)]
        exact hR3.1 j i hin
      · rw [g5 _ (by omega), g5 _ (by omega), v5 _ (by omega) (by omega) (by omega), v5 _ (by omega) (by omega) (by omega)]
        exact hR3.2 i hi1
      · rw [g5 _ (by omega)]; exact v1
      · obtain ⟨S, hS⟩ := H.fr.rc
        exact ⟨S, fun j i hjk => by
          have := hjk.1
          rw [g5 _ (by omega), hg _ (by omega) (by omega) (by omega) (by omega)]
          exact hS j i hjk⟩
      · rw [g5 _ (by omega)]; exact v2
      · rw [g5 _ (by omega)]; exact v3
      · rw [g5 _ (by omega)]; exact v4
      · rw [e4 i hi1 j, if_neg (by omega), (c5.2 _ (by unfold mTD; omega)).1, l4.2 i j hi1 hj2, hg _ (by omega) (by omega) (by omega) (by omega)]
      · rw [g5 _ (by omega), v5 _ (by omega) (by omega) (by omega), (c3.2 _ (by omega)).1, w_eq]
      · rw [(c6.2 _ (by omega)).1, w_ne (by omega), w_ne (by omega), w_eq]
      · rw [g5 _ (by omega), hg _ (by omega) (by omega) (by omega) (by omega), (c6.2 _ (by omega)).1, (c5.2 _ (by unfold mTD; omega)).1, (l4.1.2 _ (by unfold mLD; omega)).1, hg _ (by omega) (by omega) (by omega) (by omega)]
        exact t0 k hk1
      · rw [g5 _ (by omega), v5 _ (by omega) (by omega) (by omega), (c3.2 _ (by omega)).1, w_ne (by omega), f0, (c6.2 _ (by omega)).1, w_ne (by omega), w_eq]
      · rw [g5 _ (by omega), v5 _ (by omega) (by omega) (by omega), (c3.2 _ (by omega)).1, w_ne (by omega), f1, (c6.2 _ (by omega)).1, w_eq]
    · rw [e1] at e2; cases e2
  · have hg : ∀ o, (o ≠ 32 ∧ o ≠ 34 ∧ (o < 51 ∨ 67 ≤ o)) → ∀ k, hi (wI g1 32 1 (nI 0)) o k = hi h o k := fun o ho k => (c12.2 o (nq o ho)).1 k
    have hM4 : MS (wI g1 32 1 (nI 0)) oM := hM.to c12.1
    obtain ⟨m1, m2, m3, m4, y1, y2, y3, y4, d1, d2, d3, d4, l4, O⟩ := m_pread (B := fun k => hi h 33 k) (n := n) hM4 hn1 (by rw [hg _ (by omega)]; exact s2) (fun k hk1 => by rw [hg _ (by omega), t0 k (by omega)])
    obtain ⟨P2, p2, e2, K2, R2, W2, h00⟩ | ⟨e', e2, K2⟩ := O
    · rw [e1] at e2; cases e2
    · have : e' = e := by rw [e1] at e2; cases e2; rfl
      subst this
      have hne : (nI e'.1 = nI 0) = False := by
        have := K.1
        rw [nI_eq (by omega) (by decide)]
        exact eq_false (by omega)
      have y5 := m_overE K2.1 K2.2.2.1 hne K2.2.2.2
      have c5 : Ch mTD m4 (wI (wI (wI m4 oM 6 (nI 0)) oM 14 (nI e'.1)) oM 15 (nI e'.2)) := ((Ch.w (D := mTD) rfl _ _ _).tr (Ch.w (D := mTD) rfl _ _ _)).tr (Ch.w (D := mTD) rfl _ _ _)
      have f12 : hi (wI (wI (wI m4 oM 6 (nI 0)) oM 14 (nI e'.1)) oM 15 (nI e'.2)) oM 12 = nI e'.1 := by rw [w_ne (by omega), w_ne (by omega), w_ne (by omega)]; exact K2.2.2.1
      have g5 : ∀ o, ¬ (o = 122 ∨ (128 ≤ o ∧ o < 138)) → ∀ k, hi (wI (wI (wI m4 oM 6 (nI 0)) oM 14 (nI e'.1)) oM 15 (nI e'.2)) o k = hi (wI g1 32 1 (nI 0)) o k := fun o ho k => by
        rw [(c5.2 o (by unfold mTD; omega)).1, (l4.1.2 o (by unfold mLD; omega)).1]
      refine ⟨-nI 4, wI g1 32 1 (nI 0), _, P, ?_, ?_, H.readF (((c12.mono (fun o ho => by unfold cqD at ho; unfold rdD; omega)).tr (l4.1.mono (fun o ho => by unfold mLD at ho; unfold rdD; omega))).tr (c5.mono (fun o ho => by unfold mTD at ho; unfold rdD; omega))) (fun i j hi1 hj => ?_) ⟨⟨0, by omega, ?_, ?_⟩, fun k hk1 => ?_, ?_, ?_⟩⟩
      · simp (disch := omega) only [DX11_port, BX11_port, nI_n10, ob_t, ob_n, ob_ite, e_cI, e_cL, e_cR, e_vI, e_vL, e_vR, e_d2, e_d2_a, e_d2_b, e_d2z, e_d2z_a, e_d2z_b, e_d1, e_d1_a, e_GI, e_GI_a, e_GL, e_GL_a, e_GR, e_GR_a, e_AI, e_AI_a, e_AI_b, e_AB, e_AB_a, e_AB_b, e_AZ, e_AZ_a, e_AZ_b, e_AL, e_AL_a, e_AL_b, e_AR, e_AR_a, e_AR_b, e_Len, e_Len_a, e_CI, e_CI_a, e_CI_b, e_CZ, e_CZ_a, e_And, e_kAnd, e_Or, e_kOr, e_Not, e_kNot, e_B, e_kB, e_T, e_kT, e_NN, e_kNN, e_NewA, e_NewA_a, e_NewC, e_kNewC, e_aN, e_aI, e_aI_a, e_aI_b, e_aL, e_aL_a, e_aL_b, e_aR, e_aR_a, e_aR_b, e_Call, e_kCall, e_CallV, e_kCallV, e_SetI, e_kSetI, e_SetL, e_kSetL, e_SetR, e_kSetR, e_Inc, e_Skip, e_Brk, e_Cnt, e_Ret, e_kRet, e_Ret0, e_Seq, e_kSeq0, e_kSeq1, e_kSeq2, e_kSeqR, e_If, e_kIf, e_Do, e_kDo, e_Sup, e_kN0, e_d3, e_k3a, e_k3b, e_k3c, e_P, e_kPa, e_kPb, e_UA, e_kUAa, e_kUAb, e_kUAc, e_UL, e_kULa, e_kULb, e_kULc, e_UF, e_kUFa, e_kUFb, e_Cp, e_kCp, e_Sw, e_kSwa, e_kSwb0, e_kSwb1, e_kSwbR, e_M1, e_kM1, e_MZ, e_kMZ, e_MN, e_kMN, e_Tv, e_kTv, e_Tc, e_kTc, e_lpS, e_kLp, e_kLpB0, e_kLpB1, e_kLpB2, e_kLpBR, e_kLpU, e_dwS, e_kDwB0, e_kDwC, f_II, f_LL, f_RR, f_IL, f_IR, f_LI, f_LR, f_RI, f_RL, and_true, true_and, and_false, false_and, or_true, true_or, or_false, false_or, not_true_eq_false, not_false_eq_true, if_true, if_false, ite_self, Bool.not_true, Bool.not_false, Bool.false_eq_true, Bool.true_eq_false, decide_true, decide_false, ne_eq, reduceIte, Nat.reduceEqDiff, Option.some.injEq, Prod.mk.injEq, eq_self, r_lt, r_le, r_gt, r_ge, r_eq, r_ne, q_lt, q_le, q_gt, q_ge, q_eq, q_ne, decide_eq_true_eq, b01, b0, b1, o_iadd, o_imul, n_inb, nI_clamp, w_hr, w_hk, w_hl, w_eq, w_ne, wl_hr, wl_hk, wl_hi, wl_eq, wl_ne, stI, idI, fL, f_ss, f_sR, f_sL, lc0, lc1, lc01, fa_lit, fa_litL, fI, hO.koX, hO.k32, hO.k33, hO.k34, hO.k67, hO.k68, hO.k69, hO.k70, hO.k71, hO.k100, hO.k101, hO.k115, hO.k116, hO.k117, hO.k118, hO.k119, hO.k120, hO.k121, hO.roX_0, hO.roX_1, hO.roX_2, hO.roX_3, hO.roX_4, hO.roX_5, hO.roX_6, hO.roX_7, hO.roX_8, hO.roX_9, hO.roX_10, hO.roX_11, hO.roX_12, hO.roX_13, hO.r32_0, hO.r68_0, hO.r68_1, hO.r68_2, hO.r100_0, hO.r115_2, hO.r115_3, hO.r118_1, x1, c1.1.1, c1.1.2.1]
      · have hM := hM4
        simp (disch := omega) only [DX12_port, BX12_port, nI_n10, ob_t, ob_n, ob_ite, e_cI, e_cL, e_cR, e_vI, e_vL, e_vR, e_d2, e_d2_a, e_d2_b, e_d2z, e_d2z_a, e_d2z_b, e_d1, e_d1_a, e_GI, e_GI_a, e_GL, e_GL_a, e_GR, e_GR_a, e_AI, e_AI_a, e_AI_b, e_AB, e_AB_a, e_AB_b, e_AZ, e_AZ_a, e_AZ_b, e_AL, e_AL_a, e_AL_b, e_AR, e_AR_a, e_AR_b, e_Len, e_Len_a, e_CI, e_CI_a, e_CI_b, e_CZ, e_CZ_a, e_And, e_kAnd, e_Or, e_kOr, e_Not, e_kNot, e_B, e_kB, e_T, e_kT, e_NN, e_kNN, e_NewA, e_NewA_a, e_NewC, e_kNewC, e_aN, e_aI, e_aI_a, e_aI_b, e_aL, e_aL_a, e_aL_b, e_aR, e_aR_a, e_aR_b, e_Call, e_kCall, e_CallV, e_kCallV, e_SetI, e_kSetI, e_SetL, e_kSetL, e_SetR, e_kSetR, e_Inc, e_Skip, e_Brk, e_Cnt, e_Ret, e_kRet, e_Ret0, e_Seq, e_kSeq0, e_kSeq1, e_kSeq2, e_kSeqR, e_If, e_kIf, e_Do, e_kDo, e_Sup, e_kN0, e_d3, e_k3a, e_k3b, e_k3c, e_P, e_kPa, e_kPb, e_UA, e_kUAa, e_kUAb, e_kUAc, e_UL, e_kULa, e_kULb, e_kULc, e_UF, e_kUFa, e_kUFb, e_Cp, e_kCp, e_Sw, e_kSwa, e_kSwb0, e_kSwb1, e_kSwbR, e_M1, e_kM1, e_MZ, e_kMZ, e_MN, e_kMN, e_Tv, e_kTv, e_Tc, e_kTc, e_lpS, e_kLp, e_kLpB0, e_kLpB1, e_kLpB2, e_kLpBR, e_kLpU, e_dwS, e_kDwB0, e_kDwC, f_II, f_LL, f_RR, f_IL, f_IR, f_LI, f_LR, f_RI, f_RL, and_true, true_and, and_false, false_and, or_true, true_or, or_false, false_or, not_true_eq_false, not_false_eq_true, if_true, if_false, ite_self, Bool.not_true, Bool.not_false, Bool.false_eq_true, Bool.true_eq_false, decide_true, decide_false, ne_eq, reduceIte, Nat.reduceEqDiff, Option.some.injEq, Prod.mk.injEq, eq_self, r_lt, r_le, r_gt, r_ge, r_eq, r_ne, q_lt, q_le, q_gt, q_ge, q_eq, q_ne, decide_eq_true_eq, b01, b0, b1, o_iadd, o_imul, n_inb, nI_clamp, w_hr, w_hk, w_hl, w_eq, w_ne, wl_hr, wl_hk, wl_hi, wl_eq, wl_ne, stI, idI, fL, f_ss, f_sR, f_sL, lc0, lc1, lc01, fa_lit, fa_litL, hM.k, y1, y2, y3, y4, y5, d1.1, d1.2.1, d2.1, d2.2.1, d3.1, d3.2.1, d4.1, d4.2.1, f12, hne]
      · rw [(c5.2 _ (by unfold mTD; omega)).1, l4.2 i j hi1 hj, hg _ (by omega)]
      · rw [g5 _ (by omega), w_eq]
      · rw [w_ne (by omega), w_ne (by omega), w_eq]
      · rw [g5 _ (by omega), hg _ (by omega), (c5.2 _ (by unfold mTD; omega)).1, (l4.1.2 _ (by unfold mLD; omega)).1, hg _ (by omega)]
        exact t0 k hk1
      · rw [g5 _ (by omega), w_ne (by omega), K.2.1, w_ne (by omega), w_eq]
      · rw [g5 _ (by omega), w_ne (by omega), K.2.2, w_eq]
end
