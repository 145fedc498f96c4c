set_option maxRecDepth 100000
set_option maxHeartbeats 1000000
/-! the text of a PORT: the model reads a LINE, on: a CARRY, a SLATE -/
section
variable {B : Nat → Int32} {n p : Nat} {h g k0 : St} {P : PT} {D : Nat → Nat → Prop}
theorem ml_carry (H : MRd B n (nxt B n p) h) (R : RMc (PIM P) h P) (hc : P 9 1 < 12) (h8 : P 0 4 ≤ 8) (h6 : P 0 6 ≤ 5) (h7 : P 0 7 ≤ 3) : ∃ g, DX12_carryLine (sR fr0 0 oM) h = some ((), g) ∧ ML h g ∧ OutM B n (bCarry B n p P) g := by
  have hM := H.1.1.1
  have y0 := m_has hM (w := 7) (by decide)
  rw [show 36 + 7 = 43 by decide, R.q9] at y0
  have y1 := m_has hM (w := 5) (by decide)
  rw [show 36 + 5 = 35 + 6 by decide, R.q (k := 6) (by decide) (by decide)] at y1
  have e6 : nI 48 + nI (P 9 1) = nI (48 + P 9 1) := nI_add _ _
  have e7 : nI 4 * nI (48 + P 9 1) = nI (192 + 4 * P 9 1) := by rw [pk_mul, show 4 * (48 + P 9 1) = 192 + 4 * P 9 1 by omega]
  have e81 : nI (192 + 4 * P 9 1) + nI 1 = nI (192 + 4 * P 9 1 + 1) := nI_add _ _
  have e82 : nI (192 + 4 * P 9 1) + nI 2 = nI (192 + 4 * P 9 1 + 2) := nI_add _ _
  have e83 : nI (192 + 4 * P 9 1) + nI 3 = nI (192 + 4 * P 9 1 + 3) := nI_add _ _
  have e9 : nI (P 9 1) + nI 1 = nI (P 9 1 + 1) := nI_add _ _
  obtain ⟨k1, r1, x1, c1, O1⟩ := mr_num H (lo := 0) (top := P 0 6) (by decide) (by omega) (sub_1 _)
  have w1 := mw_c k1 (o := 14) (by decide) (192 + 4 * P 9 1) r1
  have l1 := ML.w k1 (o := 14) (j := 192 + 4 * P 9 1) (by decide) (by show 4 * 48 ≤ _; omega) r1
  have hM1 : MS (wI k1 (oM + 14) (192 + 4 * P 9 1) r1) oM := (hM.to c1.1).to w1.1
  have y2 := m_has hM1 (w := 6) (by decide)
  rw [show 36 + 6 = 35 + 7 by decide, w_ne (by omega), (R.to c1 mT6).q (k := 7) (by decide) (by decide)] at y2
  obtain ⟨k2, r2, x2, c2, O2⟩ : ∃ k r, DX12_number (sI (sI (sR fr0 0 oM) 1 (nI 0)) 2 (o_isub (nI (P 0 7)) (nI 1))) (wI k1 (oM + 14) (192 + 4 * P 9 1) r1) = some (r, k) ∧ Ch mTD (wI k1 (oM + 14) (192 + 4 * P 9 1) r1) k ∧ ((∃ a p1 b p2, pN B n 0 (P 0 6) (nxt B n p) = .inr (a, p1) ∧ r1 = nI a ∧ pN B n 0 (P 0 7) p1 = .inr (b, p2) ∧ r = nI b ∧ MRd B n p2 k) ∨ ∃ e, bCarry B n p P = .inl e ∧ MFl e k) := by
    unfold bCarry
    obtain ⟨a, p1, e1, rfl, K, -, -⟩ | ⟨e, e1, K⟩ := O1
    · obtain ⟨k, r, x, c, ⟨b, p2, e2, rfl, K, -, -⟩ | ⟨e, e2, K⟩⟩ := mr_num (K.to w1 mW0 mW5) (lo := 0) (top := P 0 7) (by decide) (by omega) (sub_1 _)
      · exact ⟨k, _, x, c, Or.inl ⟨a, p1, b, p2, e1, rfl, e2, rfl, K⟩⟩
      · exact ⟨k, _, x, c, Or.inr ⟨e, by rw [e1, bnd_r, e2, bnd_l], K⟩⟩
    · exact ⟨_, _, mf_num (K.to w1 mW0) _ _, Ch.rf _ _, Or.inr ⟨e, by rw [e1, bnd_l], K.to w1 mW0⟩⟩
  have w2 := mw_c k2 (o := 14) (by decide) (192 + 4 * P 9 1 + 1) r2
  have l2 := ML.w k2 (o := 14) (j := 192 + 4 * P 9 1 + 1) (by decide) (by show 4 * 48 ≤ _; omega) r2
  have hM2 : MS (wI k2 (oM + 14) (192 + 4 * P 9 1 + 1) r2) oM := (hM1.to c2.1).to w2.1
  have q3 : hi (wI k2 (oM + 14) (192 + 4 * P 9 1 + 1) r2) (oM + 7) 39 = nI (P 0 4) := by
    rw [w_ne (by omega), (c2.2 _ (mT6 _ (by omega))).1, w_ne (by omega)]
    exact (R.to c1 mT6).q (k := 4) (by decide) (by decide)
  obtain ⟨k3, r3, x3, c3, O3⟩ : ∃ k r, DX12_houseHere_ (sL (sR fr0 0 oM) 1 (lN 555)) (wI k2 (oM + 14) (192 + 4 * P 9 1 + 1) r2) = some (r, k) ∧ Ch mTD (wI k2 (oM + 14) (192 + 4 * P 9 1 + 1) r2) k ∧ ((∃ a p1 b p2 c p3, pN B n 0 (P 0 6) (nxt B n p) = .inr (a, p1) ∧ r1 = nI a ∧ pN B n 0 (P 0 7) p1 = .inr (b, p2) ∧ r2 = nI b ∧ pA B n 13 0 (P 0 4) p2 = .inr (c, p3) ∧ r = nI c ∧ MRd B n p3 k) ∨ ∃ e, bCarry B n p P = .inl e ∧ MFl e k) := by
    obtain ⟨a, p1, b, p2, e1, f1, e2, rfl, K⟩ | ⟨e, e1, K⟩ := O2
    · obtain ⟨k, r, x, c, ⟨c', p3, e3, rfl, K, -, -⟩ | ⟨e, e3, K⟩⟩ := mr_hhA (K.to w2 mW0 mW5) (j := 13) (c := lN 555) cdw_13.symm (top := P 0 4) (by omega) q3
      · exact ⟨k, _, x, c, Or.inl ⟨a, p1, b, p2, c', p3, e1, f1, e2, rfl, e3, rfl, K⟩⟩
      · exact ⟨k, _, x, c, Or.inr ⟨e, by unfold bCarry; rw [e1, bnd_r, e2, bnd_r, e3, bnd_l], K⟩⟩
    · exact ⟨_, _, mf_hhA (K.to w2 mW0) _, Ch.rf _ _, Or.inr ⟨e, e1, K.to w2 mW0⟩⟩
  have w3 := mw_c k3 (o := 14) (by decide) (192 + 4 * P 9 1 + 2) r3
  have l3 := ML.w k3 (o := 14) (j := 192 + 4 * P 9 1 + 2) (by decide) (by show 4 * 48 ≤ _; omega) r3
  have hM3 : MS (wI k3 (oM + 14) (192 + 4 * P 9 1 + 2) r3) oM := (hM2.to c3.1).to w3.1
  obtain ⟨k4, r4, x4, c4, O4⟩ : ∃ k r, DX12_number_ (sI (sI (sL (sR fr0 0 oM) 1 (lN 47)) 3 (nI 0)) 4 (nI 11)) (wI k3 (oM + 14) (192 + 4 * P 9 1 + 2) r3) = some (r, k) ∧ Ch mTD (wI k3 (oM + 14) (192 + 4 * P 9 1 + 2) r3) k ∧ ((∃ a p1 b p2 c p3 d p4, pN B n 0 (P 0 6) (nxt B n p) = .inr (a, p1) ∧ r1 = nI a ∧ pN B n 0 (P 0 7) p1 = .inr (b, p2) ∧ r2 = nI b ∧ pA B n 13 0 (P 0 4) p2 = .inr (c, p3) ∧ r3 = nI c ∧ pA B n 8 0 12 p3 = .inr (d, p4) ∧ r = nI d ∧ MRd B n p4 k) ∨ ∃ e, bCarry B n p P = .inl e ∧ MFl e k) := by
    obtain ⟨a, p1, b, p2, c, p3, e1, f1, e2, f2, e3, rfl, K⟩ | ⟨e, e1, K⟩ := O3
    · obtain ⟨k, r, x, cc, ⟨d, p4, e4, rfl, K, -, -⟩ | ⟨e, e4, K⟩⟩ := mr_am (K.to w3 mW0 mW5) (lo := 0) (top := 12) (x := nI 11) (j := 8) (c := lN 47) cdw_8.symm (by decide) (by decide) (by decide)
      · exact ⟨k, _, x, cc, Or.inl ⟨a, p1, b, p2, c, p3, d, p4, e1, f1, e2, f2, e3, rfl, e4, rfl, K⟩⟩
      · exact ⟨k, _, x, cc, Or.inr ⟨e, by unfold bCarry; rw [e1, bnd_r, e2, bnd_r, e3, bnd_r, e4, bnd_l], K⟩⟩
    · exact ⟨_, _, mf_am (K.to w3 mW0) _ _ _, Ch.rf _ _, Or.inr ⟨e, e1, K.to w3 mW0⟩⟩
  have w4 := mw_c k4 (o := 14) (by decide) (192 + 4 * P 9 1 + 3) r4
  have l4 := ML.w k4 (o := 14) (j := 192 + 4 * P 9 1 + 3) (by decide) (by show 4 * 48 ≤ _; omega) r4
  have q7 : hi (wI k4 (oM + 14) (192 + 4 * P 9 1 + 3) r4) (oM + 7) (36 + 7) = nI (P 9 1) := by
    rw [w_ne (by omega), (c4.2 _ (mT6 _ (by omega))).1, w_ne (by omega), (c3.2 _ (mT6 _ (by omega))).1, w_ne (by omega), (c2.2 _ (mT6 _ (by omega))).1, w_ne (by omega)]
    exact (R.to c1 mT6).q9
  obtain ⟨t1, t2, t3, t4⟩ := ml_tail ((hM3.to c4.1).to w4.1) (w := 7) (c := P 9 1) (by decide) q7
  refine ⟨_, ?_, ((((((((ML.tm c1).tr l1).tr (ML.tm c2)).tr l2).tr (ML.tm c3)).tr l3).tr (ML.tm c4)).tr l4).tr t3, ?_⟩
  · simp (disch := omega) only [DX12_carryLine, BX12_carryLine, nI_n10, ob_t, ob_n, ob_ite, e_cI, e_cL, e_cR, e_vI, e_vL, e_vR, e_d2, e_d2_a, e_d2_b, e_d2z, e_d2z_a, e_d2z_b, e_d1, e_d1_a, e_GI, e_GI_a, e_GL, e_GL_a, e_GR, e_GR_a, e_AI, e_AI_a, e_AI_b, e_AB, e_AB_a, e_AB_b, e_AZ, e_AZ_a, e_AZ_b, e_AL, e_AL_a, e_AL_b, e_AR, e_AR_a, e_AR_b, e_Len, e_Len_a, e_CI, e_CI_a, e_CI_b, e_CZ, e_CZ_a, e_And, e_kAnd, e_Or, e_kOr, e_Not, e_kNot, e_B, e_kB, e_T, e_kT, e_NN, e_kNN, e_NewA, e_NewA_a, e_NewC, e_kNewC, e_aN, e_aI, e_aI_a, e_aI_b, e_aL, e_aL_a, e_aL_b, e_aR, e_aR_a, e_aR_b, e_Call, e_kCall, e_CallV, e_kCallV, e_SetI, e_kSetI, e_SetL, e_kSetL, e_SetR, e_kSetR, e_Inc, e_Skip, e_Brk, e_Cnt, e_Ret, e_kRet, e_Ret0, e_Seq, e_kSeq0, e_kSeq1, e_kSeq2, e_kSeqR, e_If, e_kIf, e_Do, e_kDo, e_Sup, e_kN0, e_d3, e_k3a, e_k3b, e_k3c, e_P, e_kPa, e_kPb, e_UA, e_kUAa, e_kUAb, e_kUAc, e_UL, e_kULa, e_kULb, e_kULc, e_UF, e_kUFa, e_kUFb, e_Cp, e_kCp, e_Sw, e_kSwa, e_kSwb0, e_kSwb1, e_kSwbR, e_M1, e_kM1, e_MZ, e_kMZ, e_MN, e_kMN, e_Tv, e_kTv, e_Tc, e_kTc, e_lpS, e_kLp, e_kLpB0, e_kLpB1, e_kLpB2, e_kLpBR, e_kLpU, e_dwS, e_kDwB0, e_kDwC, f_II, f_LL, f_RR, f_IL, f_IR, f_LI, f_LR, f_RI, f_RL, and_true, true_and, and_false, false_and, or_true, true_or, or_false, false_or, not_true_eq_false, not_false_eq_true, if_true, if_false, ite_self, Bool.not_true, Bool.not_false, Bool.false_eq_true, Bool.true_eq_false, decide_true, decide_false, ne_eq, reduceIte, Nat.reduceEqDiff, Option.some.injEq, Prod.mk.injEq, eq_self, r_lt, r_le, r_gt, r_ge, r_eq, r_ne, q_lt, q_le, q_gt, q_ge, q_eq, q_ne, decide_eq_true_eq, b01, b0, b1, o_iadd, o_imul, n_inb, nI_clamp, w_hr, w_hk, w_hl, w_eq, w_ne, wl_hr, wl_hk, wl_hi, wl_eq, wl_ne, stI, idI, fI, fL, f_ss, f_sR, f_sL, lc0, lc1, lc01, fa_lit, fa_litL, hM.k, hM.k1, hM.k2, hM.k3, hM.k4, hM.k5, hM.k6, hM.k7, hM.k8, hM.k9, hM.k10, hM.k11, hM.k12, hM.k13, hM.k14, hM.k15, hM.k16, hM.k17, hM.k18, hM.k19, hM.k20, hM.k21, hM.k22, hM.k23, hM.k24, hM.k25, hM.k26, hM.k27, hM.k28, hM.k29, hM.k30, hM.k31, hM.k32, hM.k33, hM.k34, hM.k35, hM.r1, hM.r2, hM.r3, hM.r4, hM.r5, hM.r16, hM.r17, hM.r18, hM.r19, hM.r20, hM.r21, hM.r22, hM.r23, hM.r24, hM.r25, hM.r26, hM.r31, hM.r32, hM.r33, hM.r34, hM.r35, hM.r36, hM.r37, hM.r38, hM.r39, hM.r40, hM.r41, hM.r42, hM.r43, hM.r44, hM.r47, hM.r48, hM.r49, hM.r50, hM.r54, y0, y1, y2, x1, x2, x3, x4, t1, t2, c1.1.1, c1.1.2.1, c2.1.1, c2.1.2.1, c3.1.1, c3.1.2.1, c4.1.1, c4.1.2.1, e6, e7, e81, e82, e83, e9]
  · obtain ⟨a, p1, b, p2, c, p3, d, p4, e1, rfl, e2, rfl, e3, rfl, e4, rfl, K⟩ | ⟨e, e1, K⟩ := O4
    · have R1 := ((R.to c1 mT6).w (j := 10) (k := P 9 1) (Or.inr (Or.inr (Or.inr (by decide)))) a).to c2 mT6
      have R2 := (R1.w (j := 11) (k := P 9 1) (Or.inr (Or.inr (Or.inr (by decide)))) b).to c3 mT6
      have R3 := (R2.w (j := 12) (k := P 9 1) (Or.inr (Or.inr (Or.inr (by decide)))) c).to c4 mT6
      have R4 := (R3.w (j := 13) (k := P 9 1) (Or.inr (Or.inr (Or.inr (by decide)))) d).w (j := 9) (k := 1) (Or.inr (Or.inr (Or.inl (by decide)))) (P 9 1 + 1)
      refine Or.inl ⟨p4, _, by unfold bCarry; rw [e1, bnd_r, e2, bnd_r, e3, bnd_r, e4, bnd_r], (K.to w4 mW0 mW5).to t4 mW0 mW5, R4.mono ?_⟩
      rintro a b ⟨hz, h9⟩
      obtain y | y := pin_gen (P := P) (d4 := 0) (d5 := 0) (d6 := 0) (d7 := 0) (d9 := 1) (by simp [up]) (by simp [up]) (by simp [up]) (by simp [up]) (by simp [up]) (fun s _ => by simp [up]) hz
      · exact Or.inl (Or.inl (Or.inl (Or.inl (Or.inl ⟨y, h9⟩))))
      · have yb : b = P 9 1 := by omega
        rcases (show a = 10 ∨ a = 11 ∨ a = 12 ∨ a = 13 by omega) with w | w | w | w
        · exact Or.inl (Or.inl (Or.inl (Or.inl (Or.inr ⟨w, yb⟩))))
        · exact Or.inl (Or.inl (Or.inl (Or.inr ⟨w, yb⟩)))
        · exact Or.inl (Or.inl (Or.inr ⟨w, yb⟩))
        · exact Or.inl (Or.inr ⟨w, yb⟩)
    · exact Or.inr ⟨e, e1, (K.to w4 mW0).to t4 mW0⟩
theorem RMc.wo (H : RMc D h P) {j k : Nat} (hv : vA j k) (hD : ¬ D j k) (v : Int32) : RMc D (wI h (oM + (mA j k).1) (mA j k).2 v) P := by
  intro a b hz
  obtain ⟨va, e⟩ := H a b hz
  refine ⟨va, ?_⟩
  have hne : ¬ ((mA a b).1 = (mA j k).1 ∧ (mA a b).2 = (mA j k).2) := by
    rintro ⟨q1, q2⟩
    have b1 := mBA va
    rw [q1, q2, mBA hv] at b1
    cases b1
    exact hD hz
  rw [w_ne (by omega)]
  exact e
theorem RMc.add (H : RMc D h P) {j k v : Nat} (hv : vA j k) (e : hi h (oM + (mA j k).1) (mA j k).2 = nI v) : RMc (fun a b => D a b ∨ (a = j ∧ b = k)) h (up P j k v) := by
  intro a b hD
  by_cases z : a = j ∧ b = k
  · rw [z.1, z.2]
    exact ⟨hv, by rw [e, up_eq]⟩
  · obtain ⟨va, e⟩ := H a b (hD.resolve_right z)
    exact ⟨va, by rw [up_o _ _ (by omega)]; exact e⟩
def msF (s : Nat) : Fr := sI (sR fr0 0 oM) 1 (nI (12 + s))
def msC (f : Fr) : Fr := sI (sR fr0 0 (gR f 0)) 1 (gI f 1)
noncomputable def msB : Sm Unit := dSeq (d3 (stI 13 idI) (dGR 12 23 (vR 0)) (d2 o_iadd (d2 o_imul (cI 6) (vI 1)) (dAI (dGR 12 22 (vR 0)) (vI 1))) (dCallV 12 DX12_number (aI (aI (aR aN 0 (vR 0)) 1 (cI 1)) 2 (cI 30)))) (dSeq (dUA o_iadd (dGR 12 22 (vR 0)) (vI 1) (cI 1)) (dSeq (dIf (dOr (dCZ q_ne (dGI 12 12 (vR 0))) (dNot (dCZ q_ne (dCallV 12 DX12_is (aL (aR aN 0 (vR 0)) 1 (cL 464134)))))) dBrk dSkip) (dSeq (dIf (dCI r_eq (dAI (dGR 12 22 (vR 0)) (vI 1)) (cI 6)) (dDo (dCallV 12 DX12_fails (aI (aR aN 0 (vR 0)) 1 (cI 3)))) dSkip) (dIf (dCZ q_eq (dGI 12 12 (vR 0))) (dDo (dCallV 12 DX12_next (aR aN 0 (vR 0)))) dSkip))))
theorem ms_loop {s : Nat} (hs : s < 3) : ∀ (f w p : Nat) (P : PT) (h : St) (D : Nat → Nat → Prop), w + f = 6 → 0 < f → ¬ D 7 s → isW B n p 11 = true → MRd B n (nxt B n p) h → RMc D h P → hi h (oM + 12) (12 + s) = nI w → ∃ g, iter (lpS msC (dCZ q_eq (dGI 12 12 (vR 0))) msB dSkip) (msF s, h) = some (.inl 0, msF s, g) ∧ ML h g ∧ (∀ j, hi g (oM + 7) j = hi h (oM + 7) j) ∧ ((∃ w' p' P', pWs B n s f w p P = .inr (w', p', P') ∧ MRd B n p' g ∧ RMc (fun a b => D a b ∨ (a = 8 ∧ 6 * s + w ≤ b ∧ b < 6 * s + w')) g P' ∧ hi g (oM + 12) (12 + s) = nI w') ∨ ∃ e, pWs B n s f w p P = .inl e ∧ MFl e g) := by
  intro f
  induction f with
  | zero => intro w p P h D _ hf; omega
  | succ f ih =>
    intro w p P h D hwf _ hD hw11 H R k12
    have hM := H.1.1.1
    have s12 := H.2
    have e6 : nI 6 * nI (12 + s) + nI w = nI (72 + (6 * s + w)) := by rw [pk_mul, nI_add, show 6 * (12 + s) + w = 72 + (6 * s + w) by omega]
    have e7 : nI w + nI 1 = nI (w + 1) := nI_add _ _
    obtain ⟨k1, r1, x1, c1, O1⟩ := mr_num H (lo := 1) (top := 31) (x := nI 30) (by decide) (by decide) (by decide)
    have k12' : hi k1 (oM + 12) (12 + s) = nI w := by rw [(c1.2 _ (mT6 _ (by omega))).1]; exact k12
    have w1 := mw_c k1 (o := 13) (by decide) (72 + (6 * s + w)) r1
    have l1 := ML.w k1 (o := 13) (j := 72 + (6 * s + w)) (by decide) (by show 4 * 18 ≤ _; omega) r1
    have w2 := mw_c (wI k1 (oM + 13) (72 + (6 * s + w)) r1) (o := 12) (by decide) (12 + s) (nI (w + 1))
    have l2 := ML.w (wI k1 (oM + 13) (72 + (6 * s + w)) r1) (o := 12) (j := 12 + s) (by decide) (by show 4 * 3 ≤ _; omega) (nI (w + 1))
    have la := ((ML.tm c1).tr l1).tr l2
    have u7 : ∀ j, hi (wI (wI k1 (oM + 13) (72 + (6 * s + w)) r1) (oM + 12) (12 + s) (nI (w + 1))) (oM + 7) j = hi h (oM + 7) j := fun j => by rw [w_ne (by omega), w_ne (by omega), (c1.2 _ (mT6 _ (by omega))).1]
    unfold pWs
    unfold pA
    rw [if_pos hw11]
    have cnd : dCZ q_eq (dGI 12 12 (vR 0)) (msF s) h = some (true, h) := by
      unfold msF
      simp (disch := omega) only [nI_n10, ob_t, ob_n, ob_ite, e_cI, e_cL, e_cR, e_vI, e_vL, e_vR, e_d2, e_d2_a, e_d2_b, e_d2z, e_d2z_a, e_d2z_b, e_d1, e_d1_a, e_GI, e_GI_a, e_GL, e_GL_a, e_GR, e_GR_a, e_AI, e_AI_a, e_AI_b, e_AB, e_AB_a, e_AB_b, e_AZ, e_AZ_a, e_AZ_b, e_AL, e_AL_a, e_AL_b, e_AR, e_AR_a, e_AR_b, e_Len, e_Len_a, e_CI, e_CI_a, e_CI_b, e_CZ, e_CZ_a, e_And, e_kAnd, e_Or, e_kOr, e_Not, e_kNot, e_B, e_kB, e_T, e_kT, e_NN, e_kNN, e_NewA, e_NewA_a, e_NewC, e_kNewC, e_aN, e_aI, e_aI_a, e_aI_b, e_aL, e_aL_a, e_aL_b, e_aR, e_aR_a, e_aR_b, e_Call, e_kCall, e_CallV, e_kCallV, e_SetI, e_kSetI, e_SetL, e_kSetL, e_SetR, e_kSetR, e_Inc, e_Skip, e_Brk, e_Cnt, e_Ret, e_kRet, e_Ret0, e_Seq, e_kSeq0, e_kSeq1, e_kSeq2, e_kSeqR, e_If, e_kIf, e_Do, e_kDo, e_Sup, e_kN0, e_d3, e_k3a, e_k3b, e_k3c, e_P, e_kPa, e_kPb, e_UA, e_kUAa, e_kUAb, e_kUAc, e_UL, e_kULa, e_kULb, e_kULc, e_UF, e_kUFa, e_kUFb, e_Cp, e_kCp, e_Sw, e_kSwa, e_kSwb0, e_kSwb1, e_kSwbR, e_M1, e_kM1, e_MZ, e_kMZ, e_MN, e_kMN, e_Tv, e_kTv, e_Tc, e_kTc, e_lpS, e_kLp, e_kLpB0, e_kLpB1, e_kLpB2, e_kLpBR, e_kLpU, e_dwS, e_kDwB0, e_kDwC, f_II, f_LL, f_RR, f_IL, f_IR, f_LI, f_LR, f_RI, f_RL, and_true, true_and, and_false, false_and, or_true, true_or, or_false, false_or, not_true_eq_false, not_false_eq_true, if_true, if_false, ite_self, Bool.not_true, Bool.not_false, Bool.false_eq_true, Bool.true_eq_false, decide_true, decide_false, ne_eq, reduceIte, Nat.reduceEqDiff, Option.some.injEq, Prod.mk.injEq, eq_self, r_lt, r_le, r_gt, r_ge, r_eq, r_ne, q_lt, q_le, q_gt, q_ge, q_eq, q_ne, decide_eq_true_eq, b01, b0, b1, o_iadd, o_imul, n_inb, nI_clamp, w_hr, w_hk, w_hl, w_eq, w_ne, wl_hr, wl_hk, wl_hi, wl_eq, wl_ne, stI, idI, fI, fL, f_ss, f_sR, f_sL, lc0, lc1, lc01, fa_lit, fa_litL, hM.k, s12]
    obtain ⟨v, p', e1, rfl, K, -, -⟩ | ⟨e, e1, K⟩ := O1
    · rw [e1, bnd_r]
      have K2 := (K.to w1 mW0 mW5).to w2 mW0 mW5
      have f12 := K2.2
      have R2 := (((R.to c1 mT6).w (j := 8) (k := 6 * s + w) (Or.inr (Or.inl (by decide))) v).wo (j := 7) (k := s) (Or.inr (Or.inl (by decide))) (fun q => q.elim hD (fun q => by omega)) (nI (w + 1)))
      have x2 := mr_is K2 (j := 11) (c := lN 464134) cdw_11.symm
      by_cases z : isW B n p' 11 = true
      · rw [if_pos z] at x2
        rw [if_pos z]
        by_cases y : w + 1 < 6
        · rw [if_pos y]
          have e8 : (nI (w + 1) = nI 6) = False := by rw [nI_eq (by omega) (by omega)]; exact eq_false (by omega)
          obtain ⟨k3, x3, c3, K3⟩ := mr_next K2
          have st : lpS msC (dCZ q_eq (dGI 12 12 (vR 0))) msB dSkip (msF s, h) = some (.inl (msF s, k3)) := by
            rw [e_lpS, cnd, ob_t, e_kLp, if_pos rfl]
            unfold msB msF msC
            simp (disch := omega) only [nI_n10, ob_t, ob_n, ob_ite, e_cI, e_cL, e_cR, e_vI, e_vL, e_vR, e_d2, e_d2_a, e_d2_b, e_d2z, e_d2z_a, e_d2z_b, e_d1, e_d1_a, e_GI, e_GI_a, e_GL, e_GL_a, e_GR, e_GR_a, e_AI, e_AI_a, e_AI_b, e_AB, e_AB_a, e_AB_b, e_AZ, e_AZ_a, e_AZ_b, e_AL, e_AL_a, e_AL_b, e_AR, e_AR_a, e_AR_b, e_Len, e_Len_a, e_CI, e_CI_a, e_CI_b, e_CZ, e_CZ_a, e_And, e_kAnd, e_Or, e_kOr, e_Not, e_kNot, e_B, e_kB, e_T, e_kT, e_NN, e_kNN, e_NewA, e_NewA_a, e_NewC, e_kNewC, e_aN, e_aI, e_aI_a, e_aI_b, e_aL, e_aL_a, e_aL_b, e_aR, e_aR_a, e_aR_b, e_Call, e_kCall, e_CallV, e_kCallV, e_SetI, e_kSetI, e_SetL, e_kSetL, e_SetR, e_kSetR, e_Inc, e_Skip, e_Brk, e_Cnt, e_Ret, e_kRet, e_Ret0, e_Seq, e_kSeq0, e_kSeq1, e_kSeq2, e_kSeqR, e_If, e_kIf, e_Do, e_kDo, e_Sup, e_kN0, e_d3, e_k3a, e_k3b, e_k3c, e_P, e_kPa, e_kPb, e_UA, e_kUAa, e_kUAb, e_kUAc, e_UL, e_kULa, e_kULb, e_kULc, e_UF, e_kUFa, e_kUFb, e_Cp, e_kCp, e_Sw, e_kSwa, e_kSwb0, e_kSwb1, e_kSwbR, e_M1, e_kM1, e_MZ, e_kMZ, e_MN, e_kMN, e_Tv, e_kTv, e_Tc, e_kTc, e_lpS, e_kLp, e_kLpB0, e_kLpB1, e_kLpB2, e_kLpBR, e_kLpU, e_dwS, e_kDwB0, e_kDwC, f_II, f_LL, f_RR, f_IL, f_IR, f_LI, f_LR, f_RI, f_RL, and_true, true_and, and_false, false_and, or_true, true_or, or_false, false_or, not_true_eq_false, not_false_eq_true, if_true, if_false, ite_self, Bool.not_true, Bool.not_false, Bool.false_eq_true, Bool.true_eq_false, decide_true, decide_false, ne_eq, reduceIte, Nat.reduceEqDiff, Option.some.injEq, Prod.mk.injEq, eq_self, r_lt, r_le, r_gt, r_ge, r_eq, r_ne, q_lt, q_le, q_gt, q_ge, q_eq, q_ne, decide_eq_true_eq, b01, b0, b1, o_iadd, o_imul, n_inb, nI_clamp, w_hr, w_hk, w_hl, w_eq, w_ne, wl_hr, wl_hk, wl_hi, wl_eq, wl_ne, stI, idI, fI, fL, f_ss, f_sR, f_sL, lc0, lc1, lc01, fa_lit, fa_litL, hM.k, hM.k1, hM.k2, hM.k3, hM.k4, hM.k5, hM.k6, hM.k7, hM.k8, hM.k9, hM.k10, hM.k11, hM.k12, hM.k13, hM.k14, hM.k15, hM.k16, hM.k17, hM.k18, hM.k19, hM.k20, hM.k21, hM.k22, hM.k23, hM.k24, hM.k25, hM.k26, hM.k27, hM.k28, hM.k29, hM.k30, hM.k31, hM.k32, hM.k33, hM.k34, hM.k35, hM.r1, hM.r2, hM.r3, hM.r4, hM.r5, hM.r16, hM.r17, hM.r18, hM.r19, hM.r20, hM.r21, hM.r22, hM.r23, hM.r24, hM.r25, hM.r26, hM.r31, hM.r32, hM.r33, hM.r34, hM.r35, hM.r36, hM.r37, hM.r38, hM.r39, hM.r40, hM.r41, hM.r42, hM.r43, hM.r44, hM.r47, hM.r48, hM.r49, hM.r50, hM.r54, x1, x2, x3, k12, k12', c1.1.1, c1.1.2.1, e6, e7, e8, f12]
          rw [iter_inl st]
          obtain ⟨g, i1, i2, i7, i3⟩ := ih (w + 1) p' _ k3 _ (by omega) (by omega) (fun q => q.elim hD (fun q => by omega)) z K3 (R2.to c3 mT6) (by rw [(c3.2 _ (mT6 _ (by omega))).1, w_eq])
          refine ⟨g, i1, (la.tr (ML.tm c3)).tr i2, fun j => by rw [i7 j, (c3.2 _ (mT6 _ (by omega))).1, u7 j], ?_⟩
          obtain ⟨w', p2, P', j1, j2, j3, j4⟩ | j := i3
          · refine Or.inl ⟨w', p2, P', j1, j2, j3.mono (fun a b hz => ?_), j4⟩
            rcases hz with q | q
            · exact Or.inl (Or.inl q)
            · by_cases u : b = 6 * s + w
              · exact Or.inl (Or.inr ⟨q.1, u⟩)
              · exact Or.inr ⟨q.1, by omega, q.2.2⟩
          · exact Or.inr j
        · rw [if_neg y]
          have e8 : (nI (w + 1) = nI 6) = True := eq_true (by rw [show w + 1 = 6 by omega])
          obtain ⟨k3, x3, c3, K3⟩ := mr_fail K2 (w := 3) (by decide)
          obtain ⟨y0, f1, f2⟩ := K3.ne
          have st : lpS msC (dCZ q_eq (dGI 12 12 (vR 0))) msB dSkip (msF s, h) = some (.inl (msF s, k3)) := by
            rw [e_lpS, cnd, ob_t, e_kLp, if_pos rfl]
            unfold msB msF msC
            simp (disch := omega) only [nI_n10, ob_t, ob_n, ob_ite, e_cI, e_cL, e_cR, e_vI, e_vL, e_vR, e_d2, e_d2_a, e_d2_b, e_d2z, e_d2z_a, e_d2z_b, e_d1, e_d1_a, e_GI, e_GI_a, e_GL, e_GL_a, e_GR, e_GR_a, e_AI, e_AI_a, e_AI_b, e_AB, e_AB_a, e_AB_b, e_AZ, e_AZ_a, e_AZ_b, e_AL, e_AL_a, e_AL_b, e_AR, e_AR_a, e_AR_b, e_Len, e_Len_a, e_CI, e_CI_a, e_CI_b, e_CZ, e_CZ_a, e_And, e_kAnd, e_Or, e_kOr, e_Not, e_kNot, e_B, e_kB, e_T, e_kT, e_NN, e_kNN, e_NewA, e_NewA_a, e_NewC, e_kNewC, e_aN, e_aI, e_aI_a, e_aI_b, e_aL, e_aL_a, e_aL_b, e_aR, e_aR_a, e_aR_b, e_Call, e_kCall, e_CallV, e_kCallV, e_SetI, e_kSetI, e_SetL, e_kSetL, e_SetR, e_kSetR, e_Inc, e_Skip, e_Brk, e_Cnt, e_Ret, e_kRet, e_Ret0, e_Seq, e_kSeq0, e_kSeq1, e_kSeq2, e_kSeqR, e_If, e_kIf, e_Do, e_kDo, e_Sup, e_kN0, e_d3, e_k3a, e_k3b, e_k3c, e_P, e_kPa, e_kPb, e_UA, e_kUAa, e_kUAb, e_kUAc, e_UL, e_kULa, e_kULb, e_kULc, e_UF, e_kUFa, e_kUFb, e_Cp, e_kCp, e_Sw, e_kSwa, e_kSwb0, e_kSwb1, e_kSwbR, e_M1, e_kM1, e_MZ, e_kMZ, e_MN, e_kMN, e_Tv, e_kTv, e_Tc, e_kTc, e_lpS, e_kLp, e_kLpB0, e_kLpB1, e_kLpB2, e_kLpBR, e_kLpU, e_dwS, e_kDwB0, e_kDwC, f_II, f_LL, f_RR, f_IL, f_IR, f_LI, f_LR, f_RI, f_RL, and_true, true_and, and_false, false_and, or_true, true_or, or_false, false_or, not_true_eq_false, not_false_eq_true, if_true, if_false, ite_self, Bool.not_true, Bool.not_false, Bool.false_eq_true, Bool.true_eq_false, decide_true, decide_false, ne_eq, reduceIte, Nat.reduceEqDiff, Option.some.injEq, Prod.mk.injEq, eq_self, r_lt, r_le, r_gt, r_ge, r_eq, r_ne, q_lt, q_le, q_gt, q_ge, q_eq, q_ne, decide_eq_true_eq, b01, b0, b1, o_iadd, o_imul, n_inb, nI_clamp, w_hr, w_hk, w_hl, w_eq, w_ne, wl_hr, wl_hk, wl_hi, wl_eq, wl_ne, stI, idI, fI, fL, f_ss, f_sR, f_sL, lc0, lc1, lc01, fa_lit, fa_litL, hM.k, hM.k1, hM.k2, hM.k3, hM.k4, hM.k5, hM.k6, hM.k7, hM.k8, hM.k9, hM.k10, hM.k11, hM.k12, hM.k13, hM.k14, hM.k15, hM.k16, hM.k17, hM.k18, hM.k19, hM.k20, hM.k21, hM.k22, hM.k23, hM.k24, hM.k25, hM.k26, hM.k27, hM.k28, hM.k29, hM.k30, hM.k31, hM.k32, hM.k33, hM.k34, hM.k35, hM.r1, hM.r2, hM.r3, hM.r4, hM.r5, hM.r16, hM.r17, hM.r18, hM.r19, hM.r20, hM.r21, hM.r22, hM.r23, hM.r24, hM.r25, hM.r26, hM.r31, hM.r32, hM.r33, hM.r34, hM.r35, hM.r36, hM.r37, hM.r38, hM.r39, hM.r40, hM.r41, hM.r42, hM.r43, hM.r44, hM.r47, hM.r48, hM.r49, hM.r50, hM.r54, x1, x2, x3, k12, k12', c1.1.1, c1.1.2.1, c3.1.1, c3.1.2.1, e6, e7, e8, f12, f1, f2]
          rw [iter_inl st]
          refine ⟨k3, iter_inr ?_, la.tr (ML.tm c3), fun j => by rw [(c3.2 _ (mT6 _ (by omega))).1, u7 j], Or.inr ⟨_, rfl, K3⟩⟩
          have hM3 := K3.1
          unfold msF
          simp (disch := omega) only [nI_n10, ob_t, ob_n, ob_ite, e_cI, e_cL, e_cR, e_vI, e_vL, e_vR, e_d2, e_d2_a, e_d2_b, e_d2z, e_d2z_a, e_d2z_b, e_d1, e_d1_a, e_GI, e_GI_a, e_GL, e_GL_a, e_GR, e_GR_a, e_AI, e_AI_a, e_AI_b, e_AB, e_AB_a, e_AB_b, e_AZ, e_AZ_a, e_AZ_b, e_AL, e_AL_a, e_AL_b, e_AR, e_AR_a, e_AR_b, e_Len, e_Len_a, e_CI, e_CI_a, e_CI_b, e_CZ, e_CZ_a, e_And, e_kAnd, e_Or, e_kOr, e_Not, e_kNot, e_B, e_kB, e_T, e_kT, e_NN, e_kNN, e_NewA, e_NewA_a, e_NewC, e_kNewC, e_aN, e_aI, e_aI_a, e_aI_b, e_aL, e_aL_a, e_aL_b, e_aR, e_aR_a, e_aR_b, e_Call, e_kCall, e_CallV, e_kCallV, e_SetI, e_kSetI, e_SetL, e_kSetL, e_SetR, e_kSetR, e_Inc, e_Skip, e_Brk, e_Cnt, e_Ret, e_kRet, e_Ret0, e_Seq, e_kSeq0, e_kSeq1, e_kSeq2, e_kSeqR, e_If, e_kIf, e_Do, e_kDo, e_Sup, e_kN0, e_d3, e_k3a, e_k3b, e_k3c, e_P, e_kPa, e_kPb, e_UA, e_kUAa, e_kUAb, e_kUAc, e_UL, e_kULa, e_kULb, e_kULc, e_UF, e_kUFa, e_kUFb, e_Cp, e_kCp, e_Sw, e_kSwa, e_kSwb0, e_kSwb1, e_kSwbR, e_M1, e_kM1, e_MZ, e_kMZ, e_MN, e_kMN, e_Tv, e_kTv, e_Tc, e_kTc, e_lpS, e_kLp, e_kLpB0, e_kLpB1, e_kLpB2, e_kLpBR, e_kLpU, e_dwS, e_kDwB0, e_kDwC, f_II, f_LL, f_RR, f_IL, f_IR, f_LI, f_LR, f_RI, f_RL, and_true, true_and, and_false, false_and, or_true, true_or, or_false, false_or, not_true_eq_false, not_false_eq_true, if_true, if_false, ite_self, Bool.not_true, Bool.not_false, Bool.false_eq_true, Bool.true_eq_false, decide_true, decide_false, ne_eq, reduceIte, Nat.reduceEqDiff, Option.some.injEq, Prod.mk.injEq, eq_self, r_lt, r_le, r_gt, r_ge, r_eq, r_ne, q_lt, q_le, q_gt, q_ge, q_eq, q_ne, decide_eq_true_eq, b01, b0, b1, o_iadd, o_imul, n_inb, nI_clamp, w_hr, w_hk, w_hl, w_eq, w_ne, wl_hr, wl_hk, wl_hi, wl_eq, wl_ne, stI, idI, fI, fL, f_ss, f_sR, f_sL, lc0, lc1, lc01, fa_lit, fa_litL, hM3.k, f1, f2]
      · rw [if_neg z] at x2
        rw [if_neg z]
        refine ⟨_, iter_inr ?_, la, u7, Or.inl ⟨w + 1, p', _, rfl, K2, R2.mono ?_, w_eq _ _ _ _⟩⟩
        · rw [e_lpS, cnd, ob_t, e_kLp, if_pos rfl]
          unfold msB msF msC
          simp (disch := omega) only [nI_n10, ob_t, ob_n, ob_ite, e_cI, e_cL, e_cR, e_vI, e_vL, e_vR, e_d2, e_d2_a, e_d2_b, e_d2z, e_d2z_a, e_d2z_b, e_d1, e_d1_a, e_GI, e_GI_a, e_GL, e_GL_a, e_GR, e_GR_a, e_AI, e_AI_a, e_AI_b, e_AB, e_AB_a, e_AB_b, e_AZ, e_AZ_a, e_AZ_b, e_AL, e_AL_a, e_AL_b, e_AR, e_AR_a, e_AR_b, e_Len, e_Len_a, e_CI, e_CI_a, e_CI_b, e_CZ, e_CZ_a, e_And, e_kAnd, e_Or, e_kOr, e_Not, e_kNot, e_B, e_kB, e_T, e_kT, e_NN, e_kNN, e_NewA, e_NewA_a, e_NewC, e_kNewC, e_aN, e_aI, e_aI_a, e_aI_b, e_aL, e_aL_a, e_aL_b, e_aR, e_aR_a, e_aR_b, e_Call, e_kCall, e_CallV, e_kCallV, e_SetI, e_kSetI, e_SetL, e_kSetL, e_SetR, e_kSetR, e_Inc, e_Skip, e_Brk, e_Cnt, e_Ret, e_kRet, e_Ret0, e_Seq, e_kSeq0, e_kSeq1, e_kSeq2, e_kSeqR, e_If, e_kIf, e_Do, e_kDo, e_Sup, e_kN0, e_d3, e_k3a, e_k3b, e_k3c, e_P, e_kPa, e_kPb, e_UA, e_kUAa, e_kUAb, e_kUAc, e_UL, e_kULa, e_kULb, e_kULc, e_UF, e_kUFa, e_kUFb, e_Cp, e_kCp, e_Sw, e_kSwa, e_kSwb0, e_kSwb1, e_kSwbR, e_M1, e_kM1, e_MZ, e_kMZ, e_MN, e_kMN, e_Tv, e_kTv, e_Tc, e_kTc, e_lpS, e_kLp, e_kLpB0, e_kLpB1, e_kLpB2, e_kLpBR, e_kLpU, e_dwS, e_kDwB0, e_kDwC, f_II, f_LL, f_RR, f_IL, f_IR, f_LI, f_LR, f_RI, f_RL, and_true, true_and, and_false, false_and, or_true, true_or, or_false, false_or, not_true_eq_false, not_false_eq_true, if_true, if_false, ite_self, Bool.not_true, Bool.not_false, Bool.false_eq_true, Bool.true_eq_false, decide_true, decide_false, ne_eq, reduceIte, Nat.reduceEqDiff, Option.some.injEq, Prod.mk.injEq, eq_self, r_lt, r_le, r_gt, r_ge, r_eq, r_ne, q_lt, q_le, q_gt, q_ge, q_eq, q_ne, decide_eq_true_eq, b01, b0, b1, o_iadd, o_imul, n_inb, nI_clamp, w_hr, w_hk, w_hl, w_eq, w_ne, wl_hr, wl_hk, wl_hi, wl_eq, wl_ne, stI, idI, fI, fL, f_ss, f_sR, f_sL, lc0, lc1, lc01, fa_lit, fa_litL, hM.k, hM.k1, hM.k2, hM.k3, hM.k4, hM.k5, hM.k6, hM.k7, hM.k8, hM.k9, hM.k10, hM.k11, hM.k12, hM.k13, hM.k14, hM.k15, hM.k16, hM.k17, hM.k18, hM.k19, hM.k20, hM.k21, hM.k22, hM.k23, hM.k24, hM.k25, hM.k26, hM.k27, hM.k28, hM.k29, hM.k30, hM.k31, hM.k32, hM.k33, hM.k34, hM.k35, hM.r1, hM.r2, hM.r3, hM.r4, hM.r5, hM.r16, hM.r17, hM.r18, hM.r19, hM.r20, hM.r21, hM.r22, hM.r23, hM.r24, hM.r25, hM.r26, hM.r31, hM.r32, hM.r33, hM.r34, hM.r35, hM.r36, hM.r37, hM.r38, hM.r39, hM.r40, hM.r41, hM.r42, hM.r43, hM.r44, hM.r47, hM.r48, hM.r49, hM.r50, hM.r54, x1, x2, k12, k12', c1.1.1, c1.1.2.1, e6, e7, f12]
        · intro a b hz
          rcases hz with q | q
          · exact Or.inl q
          · exact Or.inr ⟨q.1, by omega⟩
    · rw [e1, bnd_l]
      have K2 := (K.to w1 mW0).to w2 mW0
      obtain ⟨y0, f1, f2⟩ := K2.ne
      refine ⟨_, iter_inr ?_, la, u7, Or.inr ⟨e, rfl, K2⟩⟩
      rw [e_lpS, cnd, ob_t, e_kLp, if_pos rfl]
      unfold msB msF msC
      simp (disch := omega) only [nI_n10, ob_t, ob_n, ob_ite, e_cI, e_cL, e_cR, e_vI, e_vL, e_vR, e_d2, e_d2_a, e_d2_b, e_d2z, e_d2z_a, e_d2z_b, e_d1, e_d1_a, e_GI, e_GI_a, e_GL, e_GL_a, e_GR, e_GR_a, e_AI, e_AI_a, e_AI_b, e_AB, e_AB_a, e_AB_b, e_AZ, e_AZ_a, e_AZ_b, e_AL, e_AL_a, e_AL_b, e_AR, e_AR_a, e_AR_b, e_Len, e_Len_a, e_CI, e_CI_a, e_CI_b, e_CZ, e_CZ_a, e_And, e_kAnd, e_Or, e_kOr, e_Not, e_kNot, e_B, e_kB, e_T, e_kT, e_NN, e_kNN, e_NewA, e_NewA_a, e_NewC, e_kNewC, e_aN, e_aI, e_aI_a, e_aI_b, e_aL, e_aL_a, e_aL_b, e_aR, e_aR_a, e_aR_b, e_Call, e_kCall, e_CallV, e_kCallV, e_SetI, e_kSetI, e_SetL, e_kSetL, e_SetR, e_kSetR, e_Inc, e_Skip, e_Brk, e_Cnt, e_Ret, e_kRet, e_Ret0, e_Seq, e_kSeq0, e_kSeq1, e_kSeq2, e_kSeqR, e_If, e_kIf, e_Do, e_kDo, e_Sup, e_kN0, e_d3, e_k3a, e_k3b, e_k3c, e_P, e_kPa, e_kPb, e_UA, e_kUAa, e_kUAb, e_kUAc, e_UL, e_kULa, e_kULb, e_kULc, e_UF, e_kUFa, e_kUFb, e_Cp, e_kCp, e_Sw, e_kSwa, e_kSwb0, e_kSwb1, e_kSwbR, e_M1, e_kM1, e_MZ, e_kMZ, e_MN, e_kMN, e_Tv, e_kTv, e_Tc, e_kTc, e_lpS, e_kLp, e_kLpB0, e_kLpB1, e_kLpB2, e_kLpBR, e_kLpU, e_dwS, e_kDwB0, e_kDwC, f_II, f_LL, f_RR, f_IL, f_IR, f_LI, f_LR, f_RI, f_RL, and_true, true_and, and_false, false_and, or_true, true_or, or_false, false_or, not_true_eq_false, not_false_eq_true, if_true, if_false, ite_self, Bool.not_true, Bool.not_false, Bool.false_eq_true, Bool.true_eq_false, decide_true, decide_false, ne_eq, reduceIte, Nat.reduceEqDiff, Option.some.injEq, Prod.mk.injEq, eq_self, r_lt, r_le, r_gt, r_ge, r_eq, r_ne, q_lt, q_le, q_gt, q_ge, q_eq, q_ne, decide_eq_true_eq, b01, b0, b1, o_iadd, o_imul, n_inb, nI_clamp, w_hr, w_hk, w_hl, w_eq, w_ne, wl_hr, wl_hk, wl_hi, wl_eq, wl_ne, stI, idI, fI, fL, f_ss, f_sR, f_sL, lc0, lc1, lc01, fa_lit, fa_litL, hM.k, hM.k1, hM.k2, hM.k3, hM.k4, hM.k5, hM.k6, hM.k7, hM.k8, hM.k9, hM.k10, hM.k11, hM.k12, hM.k13, hM.k14, hM.k15, hM.k16, hM.k17, hM.k18, hM.k19, hM.k20, hM.k21, hM.k22, hM.k23, hM.k24, hM.k25, hM.k26, hM.k27, hM.k28, hM.k29, hM.k30, hM.k31, hM.k32, hM.k33, hM.k34, hM.k35, hM.r1, hM.r2, hM.r3, hM.r4, hM.r5, hM.r16, hM.r17, hM.r18, hM.r19, hM.r20, hM.r21, hM.r22, hM.r23, hM.r24, hM.r25, hM.r26, hM.r31, hM.r32, hM.r33, hM.r34, hM.r35, hM.r36, hM.r37, hM.r38, hM.r39, hM.r40, hM.r41, hM.r42, hM.r43, hM.r44, hM.r47, hM.r48, hM.r49, hM.r50, hM.r54, x1, k12, k12', c1.1.1, c1.1.2.1, e6, e7, f1, f2]
end
