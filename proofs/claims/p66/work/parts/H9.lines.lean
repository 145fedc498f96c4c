set_option maxRecDepth 100000
set_option maxHeartbeats 1000000
/-! the text of a PORT: the class reads a LINE into its draft, on: a SLATE; any LINE -/
section
variable {B : Nat → Int32} {n p : Nat} {h g : St} {P : PT}
theorem pN_r {lo top v p' : Nat} (e : pN B n lo top p = .inr (v, p')) : kd B n p = 2 ∧ v = nv B n p ∧ p' = nxt B n p ∧ lo ≤ v ∧ v < top := by
  unfold pN at e
  by_cases z : kd B n p = 2
  · rw [if_pos z] at e
    by_cases y : lo ≤ nv B n p ∧ nv B n p < top
    · rw [if_pos y] at e
      cases e
      exact ⟨z, rfl, rfl, y⟩
    · rw [if_neg y] at e; cases e
  · rw [if_neg z] at e; cases e
theorem pA_r {j lo top v p' : Nat} (e : pA B n j lo top p = .inr (v, p')) : isW B n p j = true ∧ pN B n lo top (nxt B n p) = .inr (v, p') := by
  unfold pA at e
  by_cases z : isW B n p j = true
  · rw [if_pos z] at e; exact ⟨z, e⟩
  · rw [if_neg z] at e; cases e
theorem pA_v {j lo top v p' : Nat} (e : pA B n j lo top p = .inr (v, p')) : lo ≤ v ∧ v < top := (pN_r (pA_r e).2).2.2.2
theorem pWs_r {s : Nat} : ∀ (f w p : Nat) (P : PT) (w' p' : Nat) (P' : PT), 0 < f → pWs B n s f w p P = .inr (w', p', P') → (∀ a b, a ≠ 8 → P' a b = P a b) ∧ (∀ b, b < 6 * s + w → P' 8 b = P 8 b) ∧ w < w' ∧ w' ≤ w + f ∧ w' ≤ 6 + w ∧ (∀ i, w ≤ i → i < w' → 1 ≤ P' 8 (6 * s + i) ∧ P' 8 (6 * s + i) ≤ 30) ∧ (w < 6 → w' ≤ 6) := by
  intro f
  induction f with
  | zero => intro w p P w' p' P' hf; omega
  | succ f ih =>
    intro w p P w' p' P' _ e
    unfold pWs at e
    cases q : pA B n 11 1 31 p with
    | inl x => rw [q, bnd_l] at e; cases e
    | inr a =>
      obtain ⟨v, p1⟩ := a
      have hv := pA_v q
      rw [q, bnd_r] at e
      have fin : ∀ (P' : PT), P' = up P 8 (6 * s + w) v → (∀ a b, a ≠ 8 → P' a b = P a b) ∧ (∀ b, b < 6 * s + w → P' 8 b = P 8 b) ∧ P' 8 (6 * s + w) = v := by
        rintro P' rfl
        refine ⟨fun a b ha => ?_, fun b hb => ?_, ?_⟩
        · exact up_o _ _ (by omega)
        · exact up_o _ _ (by omega)
        · exact up_eq _ _ _ _
      obtain ⟨u1, u2, u3⟩ := fin _ rfl
      by_cases z : isW B n p1 11 = true
      · rw [if_pos z] at e
        by_cases y : w + 1 < 6
        · rw [if_pos y] at e
          by_cases hf : 0 < f
          · obtain ⟨i1, i2, i3, i4, i5, i6, i7⟩ := ih (w + 1) p1 _ w' p' P' hf e
            refine ⟨fun a b ha => (i1 a b ha).trans (u1 a b ha), fun b hb => (i2 b (by omega)).trans (u2 b hb), by omega, by omega, by have := i7 y; omega, fun i h1 h2 => ?_, fun _ => i7 y⟩
            by_cases x : i = w
            · subst x
              rw [i2 _ (by omega), u3]
              omega
            · exact i6 i (by omega) h2
          · have : f = 0 := by omega
            subst this
            cases e
            refine ⟨u1, u2, by omega, by omega, by omega, fun i h1 h2 => ?_, fun _ => by omega⟩
            rw [show i = w by omega, u3]
            omega
        · rw [if_neg y] at e; cases e
      · rw [if_neg z] at e
        cases e
        refine ⟨u1, u2, by omega, by omega, by omega, fun i h1 h2 => ?_, fun _ => by omega⟩
        rw [show i = w by omega, u3]
        omega
theorem cl_slate (H : CRd B n p h) (hP : PS h oQ) (R : RPc (PIn P) h P) (hc : P 0 7 < 3) (h8 : P 0 4 ≤ 8) : ∃ g r, DX6_readSlate (sR (sR (sR fr0 0 34) 1 32) 2 oQ) h = some (r, g) ∧ Ch cqD h g ∧ OutC B n (bSlate B n p P) r g := by
  have hO := H.1.1.1
  have hcc := oQ_is
  have z32 : ¬ (32 : Nat) = oQ ∧ ¬ (34 : Nat) = oQ ∧ ¬ (34 : Nat) = oQ + 1 := by omega
  obtain ⟨g1, x1, c1, K1⟩ := cr_next H
  have R1 := R.to c1 crD_q
  have k4 := R1.q0 (k := 4) (by decide)
  have k7 := R1.q0 (k := 7) (by decide)
  obtain ⟨g2, r, x2, c2, K2⟩ := cr_am K1 (j := 8) (i := 11) (lo := 0) (top := P 0 4) (by decide) rfl (by decide) (by omega) (sub_1 _)
  have R2 := R1.to c2 crD_q
  have hP2 : PS g2 oQ := (hP.to c1.1).to c2.1
  have x3 := q_put hP2 (j := 6) (k := P 0 7) (by decide) (by decide) (by decide) hc r
  have w3 := cq_w g2 (j := 6) (by decide) (P 0 7) r
  have e5 : nI (P 0 7) + nI 1 = nI (P 0 7 + 1) := nI_add _ _
  have hP3 := hP2.to w3.1
  unfold bSlate
  obtain ⟨a, p1, e1, rfl, K, -, ha⟩ | ⟨e, e1, K⟩ := K2
  · rw [e1, bnd_r]
    have R3 := R2.w 6 (P 0 7) a
    obtain ⟨o, fr, g4, l1, c4, l3⟩ := sl_loop hc 6 0 p1 _ _ _ rfl (by decide) (Or.inl rfl) (K.to w3 qD_lo) hP3 R3
    have L1 : LX6_readSlate_1 (slF (P 0 7) 0) (wI g2 (oQ + 6) (P 0 7) (nI a)) = some (o, fr, g4) := by
      unfold LX6_readSlate_1
      rw [e_Loop]
      exact l1
    unfold slF at L1
    obtain ⟨w', p2, P', e2, rfl, rfl, K4, R4⟩ | ⟨e, e2, K4, l4⟩ := l3
    · rw [e2, bnd_r]
      obtain ⟨i1, i2, i3, i4, i5, i6, i7⟩ := pWs_r 6 0 _ _ _ _ _ (by decide) e2
      have f4 := K4.2.2.1
      have k7' : hi g4 oQ 7 = nI (P 0 7) := (R4 0 7 (Or.inl (Or.inl (Or.inl ⟨rfl, by decide⟩)))).trans (by rw [i1 _ _ (by decide)]; simp [up])
      have x5 := q_put (hP3.to c4.1) (j := 7) (k := P 0 7) (by decide) (by decide) (by decide) hc (nI w')
      have w5 := (cq_w g4 (j := 7) (by decide) (P 0 7) (nI w')).tr (cq_w _ (j := 0) (by decide) 7 (nI (P 0 7 + 1)))
      refine ⟨wI (wI g4 (oQ + 7) (P 0 7) (nI w')) oQ 7 (nI (P 0 7 + 1)), nI 1, ?_, (((c1.cq.tr c2.cq).tr w3.qc).tr c4).tr w5.qc, Or.inl ⟨p2, _, rfl, rfl, K4.to w5 qD_lo, ((R4.w 7 (P 0 7) w').w 0 7 (P 0 7 + 1)).mono ?_⟩⟩
      · unfold slF at L1
        simp (disch := omega) only [DX6_readSlate, BX6_readSlate, nI_n10, ob_t, ob_n, ob_ite, e_cI, e_cL, e_cR, e_vI, e_vL, e_vR, e_d2, e_d2_a, e_d2_b, e_d2z, e_d2z_a, e_d2z_b, e_d1, e_d1_a, e_GI, e_GI_a, e_GL, e_GL_a, e_GR, e_GR_a, e_AI, e_AI_a, e_AI_b, e_AB, e_AB_a, e_AB_b, e_AZ, e_AZ_a, e_AZ_b, e_AL, e_AL_a, e_AL_b, e_AR, e_AR_a, e_AR_b, e_Len, e_Len_a, e_CI, e_CI_a, e_CI_b, e_CZ, e_CZ_a, e_And, e_kAnd, e_Or, e_kOr, e_Not, e_kNot, e_B, e_kB, e_T, e_kT, e_NN, e_kNN, e_NewA, e_NewA_a, e_NewC, e_kNewC, e_aN, e_aI, e_aI_a, e_aI_b, e_aL, e_aL_a, e_aL_b, e_aR, e_aR_a, e_aR_b, e_Call, e_kCall, e_CallV, e_kCallV, e_SetI, e_kSetI, e_SetL, e_kSetL, e_SetR, e_kSetR, e_Inc, e_Skip, e_Brk, e_Cnt, e_Ret, e_kRet, e_Ret0, e_Seq, e_kSeq0, e_kSeq1, e_kSeq2, e_kSeqR, e_If, e_kIf, e_Do, e_kDo, e_Sup, e_kN0, e_d3, e_k3a, e_k3b, e_k3c, e_P, e_kPa, e_kPb, e_UA, e_kUAa, e_kUAb, e_kUAc, e_UL, e_kULa, e_kULb, e_kULc, e_UF, e_kUFa, e_kUFb, e_Cp, e_kCp, e_Sw, e_kSwa, e_kSwb0, e_kSwb1, e_kSwbR, e_M1, e_kM1, e_MZ, e_kMZ, e_MN, e_kMN, e_Tv, e_kTv, e_Tc, e_kTc, e_lpS, e_kLp, e_kLpB0, e_kLpB1, e_kLpB2, e_kLpBR, e_kLpU, e_dwS, e_kDwB0, e_kDwC, f_II, f_LL, f_RR, f_IL, f_IR, f_LI, f_LR, f_RI, f_RL, and_true, true_and, and_false, false_and, or_true, true_or, or_false, false_or, not_true_eq_false, not_false_eq_true, if_true, if_false, ite_self, Bool.not_true, Bool.not_false, Bool.false_eq_true, Bool.true_eq_false, decide_true, decide_false, ne_eq, reduceIte, Nat.reduceEqDiff, Option.some.injEq, Prod.mk.injEq, eq_self, r_lt, r_le, r_gt, r_ge, r_eq, r_ne, q_lt, q_le, q_gt, q_ge, q_eq, q_ne, decide_eq_true_eq, b01, b0, b1, o_iadd, o_imul, n_inb, nI_clamp, w_hr, w_hk, w_hl, w_eq, w_ne, wl_hr, wl_hk, wl_hi, wl_eq, wl_ne, stI, fI, f_ss, f_sR, f_sL, lc0, lc1, lc01, fa_lit, hO.k32, hO.k33, hO.k34, hO.r32_0, hP.k, hP.k9, hP.r8, hP.r9, hP.r10, hP.r11, hP.r12, hP.r13, hP.r14, hP.r15, hP.r16, hP.c3, hP.c4, hP.c5, hP.c6, hP.c7, hP.c8, x1, x2, x3, x5, L1, c1.1.1, c1.1.2.1, c2.1.1, c2.1.2.1, c4.1.1, c4.1.2.1, k4, k7, k7', e5, f4]
      · intro a b hz
        have v0 : ∀ k, k ≠ 7 → up (up P' 7 (P 0 7) w') 0 7 (P 0 7 + 1) 0 k = P 0 k := fun k hk1 => by
          rw [up_o _ _ (by omega), up_o _ _ (by omega), i1 _ _ (by decide), up_o _ _ (by omega)]
        obtain y | y := pin_gen (P := P) (d4 := 0) (d5 := 0) (d6 := 0) (d7 := 1) (d9 := 0) (v0 4 (by decide)) (v0 5 (by decide)) (v0 6 (by decide)) (up_eq _ _ _ _) (by rw [up_o _ _ (by omega), up_o _ _ (by omega), i1 _ _ (by decide), up_o _ _ (by omega)]; rfl) (fun s hs1 => by rw [up_o _ _ (by omega), up_o _ _ (by omega), i1 _ _ (by decide), up_o _ _ (by omega)]) hz
        · exact Or.inl (Or.inl (Or.inl (Or.inl y)))
        · rcases y with y | y | y | y | y | y
          · omega
          · omega
          · omega
          · by_cases w : a = 6
            · exact Or.inl (Or.inl (Or.inl (Or.inr ⟨w, by omega⟩)))
            · exact Or.inl (Or.inr ⟨by omega, by omega⟩)
          · have yb : b / 6 = P 0 7 := by omega
            have y4 := y.2.2.2
            rw [yb, up_o _ _ (by omega), up_eq] at y4
            exact Or.inl (Or.inl (Or.inr ⟨y.1, by omega, by omega⟩))
          · omega
    · obtain ⟨y0, f5, f6⟩ := K4.ne
      obtain rfl | ⟨w', rfl, rfl, hw'⟩ := l4
      · refine ⟨g4, nI 0, ?_, ((c1.cq.tr c2.cq).tr w3.qc).tr c4, Or.inr ⟨e, by rw [e2, bnd_l], rfl, K4⟩⟩
        simp (disch := omega) only [DX6_readSlate, BX6_readSlate, nI_n10, ob_t, ob_n, ob_ite, e_cI, e_cL, e_cR, e_vI, e_vL, e_vR, e_d2, e_d2_a, e_d2_b, e_d2z, e_d2z_a, e_d2z_b, e_d1, e_d1_a, e_GI, e_GI_a, e_GL, e_GL_a, e_GR, e_GR_a, e_AI, e_AI_a, e_AI_b, e_AB, e_AB_a, e_AB_b, e_AZ, e_AZ_a, e_AZ_b, e_AL, e_AL_a, e_AL_b, e_AR, e_AR_a, e_AR_b, e_Len, e_Len_a, e_CI, e_CI_a, e_CI_b, e_CZ, e_CZ_a, e_And, e_kAnd, e_Or, e_kOr, e_Not, e_kNot, e_B, e_kB, e_T, e_kT, e_NN, e_kNN, e_NewA, e_NewA_a, e_NewC, e_kNewC, e_aN, e_aI, e_aI_a, e_aI_b, e_aL, e_aL_a, e_aL_b, e_aR, e_aR_a, e_aR_b, e_Call, e_kCall, e_CallV, e_kCallV, e_SetI, e_kSetI, e_SetL, e_kSetL, e_SetR, e_kSetR, e_Inc, e_Skip, e_Brk, e_Cnt, e_Ret, e_kRet, e_Ret0, e_Seq, e_kSeq0, e_kSeq1, e_kSeq2, e_kSeqR, e_If, e_kIf, e_Do, e_kDo, e_Sup, e_kN0, e_d3, e_k3a, e_k3b, e_k3c, e_P, e_kPa, e_kPb, e_UA, e_kUAa, e_kUAb, e_kUAc, e_UL, e_kULa, e_kULb, e_kULc, e_UF, e_kUFa, e_kUFb, e_Cp, e_kCp, e_Sw, e_kSwa, e_kSwb0, e_kSwb1, e_kSwbR, e_M1, e_kM1, e_MZ, e_kMZ, e_MN, e_kMN, e_Tv, e_kTv, e_Tc, e_kTc, e_lpS, e_kLp, e_kLpB0, e_kLpB1, e_kLpB2, e_kLpBR, e_kLpU, e_dwS, e_kDwB0, e_kDwC, f_II, f_LL, f_RR, f_IL, f_IR, f_LI, f_LR, f_RI, f_RL, and_true, true_and, and_false, false_and, or_true, true_or, or_false, false_or, not_true_eq_false, not_false_eq_true, if_true, if_false, ite_self, Bool.not_true, Bool.not_false, Bool.false_eq_true, Bool.true_eq_false, decide_true, decide_false, ne_eq, reduceIte, Nat.reduceEqDiff, Option.some.injEq, Prod.mk.injEq, eq_self, r_lt, r_le, r_gt, r_ge, r_eq, r_ne, q_lt, q_le, q_gt, q_ge, q_eq, q_ne, decide_eq_true_eq, b01, b0, b1, o_iadd, o_imul, n_inb, nI_clamp, w_hr, w_hk, w_hl, w_eq, w_ne, wl_hr, wl_hk, wl_hi, wl_eq, wl_ne, stI, fI, f_ss, f_sR, f_sL, lc0, lc1, lc01, fa_lit, hO.k32, hO.k33, hO.k34, hO.r32_0, hP.k, hP.k9, hP.r8, hP.r9, hP.r10, hP.r11, hP.r12, hP.r13, hP.r14, hP.r15, hP.r16, hP.c3, hP.c4, hP.c5, hP.c6, hP.c7, hP.c8, x1, x2, x3, L1, c1.1.1, c1.1.2.1, c2.1.1, c2.1.2.1, c4.1.1, c4.1.2.1, k4, k7]
      · have x5 := q_put (hP3.to c4.1) (j := 7) (k := P 0 7) (by decide) (by decide) (by decide) hc (nI w')
        have w5 := (cq_w g4 (j := 7) (by decide) (P 0 7) (nI w')).tr (cq_w _ (j := 0) (by decide) 7 (hi g4 oQ 7 + nI 1))
        refine ⟨wI (wI g4 (oQ + 7) (P 0 7) (nI w')) oQ 7 (hi g4 oQ 7 + nI 1), nI 0, ?_, (((c1.cq.tr c2.cq).tr w3.qc).tr c4).tr w5.qc, Or.inr ⟨e, by rw [e2, bnd_l], rfl, K4.to w5 (qD_lo _ (by decide))⟩⟩
        unfold slF at L1
        simp (disch := omega) only [DX6_readSlate, BX6_readSlate, nI_n10, ob_t, ob_n, ob_ite, e_cI, e_cL, e_cR, e_vI, e_vL, e_vR, e_d2, e_d2_a, e_d2_b, e_d2z, e_d2z_a, e_d2z_b, e_d1, e_d1_a, e_GI, e_GI_a, e_GL, e_GL_a, e_GR, e_GR_a, e_AI, e_AI_a, e_AI_b, e_AB, e_AB_a, e_AB_b, e_AZ, e_AZ_a, e_AZ_b, e_AL, e_AL_a, e_AL_b, e_AR, e_AR_a, e_AR_b, e_Len, e_Len_a, e_CI, e_CI_a, e_CI_b, e_CZ, e_CZ_a, e_And, e_kAnd, e_Or, e_kOr, e_Not, e_kNot, e_B, e_kB, e_T, e_kT, e_NN, e_kNN, e_NewA, e_NewA_a, e_NewC, e_kNewC, e_aN, e_aI, e_aI_a, e_aI_b, e_aL, e_aL_a, e_aL_b, e_aR, e_aR_a, e_aR_b, e_Call, e_kCall, e_CallV, e_kCallV, e_SetI, e_kSetI, e_SetL, e_kSetL, e_SetR, e_kSetR, e_Inc, e_Skip, e_Brk, e_Cnt, e_Ret, e_kRet, e_Ret0, e_Seq, e_kSeq0, e_kSeq1, e_kSeq2, e_kSeqR, e_If, e_kIf, e_Do, e_kDo, e_Sup, e_kN0, e_d3, e_k3a, e_k3b, e_k3c, e_P, e_kPa, e_kPb, e_UA, e_kUAa, e_kUAb, e_kUAc, e_UL, e_kULa, e_kULb, e_kULc, e_UF, e_kUFa, e_kUFb, e_Cp, e_kCp, e_Sw, e_kSwa, e_kSwb0, e_kSwb1, e_kSwbR, e_M1, e_kM1, e_MZ, e_kMZ, e_MN, e_kMN, e_Tv, e_kTv, e_Tc, e_kTc, e_lpS, e_kLp, e_kLpB0, e_kLpB1, e_kLpB2, e_kLpBR, e_kLpU, e_dwS, e_kDwB0, e_kDwC, f_II, f_LL, f_RR, f_IL, f_IR, f_LI, f_LR, f_RI, f_RL, and_true, true_and, and_false, false_and, or_true, true_or, or_false, false_or, not_true_eq_false, not_false_eq_true, if_true, if_false, ite_self, Bool.not_true, Bool.not_false, Bool.false_eq_true, Bool.true_eq_false, decide_true, decide_false, ne_eq, reduceIte, Nat.reduceEqDiff, Option.some.injEq, Prod.mk.injEq, eq_self, r_lt, r_le, r_gt, r_ge, r_eq, r_ne, q_lt, q_le, q_gt, q_ge, q_eq, q_ne, decide_eq_true_eq, b01, b0, b1, o_iadd, o_imul, n_inb, nI_clamp, w_hr, w_hk, w_hl, w_eq, w_ne, wl_hr, wl_hk, wl_hi, wl_eq, wl_ne, stI, fI, f_ss, f_sR, f_sL, lc0, lc1, lc01, fa_lit, hO.k32, hO.k33, hO.k34, hO.r32_0, hP.k, hP.k9, hP.r8, hP.r9, hP.r10, hP.r11, hP.r12, hP.r13, hP.r14, hP.r15, hP.r16, hP.c3, hP.c4, hP.c5, hP.c6, hP.c7, hP.c8, x1, x2, x3, x5, L1, c1.1.1, c1.1.2.1, c2.1.1, c2.1.2.1, c4.1.1, c4.1.2.1, k4, k7, f5, f6]
  · obtain ⟨y0, f5, f6⟩ := K.ne
    have K3 := K.to w3 (qD_lo _ (by decide))
    have L1 : LX6_readSlate_1 (slF (P 0 7) 0) (wI g2 (oQ + 6) (P 0 7) r) = some (.inl 0, slF (P 0 7) 0, wI g2 (oQ + 6) (P 0 7) r) := by
      unfold LX6_readSlate_1
      rw [e_Loop]
      show iter (lpS slC slCd slB dSkip) (slF (P 0 7) 0, _) = _
      refine iter_inr ?_
      rw [e_lpS, sl_bad ((hO.to (c1.1.tr c2.1)).to w3.1) K3, ob_t, e_kLp, if_neg (by decide)]
    unfold slF at L1
    have x5 := q_put hP3 (j := 7) (k := P 0 7) (by decide) (by decide) (by decide) hc (nI 0)
    have w5 := (cq_w (wI g2 (oQ + 6) (P 0 7) r) (j := 7) (by decide) (P 0 7) (nI 0)).tr (cq_w _ (j := 0) (by decide) 7 (hi g2 oQ 7 + nI 1))
    refine ⟨wI (wI (wI g2 (oQ + 6) (P 0 7) r) (oQ + 7) (P 0 7) (nI 0)) oQ 7 (hi g2 oQ 7 + nI 1), nI 0, ?_, ((c1.cq.tr c2.cq).tr w3.qc).tr w5.qc, Or.inr ⟨e, by rw [e1, bnd_l], rfl, K3.to w5 (qD_lo _ (by decide))⟩⟩
    simp (disch := omega) only [DX6_readSlate, BX6_readSlate, nI_n10, ob_t, ob_n, ob_ite, e_cI, e_cL, e_cR, e_vI, e_vL, e_vR, e_d2, e_d2_a, e_d2_b, e_d2z, e_d2z_a, e_d2z_b, e_d1, e_d1_a, e_GI, e_GI_a, e_GL, e_GL_a, e_GR, e_GR_a, e_AI, e_AI_a, e_AI_b, e_AB, e_AB_a, e_AB_b, e_AZ, e_AZ_a, e_AZ_b, e_AL, e_AL_a, e_AL_b, e_AR, e_AR_a, e_AR_b, e_Len, e_Len_a, e_CI, e_CI_a, e_CI_b, e_CZ, e_CZ_a, e_And, e_kAnd, e_Or, e_kOr, e_Not, e_kNot, e_B, e_kB, e_T, e_kT, e_NN, e_kNN, e_NewA, e_NewA_a, e_NewC, e_kNewC, e_aN, e_aI, e_aI_a, e_aI_b, e_aL, e_aL_a, e_aL_b, e_aR, e_aR_a, e_aR_b, e_Call, e_kCall, e_CallV, e_kCallV, e_SetI, e_kSetI, e_SetL, e_kSetL, e_SetR, e_kSetR, e_Inc, e_Skip, e_Brk, e_Cnt, e_Ret, e_kRet, e_Ret0, e_Seq, e_kSeq0, e_kSeq1, e_kSeq2, e_kSeqR, e_If, e_kIf, e_Do, e_kDo, e_Sup, e_kN0, e_d3, e_k3a, e_k3b, e_k3c, e_P, e_kPa, e_kPb, e_UA, e_kUAa, e_kUAb, e_kUAc, e_UL, e_kULa, e_kULb, e_kULc, e_UF, e_kUFa, e_kUFb, e_Cp, e_kCp, e_Sw, e_kSwa, e_kSwb0, e_kSwb1, e_kSwbR, e_M1, e_kM1, e_MZ, e_kMZ, e_MN, e_kMN, e_Tv, e_kTv, e_Tc, e_kTc, e_lpS, e_kLp, e_kLpB0, e_kLpB1, e_kLpB2, e_kLpBR, e_kLpU, e_dwS, e_kDwB0, e_kDwC, f_II, f_LL, f_RR, f_IL, f_IR, f_LI, f_LR, f_RI, f_RL, and_true, true_and, and_false, false_and, or_true, true_or, or_false, false_or, not_true_eq_false, not_false_eq_true, if_true, if_false, ite_self, Bool.not_true, Bool.not_false, Bool.false_eq_true, Bool.true_eq_false, decide_true, decide_false, ne_eq, reduceIte, Nat.reduceEqDiff, Option.some.injEq, Prod.mk.injEq, eq_self, r_lt, r_le, r_gt, r_ge, r_eq, r_ne, q_lt, q_le, q_gt, q_ge, q_eq, q_ne, decide_eq_true_eq, b01, b0, b1, o_iadd, o_imul, n_inb, nI_clamp, w_hr, w_hk, w_hl, w_eq, w_ne, wl_hr, wl_hk, wl_hi, wl_eq, wl_ne, stI, fI, f_ss, f_sR, f_sL, lc0, lc1, lc01, fa_lit, hO.k32, hO.k33, hO.k34, hO.r32_0, hP.k, hP.k9, hP.r8, hP.r9, hP.r10, hP.r11, hP.r12, hP.r13, hP.r14, hP.r15, hP.r16, hP.c3, hP.c4, hP.c5, hP.c6, hP.c7, hP.c8, x1, x2, x3, x5, L1, c1.1.1, c1.1.2.1, c2.1.1, c2.1.2.1, k4, k7, f5, f6]
end
