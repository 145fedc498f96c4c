set_option maxRecDepth 100000
set_option maxHeartbeats 2000000
/-! the class's copy of a PORT -/
section
variable {W : St} {h g : St} {P P' : PT} {p q : Nat}
theorem x_ccopy (hP : PS h p) (hQ : PS h q) (hpq : p + 16 ≤ q ∨ q + 16 ≤ p) : ∃ g, DX1_copy (sR (sR fr0 0 (p + 9)) 1 (q + 9)) h = some ((), g) ∧ Ch (fun o => p + 9 ≤ o ∧ o < p + 16) h g ∧ (∀ k, k < 3 → hi g (p + 9) k = hi h (q + 9) k) ∧ (∀ k, k < 32 → hi g (p + 10) k = hi h (q + 10) k) ∧ (∀ k, k < 32 → hi g (p + 11) k = hi h (q + 11) k) ∧ (∀ k, k < 32 → hi g (p + 12) k = hi h (q + 12) k) ∧ (∀ k, k < 32 → hi g (p + 13) k = hi h (q + 13) k) ∧ (∀ k, k < 20 → hi g (p + 14) k = hi h (q + 14) k) ∧ (∀ k, k < 20 → hi g (p + 15) k = hi h (q + 15) k) := by
  have hp0 := hP.1
  have hq0 := hQ.1
  have hq00 : (q = 0) = False := eq_false (by omega)
  obtain ⟨g0, hg0⟩ : ∃ x, x = wI (wI (wI (h) (p + 9) 0 (hi h (q + 9) 0)) (p + 9) 1 (hi h (q + 9) 1)) (p + 9) 2 (hi h (q + 9) 2) := ⟨_, rfl⟩
  have q0 : Ch (fun o => p + 9 ≤ o ∧ o < p + 16) h g0 := by
    rw [hg0]
    exact (((Ch.w (D := fun o => p + 9 ≤ o ∧ o < p + 16) (by omega) h 0 _).tr (Ch.w (D := fun o => p + 9 ≤ o ∧ o < p + 16) (by omega) _ 1 _)).tr (Ch.w (D := fun o => p + 9 ≤ o ∧ o < p + 16) (by omega) _ 2 _))
  have s0 : SH h g0 := q0.1
  obtain ⟨g1, c1, e1, q1⟩ := cp_ok (h := g0) (r0 := q + 10) (r1 := p + 10) (sp := 0) (dp := 0) (n := 32) (by rw [s0.2.1]; exact hQ.k10) (by rw [s0.2.1]; exact hP.k10) (by decide) (by decide) (by decide) (by decide)
  have s1 : SH h g1 := s0.tr q1.1
  obtain ⟨g2, c2, e2, q2⟩ := cp_ok (h := g1) (r0 := q + 11) (r1 := p + 11) (sp := 0) (dp := 0) (n := 32) (by rw [s1.2.1]; exact hQ.k11) (by rw [s1.2.1]; exact hP.k11) (by decide) (by decide) (by decide) (by decide)
  have s2 : SH h g2 := s1.tr q2.1
  obtain ⟨g3, c3, e3, q3⟩ := cp_ok (h := g2) (r0 := q + 12) (r1 := p + 12) (sp := 0) (dp := 0) (n := 32) (by rw [s2.2.1]; exact hQ.k12) (by rw [s2.2.1]; exact hP.k12) (by decide) (by decide) (by decide) (by decide)
  have s3 : SH h g3 := s2.tr q3.1
  obtain ⟨g4, c4, e4, q4⟩ := cp_ok (h := g3) (r0 := q + 13) (r1 := p + 13) (sp := 0) (dp := 0) (n := 32) (by rw [s3.2.1]; exact hQ.k13) (by rw [s3.2.1]; exact hP.k13) (by decide) (by decide) (by decide) (by decide)
  have s4 : SH h g4 := s3.tr q4.1
  obtain ⟨g5, c5, e5, q5⟩ := cp_ok (h := g4) (r0 := q + 14) (r1 := p + 14) (sp := 0) (dp := 0) (n := 20) (by rw [s4.2.1]; exact hQ.k14) (by rw [s4.2.1]; exact hP.k14) (by decide) (by decide) (by decide) (by decide)
  have s5 : SH h g5 := s4.tr q5.1
  obtain ⟨g6, c6, e6, q6⟩ := cp_ok (h := g5) (r0 := q + 15) (r1 := p + 15) (sp := 0) (dp := 0) (n := 20) (by rw [s5.2.1]; exact hQ.k15) (by rw [s5.2.1]; exact hP.k15) (by decide) (by decide) (by decide) (by decide)
  have s6 : SH h g6 := s5.tr q6.1
  refine ⟨g6, ?_, ?_, fun k hk1 => ?_, fun k hk1 => ?_, fun k hk1 => ?_, fun k hk1 => ?_, fun k hk1 => ?_, fun k hk1 => ?_, fun k hk1 => ?_⟩
  · have e0 : g0 = wI (wI (wI (h) (p + 9) 0 (hi h (q + 9) 0)) (p + 9) 1 (hi h (q + 9) 1)) (p + 9) 2 (hi h (q + 9) 2) := hg0
    have ee : ∀ r k, hr (wI (wI (wI (h) (p + 9) 0 (hi h (q + 9) 0)) (p + 9) 1 (hi h (q + 9) 1)) (p + 9) 2 (hi h (q + 9) 2)) r k = hr h r k := fun r k => rfl
    simp (disch := omega) only [ob_t, ob_n, ob_ite, e_cI, e_cL, e_cR, e_vI, e_vL, e_vR, e_d2, e_d2_a, e_d2_b, e_d2z, e_d2z_a, e_d2z_b, e_d1, e_d1_a, e_GI, e_GI_a, e_GL, e_GL_a, e_GR, e_GR_a, e_AI, e_AI_a, e_AI_b, e_AB, e_AB_a, e_AB_b, e_AZ, e_AZ_a, e_AZ_b, e_AL, e_AL_a, e_AL_b, e_AR, e_AR_a, e_AR_b, e_Len, e_Len_a, e_CI, e_CI_a, e_CI_b, e_CZ, e_CZ_a, e_And, e_kAnd, e_Or, e_kOr, e_Not, e_kNot, e_B, e_kB, e_T, e_kT, e_NN, e_kNN, e_NewA, e_NewA_a, e_NewC, e_kNewC, e_aN, e_aI, e_aI_a, e_aI_b, e_aL, e_aL_a, e_aL_b, e_aR, e_aR_a, e_aR_b, e_Call, e_kCall, e_CallV, e_kCallV, e_SetI, e_kSetI, e_SetL, e_kSetL, e_SetR, e_kSetR, e_Inc, e_Skip, e_Brk, e_Cnt, e_Ret, e_kRet, e_Ret0, e_Seq, e_kSeq0, e_kSeq1, e_kSeq2, e_kSeqR, e_If, e_kIf, e_Do, e_kDo, e_Sup, e_kN0, e_d3, e_k3a, e_k3b, e_k3c, e_P, e_kPa, e_kPb, e_UA, e_kUAa, e_kUAb, e_kUAc, e_UL, e_kULa, e_kULb, e_kULc, e_UF, e_kUFa, e_kUFb, e_Cp, e_kCp, e_Sw, e_kSwa, e_kSwb0, e_kSwb1, e_kSwbR, e_M1, e_kM1, e_MZ, e_kMZ, e_MN, e_kMN, e_Tv, e_kTv, e_Tc, e_kTc, e_lpS, e_kLp, e_kLpB0, e_kLpB1, e_kLpB2, e_kLpBR, e_kLpU, e_dwS, e_kDwB0, e_kDwC, f_II, f_LL, f_RR, f_IL, f_IR, f_LI, f_LR, f_RI, f_RL, o_iadd, o_isub, o_imul, o_iand, o_ior, o_ixor, o_ladd, o_lsub, o_lmul, o_land, o_lor, o_ishl, o_ishr, o_iushr, o_lshl, o_lshr, o_lcmp, o_i2l, o_l2i, o_i2b, o_i2s, o_lneg, o_ineg, o_imax, o_imin, o_idiv, o_irem, o_ldiv, o_lrem, r_lt, r_le, r_gt, r_ge, r_eq, r_ne, q_lt, q_le, q_gt, q_ge, q_eq, q_ne, decide_eq_true_eq, idI, and_true, true_and, and_false, false_and, or_true, true_or, or_false, false_or, not_true_eq_false, not_false_eq_true, if_true, if_false, ite_self, Bool.not_true, Bool.not_false, Bool.false_eq_true, Bool.true_eq_false, decide_true, decide_false, ne_eq, reduceIte, Nat.reduceEqDiff, Option.some.injEq, Prod.mk.injEq, eq_self, fa_lit, nI_add, pk_mul, nI_ltI, nI_leI, nI_eq, b01, b0, b1, x_hasBit, Nat.reduceLeDiff, Nat.reduceAdd, Nat.reduceMul, Nat.reduceSub, Nat.lt_irrefl, Nat.reduceLT, hP.k, hP.k9, hP.r8, hP.r9, hP.r10, hP.r11, hP.r12, hP.r13, hP.r14, hP.r15, hP.r16, hP.c3, hP.c4, hP.c5, hP.c6, hP.c7, hP.c8, hQ.k, hQ.k9, hQ.r8, hQ.r9, hQ.r10, hQ.r11, hQ.r12, hQ.r13, hQ.r14, hQ.r15, hQ.r16, hQ.c3, hQ.c4, hQ.c5, hQ.c6, hQ.c7, hQ.c8, n_inb, nI_clamp, w_hr, w_hk, w_hl, w_eq, w_ne, wl_hr, wl_hk, wl_hi, wl_eq, wl_ne, fI, f_ss, f_sR, f_sL, lc0, lc1, lc01, DX1_copy, BX1_copy, ← hg0, hq00, c1, c2, c3, c4, c5, c6, s0.1, s0.2.1, s1.1, s1.2.1, s2.1, s2.2.1, s3.1, s3.2.1, s4.1, s4.2.1, s5.1, s5.2.1, s6.1, s6.2.1]
  · exact (((((((q0).tr (q1.mono (fun o (ho : o = p + 10) => by omega))).tr (q2.mono (fun o (ho : o = p + 11) => by omega))).tr (q3.mono (fun o (ho : o = p + 12) => by omega))).tr (q4.mono (fun o (ho : o = p + 13) => by omega))).tr (q5.mono (fun o (ho : o = p + 14) => by omega))).tr (q6.mono (fun o (ho : o = p + 15) => by omega)))
  · rw [(q6.2 (p + 9) (by omega)).1, (q5.2 (p + 9) (by omega)).1, (q4.2 (p + 9) (by omega)).1, (q3.2 (p + 9) (by omega)).1, (q2.2 (p + 9) (by omega)).1, (q1.2 (p + 9) (by omega)).1, hg0]
    match k, hk1 with
    | 0, _ => rw [w_ne (by omega), w_ne (by omega), w_eq]
    | 1, _ => rw [w_ne (by omega), w_eq]
    | 2, _ => rw [w_eq]
  · rw [(q6.2 (p + 10) (by omega)).1, (q5.2 (p + 10) (by omega)).1, (q4.2 (p + 10) (by omega)).1, (q3.2 (p + 10) (by omega)).1, (q2.2 (p + 10) (by omega)).1, e1, if_pos (by omega), show 0 + (k - 0) = k by omega, (q0.2 (q + 10) (by omega)).1]
  · rw [(q6.2 (p + 11) (by omega)).1, (q5.2 (p + 11) (by omega)).1, (q4.2 (p + 11) (by omega)).1, (q3.2 (p + 11) (by omega)).1, e2, if_pos (by omega), show 0 + (k - 0) = k by omega, (q1.2 (q + 11) (by omega)).1, (q0.2 (q + 11) (by omega)).1]
  · rw [(q6.2 (p + 12) (by omega)).1, (q5.2 (p + 12) (by omega)).1, (q4.2 (p + 12) (by omega)).1, e3, if_pos (by omega), show 0 + (k - 0) = k by omega, (q2.2 (q + 12) (by omega)).1, (q1.2 (q + 12) (by omega)).1, (q0.2 (q + 12) (by omega)).1]
  · rw [(q6.2 (p + 13) (by omega)).1, (q5.2 (p + 13) (by omega)).1, e4, if_pos (by omega), show 0 + (k - 0) = k by omega, (q3.2 (q + 13) (by omega)).1, (q2.2 (q + 13) (by omega)).1, (q1.2 (q + 13) (by omega)).1, (q0.2 (q + 13) (by omega)).1]
  · rw [(q6.2 (p + 14) (by omega)).1, e5, if_pos (by omega), show 0 + (k - 0) = k by omega, (q4.2 (q + 14) (by omega)).1, (q3.2 (q + 14) (by omega)).1, (q2.2 (q + 14) (by omega)).1, (q1.2 (q + 14) (by omega)).1, (q0.2 (q + 14) (by omega)).1]
  · rw [e6, if_pos (by omega), show 0 + (k - 0) = k by omega, (q5.2 (q + 15) (by omega)).1, (q4.2 (q + 15) (by omega)).1, (q3.2 (q + 15) (by omega)).1, (q2.2 (q + 15) (by omega)).1, (q1.2 (q + 15) (by omega)).1, (q0.2 (q + 15) (by omega)).1]
theorem x_pcopy (hP : PS h p) (hQ : PS h q) (hpq : p + 16 ≤ q ∨ q + 16 ≤ p) : ∃ g, DX5_copy (sR (sR fr0 0 (p)) 1 (q)) h = some ((), g) ∧ Ch (fun o => p ≤ o ∧ o < p + 16) h g ∧ (∀ k, k < 8 → hi g (p) k = hi h (q) k) ∧ (∀ k, k < 3 → hi g (p + 9) k = hi h (q + 9) k) ∧ (∀ k, k < 8 → hi g (p + 1) k = hi h (q + 1) k) ∧ (∀ k, k < 12 → hi g (p + 2) k = hi h (q + 2) k) ∧ (∀ k, k < 12 → hi g (p + 3) k = hi h (q + 3) k) ∧ (∀ k, k < 5 → hi g (p + 4) k = hi h (q + 4) k) ∧ (∀ k, k < 5 → hi g (p + 5) k = hi h (q + 5) k) ∧ (∀ k, k < 3 → hi g (p + 6) k = hi h (q + 6) k) ∧ (∀ k, k < 3 → hi g (p + 7) k = hi h (q + 7) k) ∧ (∀ k, k < 18 → hi g (p + 8) k = hi h (q + 8) k) ∧ (∀ k, k < 32 → hi g (p + 10) k = hi h (q + 10) k) ∧ (∀ k, k < 32 → hi g (p + 11) k = hi h (q + 11) k) ∧ (∀ k, k < 32 → hi g (p + 12) k = hi h (q + 12) k) ∧ (∀ k, k < 32 → hi g (p + 13) k = hi h (q + 13) k) ∧ (∀ k, k < 20 → hi g (p + 14) k = hi h (q + 14) k) ∧ (∀ k, k < 20 → hi g (p + 15) k = hi h (q + 15) k) := by
  have hp0 := hP.1
  have hq0 := hQ.1
  have hq00 : (q = 0) = False := eq_false (by omega)
  obtain ⟨g0, hg0⟩ : ∃ x, x = wI (wI (wI (wI (wI (wI (wI (wI (h) (p) 0 (hi h (q) 0)) (p) 1 (hi h (q) 1)) (p) 2 (hi h (q) 2)) (p) 3 (hi h (q) 3)) (p) 4 (hi h (q) 4)) (p) 5 (hi h (q) 5)) (p) 6 (hi h (q) 6)) (p) 7 (hi h (q) 7) := ⟨_, rfl⟩
  have q0 : Ch (fun o => p ≤ o ∧ o < p + 16) h g0 := by
    rw [hg0]
    exact ((((((((Ch.w (D := fun o => p ≤ o ∧ o < p + 16) (by omega) h 0 _).tr (Ch.w (D := fun o => p ≤ o ∧ o < p + 16) (by omega) _ 1 _)).tr (Ch.w (D := fun o => p ≤ o ∧ o < p + 16) (by omega) _ 2 _)).tr (Ch.w (D := fun o => p ≤ o ∧ o < p + 16) (by omega) _ 3 _)).tr (Ch.w (D := fun o => p ≤ o ∧ o < p + 16) (by omega) _ 4 _)).tr (Ch.w (D := fun o => p ≤ o ∧ o < p + 16) (by omega) _ 5 _)).tr (Ch.w (D := fun o => p ≤ o ∧ o < p + 16) (by omega) _ 6 _)).tr (Ch.w (D := fun o => p ≤ o ∧ o < p + 16) (by omega) _ 7 _))
  have s0 : SH h g0 := q0.1
  obtain ⟨g1, c1, e1, q1⟩ := cp_ok (h := g0) (r0 := q + 1) (r1 := p + 1) (sp := 0) (dp := 0) (n := 8) (by rw [s0.2.1]; exact hQ.k1) (by rw [s0.2.1]; exact hP.k1) (by decide) (by decide) (by decide) (by decide)
  have s1 : SH h g1 := s0.tr q1.1
  obtain ⟨g2, c2, e2, q2⟩ := cp_ok (h := g1) (r0 := q + 2) (r1 := p + 2) (sp := 0) (dp := 0) (n := 12) (by rw [s1.2.1]; exact hQ.k2) (by rw [s1.2.1]; exact hP.k2) (by decide) (by decide) (by decide) (by decide)
  have s2 : SH h g2 := s1.tr q2.1
  obtain ⟨g3, c3, e3, q3⟩ := cp_ok (h := g2) (r0 := q + 3) (r1 := p + 3) (sp := 0) (dp := 0) (n := 12) (by rw [s2.2.1]; exact hQ.k3) (by rw [s2.2.1]; exact hP.k3) (by decide) (by decide) (by decide) (by decide)
  have s3 : SH h g3 := s2.tr q3.1
  obtain ⟨g4, c4, e4, q4⟩ := cp_ok (h := g3) (r0 := q + 4) (r1 := p + 4) (sp := 0) (dp := 0) (n := 5) (by rw [s3.2.1]; exact hQ.k4) (by rw [s3.2.1]; exact hP.k4) (by decide) (by decide) (by decide) (by decide)
  have s4 : SH h g4 := s3.tr q4.1
  obtain ⟨g5, c5, e5, q5⟩ := cp_ok (h := g4) (r0 := q + 5) (r1 := p + 5) (sp := 0) (dp := 0) (n := 5) (by rw [s4.2.1]; exact hQ.k5) (by rw [s4.2.1]; exact hP.k5) (by decide) (by decide) (by decide) (by decide)
  have s5 : SH h g5 := s4.tr q5.1
  obtain ⟨g6, c6, e6, q6⟩ := cp_ok (h := g5) (r0 := q + 6) (r1 := p + 6) (sp := 0) (dp := 0) (n := 3) (by rw [s5.2.1]; exact hQ.k6) (by rw [s5.2.1]; exact hP.k6) (by decide) (by decide) (by decide) (by decide)
  have s6 : SH h g6 := s5.tr q6.1
  obtain ⟨g7, c7, e7, q7⟩ := cp_ok (h := g6) (r0 := q + 7) (r1 := p + 7) (sp := 0) (dp := 0) (n := 3) (by rw [s6.2.1]; exact hQ.k7) (by rw [s6.2.1]; exact hP.k7) (by decide) (by decide) (by decide) (by decide)
  have s7 : SH h g7 := s6.tr q7.1
  obtain ⟨g8, c8, e8, q8⟩ := cp_ok (h := g7) (r0 := q + 8) (r1 := p + 8) (sp := 0) (dp := 0) (n := 18) (by rw [s7.2.1]; exact hQ.k8) (by rw [s7.2.1]; exact hP.k8) (by decide) (by decide) (by decide) (by decide)
  have s8 : SH h g8 := s7.tr q8.1
  obtain ⟨g9, c9, qc, f9, f10, f11, f12, f13, f14, f15⟩ := x_ccopy (hP.to s8) (hQ.to s8) hpq
  have s9 : SH h g9 := s8.tr qc.1
  refine ⟨g9, ?_, ?_, fun k hk1 => ?_, fun k hk1 => ?_, fun k hk1 => ?_, fun k hk1 => ?_, fun k hk1 => ?_, fun k hk1 => ?_, fun k hk1 => ?_, fun k hk1 => ?_, fun k hk1 => ?_, fun k hk1 => ?_, fun k hk1 => ?_, fun k hk1 => ?_, fun k hk1 => ?_, fun k hk1 => ?_, fun k hk1 => ?_, fun k hk1 => ?_⟩
  · have e0 : g0 = wI (wI (wI (wI (wI (wI (wI (wI (h) (p) 0 (hi h (q) 0)) (p) 1 (hi h (q) 1)) (p) 2 (hi h (q) 2)) (p) 3 (hi h (q) 3)) (p) 4 (hi h (q) 4)) (p) 5 (hi h (q) 5)) (p) 6 (hi h (q) 6)) (p) 7 (hi h (q) 7) := hg0
    have ee : ∀ r k, hr (wI (wI (wI (wI (wI (wI (wI (wI (h) (p) 0 (hi h (q) 0)) (p) 1 (hi h (q) 1)) (p) 2 (hi h (q) 2)) (p) 3 (hi h (q) 3)) (p) 4 (hi h (q) 4)) (p) 5 (hi h (q) 5)) (p) 6 (hi h (q) 6)) (p) 7 (hi h (q) 7)) r k = hr h r k := fun r k => rfl
    simp (disch := omega) only [ob_t, ob_n, ob_ite, e_cI, e_cL, e_cR, e_vI, e_vL, e_vR, e_d2, e_d2_a, e_d2_b, e_d2z, e_d2z_a, e_d2z_b, e_d1, e_d1_a, e_GI, e_GI_a, e_GL, e_GL_a, e_GR, e_GR_a, e_AI, e_AI_a, e_AI_b, e_AB, e_AB_a, e_AB_b, e_AZ, e_AZ_a, e_AZ_b, e_AL, e_AL_a, e_AL_b, e_AR, e_AR_a, e_AR_b, e_Len, e_Len_a, e_CI, e_CI_a, e_CI_b, e_CZ, e_CZ_a, e_And, e_kAnd, e_Or, e_kOr, e_Not, e_kNot, e_B, e_kB, e_T, e_kT, e_NN, e_kNN, e_NewA, e_NewA_a, e_NewC, e_kNewC, e_aN, e_aI, e_aI_a, e_aI_b, e_aL, e_aL_a, e_aL_b, e_aR, e_aR_a, e_aR_b, e_Call, e_kCall, e_CallV, e_kCallV, e_SetI, e_kSetI, e_SetL, e_kSetL, e_SetR, e_kSetR, e_Inc, e_Skip, e_Brk, e_Cnt, e_Ret, e_kRet, e_Ret0, e_Seq, e_kSeq0, e_kSeq1, e_kSeq2, e_kSeqR, e_If, e_kIf, e_Do, e_kDo, e_Sup, e_kN0, e_d3, e_k3a, e_k3b, e_k3c, e_P, e_kPa, e_kPb, e_UA, e_kUAa, e_kUAb, e_kUAc, e_UL, e_kULa, e_kULb, e_kULc, e_UF, e_kUFa, e_kUFb, e_Cp, e_kCp, e_Sw, e_kSwa, e_kSwb0, e_kSwb1, e_kSwbR, e_M1, e_kM1, e_MZ, e_kMZ, e_MN, e_kMN, e_Tv, e_kTv, e_Tc, e_kTc, e_lpS, e_kLp, e_kLpB0, e_kLpB1, e_kLpB2, e_kLpBR, e_kLpU, e_dwS, e_kDwB0, e_kDwC, f_II, f_LL, f_RR, f_IL, f_IR, f_LI, f_LR, f_RI, f_RL, o_iadd, o_isub, o_imul, o_iand, o_ior, o_ixor, o_ladd, o_lsub, o_lmul, o_land, o_lor, o_ishl, o_ishr, o_iushr, o_lshl, o_lshr, o_lcmp, o_i2l, o_l2i, o_i2b, o_i2s, o_lneg, o_ineg, o_imax, o_imin, o_idiv, o_irem, o_ldiv, o_lrem, r_lt, r_le, r_gt, r_ge, r_eq, r_ne, q_lt, q_le, q_gt, q_ge, q_eq, q_ne, decide_eq_true_eq, idI, and_true, true_and, and_false, false_and, or_true, true_or, or_false, false_or, not_true_eq_false, not_false_eq_true, if_true, if_false, ite_self, Bool.not_true, Bool.not_false, Bool.false_eq_true, Bool.true_eq_false, decide_true, decide_false, ne_eq, reduceIte, Nat.reduceEqDiff, Option.some.injEq, Prod.mk.injEq, eq_self, fa_lit, nI_add, pk_mul, nI_ltI, nI_leI, nI_eq, b01, b0, b1, x_hasBit, Nat.reduceLeDiff, Nat.reduceAdd, Nat.reduceMul, Nat.reduceSub, Nat.lt_irrefl, Nat.reduceLT, hP.k, hP.k9, hP.r8, hP.r9, hP.r10, hP.r11, hP.r12, hP.r13, hP.r14, hP.r15, hP.r16, hP.c3, hP.c4, hP.c5, hP.c6, hP.c7, hP.c8, hQ.k, hQ.k9, hQ.r8, hQ.r9, hQ.r10, hQ.r11, hQ.r12, hQ.r13, hQ.r14, hQ.r15, hQ.r16, hQ.c3, hQ.c4, hQ.c5, hQ.c6, hQ.c7, hQ.c8, n_inb, nI_clamp, w_hr, w_hk, w_hl, w_eq, w_ne, wl_hr, wl_hk, wl_hi, wl_eq, wl_ne, fI, f_ss, f_sR, f_sL, lc0, lc1, lc01, DX5_copy, BX5_copy, ← hg0, hq00, c1, c2, c3, c4, c5, c6, c7, c8, c9, s0.1, s0.2.1, s1.1, s1.2.1, s2.1, s2.2.1, s3.1, s3.2.1, s4.1, s4.2.1, s5.1, s5.2.1, s6.1, s6.2.1, s7.1, s7.2.1, s8.1, s8.2.1, s9.1, s9.2.1]
  · exact ((((((((((q0).tr (q1.mono (fun o (ho : o = p + 1) => by omega))).tr (q2.mono (fun o (ho : o = p + 2) => by omega))).tr (q3.mono (fun o (ho : o = p + 3) => by omega))).tr (q4.mono (fun o (ho : o = p + 4) => by omega))).tr (q5.mono (fun o (ho : o = p + 5) => by omega))).tr (q6.mono (fun o (ho : o = p + 6) => by omega))).tr (q7.mono (fun o (ho : o = p + 7) => by omega))).tr (q8.mono (fun o (ho : o = p + 8) => by omega))).tr (qc.mono (fun o ho => by omega)))
  · rw [(qc.2 (p) (by omega)).1, (q8.2 (p) (by omega)).1, (q7.2 (p) (by omega)).1, (q6.2 (p) (by omega)).1, (q5.2 (p) (by omega)).1, (q4.2 (p) (by omega)).1, (q3.2 (p) (by omega)).1, (q2.2 (p) (by omega)).1, (q1.2 (p) (by omega)).1, hg0]
    match k, hk1 with
    | 0, _ => rw [w_ne (by omega), w_ne (by omega), w_ne (by omega), w_ne (by omega), w_ne (by omega), w_ne (by omega), w_ne (by omega), w_eq]
    | 1, _ => rw [w_ne (by omega), w_ne (by omega), w_ne (by omega), w_ne (by omega), w_ne (by omega), w_ne (by omega), w_eq]
    | 2, _ => rw [w_ne (by omega), w_ne (by omega), w_ne (by omega), w_ne (by omega), w_ne (by omega), w_eq]
    | 3, _ => rw [w_ne (by omega), w_ne (by omega), w_ne (by omega), w_ne (by omega), w_eq]
    | 4, _ => rw [w_ne (by omega), w_ne (by omega), w_ne (by omega), w_eq]
    | 5, _ => rw [w_ne (by omega), w_ne (by omega), w_eq]
    | 6, _ => rw [w_ne (by omega), w_eq]
    | 7, _ => rw [w_eq]
  · rw [f9 k hk1, (q8.2 (q + 9) (by omega)).1, (q7.2 (q + 9) (by omega)).1, (q6.2 (q + 9) (by omega)).1, (q5.2 (q + 9) (by omega)).1, (q4.2 (q + 9) (by omega)).1, (q3.2 (q + 9) (by omega)).1, (q2.2 (q + 9) (by omega)).1, (q1.2 (q + 9) (by omega)).1, (q0.2 (q + 9) (by omega)).1]
  · rw [(qc.2 (p + 1) (by omega)).1, (q8.2 (p + 1) (by omega)).1, (q7.2 (p + 1) (by omega)).1, (q6.2 (p + 1) (by omega)).1, (q5.2 (p + 1) (by omega)).1, (q4.2 (p + 1) (by omega)).1, (q3.2 (p + 1) (by omega)).1, (q2.2 (p + 1) (by omega)).1, e1, if_pos (by omega), show 0 + (k - 0) = k by omega, (q0.2 (q + 1) (by omega)).1]
  · rw [(qc.2 (p + 2) (by omega)).1, (q8.2 (p + 2) (by omega)).1, (q7.2 (p + 2) (by omega)).1, (q6.2 (p + 2) (by omega)).1, (q5.2 (p + 2) (by omega)).1, (q4.2 (p + 2) (by omega)).1, (q3.2 (p + 2) (by omega)).1, e2, if_pos (by omega), show 0 + (k - 0) = k by omega, (q1.2 (q + 2) (by omega)).1, (q0.2 (q + 2) (by omega)).1]
  · rw [(qc.2 (p + 3) (by omega)).1, (q8.2 (p + 3) (by omega)).1, (q7.2 (p + 3) (by omega)).1, (q6.2 (p + 3) (by omega)).1, (q5.2 (p + 3) (by omega)).1, (q4.2 (p + 3) (by omega)).1, e3, if_pos (by omega), show 0 + (k - 0) = k by omega, (q2.2 (q + 3) (by omega)).1, (q1.2 (q + 3) (by omega)).1, (q0.2 (q + 3) (by omega)).1]
  · rw [(qc.2 (p + 4) (by omega)).1, (q8.2 (p + 4) (by omega)).1, (q7.2 (p + 4) (by omega)).1, (q6.2 (p + 4) (by omega)).1, (q5.2 (p + 4) (by omega)).1, e4, if_pos (by omega), show 0 + (k - 0) = k by omega, (q3.2 (q + 4) (by omega)).1, (q2.2 (q + 4) (by omega)).1, (q1.2 (q + 4) (by omega)).1, (q0.2 (q + 4) (by omega)).1]
  · rw [(qc.2 (p + 5) (by omega)).1, (q8.2 (p + 5) (by omega)).1, (q7.2 (p + 5) (by omega)).1, (q6.2 (p + 5) (by omega)).1, e5, if_pos (by omega), show 0 + (k - 0) = k by omega, (q4.2 (q + 5) (by omega)).1, (q3.2 (q + 5) (by omega)).1, (q2.2 (q + 5) (by omega)).1, (q1.2 (q + 5) (by omega)).1, (q0.2 (q + 5) (by omega)).1]
  · rw [(qc.2 (p + 6) (by omega)).1, (q8.2 (p + 6) (by omega)).1, (q7.2 (p + 6) (by omega)).1, e6, if_pos (by omega), show 0 + (k - 0) = k by omega, (q5.2 (q + 6) (by omega)).1, (q4.2 (q + 6) (by omega)).1, (q3.2 (q + 6) (by omega)).1, (q2.2 (q + 6) (by omega)).1, (q1.2 (q + 6) (by omega)).1, (q0.2 (q + 6) (by omega)).1]
  · rw [(qc.2 (p + 7) (by omega)).1, (q8.2 (p + 7) (by omega)).1, e7, if_pos (by omega), show 0 + (k - 0) = k by omega, (q6.2 (q + 7) (by omega)).1, (q5.2 (q + 7) (by omega)).1, (q4.2 (q + 7) (by omega)).1, (q3.2 (q + 7) (by omega)).1, (q2.2 (q + 7) (by omega)).1, (q1.2 (q + 7) (by omega)).1, (q0.2 (q + 7) (by omega)).1]
  · rw [(qc.2 (p + 8) (by omega)).1, e8, if_pos (by omega), show 0 + (k - 0) = k by omega, (q7.2 (q + 8) (by omega)).1, (q6.2 (q + 8) (by omega)).1, (q5.2 (q + 8) (by omega)).1, (q4.2 (q + 8) (by omega)).1, (q3.2 (q + 8) (by omega)).1, (q2.2 (q + 8) (by omega)).1, (q1.2 (q + 8) (by omega)).1, (q0.2 (q + 8) (by omega)).1]
  · rw [f10 k hk1, (q8.2 (q + 10) (by omega)).1, (q7.2 (q + 10) (by omega)).1, (q6.2 (q + 10) (by omega)).1, (q5.2 (q + 10) (by omega)).1, (q4.2 (q + 10) (by omega)).1, (q3.2 (q + 10) (by omega)).1, (q2.2 (q + 10) (by omega)).1, (q1.2 (q + 10) (by omega)).1, (q0.2 (q + 10) (by omega)).1]
  · rw [f11 k hk1, (q8.2 (q + 11) (by omega)).1, (q7.2 (q + 11) (by omega)).1, (q6.2 (q + 11) (by omega)).1, (q5.2 (q + 11) (by omega)).1, (q4.2 (q + 11) (by omega)).1, (q3.2 (q + 11) (by omega)).1, (q2.2 (q + 11) (by omega)).1, (q1.2 (q + 11) (by omega)).1, (q0.2 (q + 11) (by omega)).1]
  · rw [f12 k hk1, (q8.2 (q + 12) (by omega)).1, (q7.2 (q + 12) (by omega)).1, (q6.2 (q + 12) (by omega)).1, (q5.2 (q + 12) (by omega)).1, (q4.2 (q + 12) (by omega)).1, (q3.2 (q + 12) (by omega)).1, (q2.2 (q + 12) (by omega)).1, (q1.2 (q + 12) (by omega)).1, (q0.2 (q + 12) (by omega)).1]
  · rw [f13 k hk1, (q8.2 (q + 13) (by omega)).1, (q7.2 (q + 13) (by omega)).1, (q6.2 (q + 13) (by omega)).1, (q5.2 (q + 13) (by omega)).1, (q4.2 (q + 13) (by omega)).1, (q3.2 (q + 13) (by omega)).1, (q2.2 (q + 13) (by omega)).1, (q1.2 (q + 13) (by omega)).1, (q0.2 (q + 13) (by omega)).1]
  · rw [f14 k hk1, (q8.2 (q + 14) (by omega)).1, (q7.2 (q + 14) (by omega)).1, (q6.2 (q + 14) (by omega)).1, (q5.2 (q + 14) (by omega)).1, (q4.2 (q + 14) (by omega)).1, (q3.2 (q + 14) (by omega)).1, (q2.2 (q + 14) (by omega)).1, (q1.2 (q + 14) (by omega)).1, (q0.2 (q + 14) (by omega)).1]
  · rw [f15 k hk1, (q8.2 (q + 15) (by omega)).1, (q7.2 (q + 15) (by omega)).1, (q6.2 (q + 15) (by omega)).1, (q5.2 (q + 15) (by omega)).1, (q4.2 (q + 15) (by omega)).1, (q3.2 (q + 15) (by omega)).1, (q2.2 (q + 15) (by omega)).1, (q1.2 (q + 15) (by omega)).1, (q0.2 (q + 15) (by omega)).1]
theorem RP.copied (hR : RP h q P) (hW : WFP P) (a0 : ∀ k, k < 8 → hi g p k = hi h q k) (a9 : ∀ k, k < 3 → hi g (p + 9) k = hi h (q + 9) k) (a1 : ∀ k, k < 8 → hi g (p + 1) k = hi h (q + 1) k) (a2 : ∀ k, k < 12 → hi g (p + 2) k = hi h (q + 2) k) (a3 : ∀ k, k < 12 → hi g (p + 3) k = hi h (q + 3) k) (a4 : ∀ k, k < 5 → hi g (p + 4) k = hi h (q + 4) k) (a5 : ∀ k, k < 5 → hi g (p + 5) k = hi h (q + 5) k) (a6 : ∀ k, k < 3 → hi g (p + 6) k = hi h (q + 6) k) (a7 : ∀ k, k < 3 → hi g (p + 7) k = hi h (q + 7) k) (a8 : ∀ k, k < 18 → hi g (p + 8) k = hi h (q + 8) k) (aC : ∀ j k, 10 ≤ j → j ≤ 13 → k < 32 → hi g (p + j) k = hi h (q + j) k) (a14 : ∀ k, k < 20 → hi g (p + 14) k = hi h (q + 14) k) (a15 : ∀ k, k < 20 → hi g (p + 15) k = hi h (q + 15) k) : RP g p P := by
  have w05 : P 0 5 ≤ 12 := hW.2.2.2.2.1
  have w06 : P 0 6 ≤ 5 := hW.2.2.2.2.2.1
  have w07 : P 0 7 ≤ 3 := hW.2.2.2.2.2.2.1
  have w04 : P 0 4 ≤ 8 := hW.2.2.2.1
  have w91 : P 9 1 ≤ 32 := hW.2.2.2.2.2.2.2.2.1
  have w92 : P 9 2 ≤ 20 := hW.2.2.2.2.2.2.2.2.2.1
  refine ⟨fun j k hin => ?_, fun k hk1 => ?_⟩
  · have hv := hR.1 j k hin
    unfold PIn at hin
    rcases hin with ⟨rfl, z⟩ | ⟨rfl, z⟩ | ⟨rfl, z⟩ | ⟨rfl, z⟩ | ⟨rfl, z⟩ | ⟨rfl, z⟩ | ⟨rfl, z⟩ | ⟨rfl, z⟩ | ⟨rfl, z, -⟩ | ⟨rfl, z⟩ | ⟨z1, z2, z⟩
    · exact (a0 k z).trans hv
    · rw [a1 k (by omega)]; exact hv
    · rw [a2 k (by omega)]; exact hv
    · rw [a3 k (by omega)]; exact hv
    · rw [a4 k (by omega)]; exact hv
    · rw [a5 k (by omega)]; exact hv
    · rw [a6 k (by omega)]; exact hv
    · rw [a7 k (by omega)]; exact hv
    · rw [a8 k (by omega)]; exact hv
    · rw [a9 k (by omega)]; exact hv
    · rw [aC j k z1 z2 (by omega)]; exact hv
  · rw [a14 k (by omega), a15 k (by omega)]
    exact hR.2 k hk1
end
