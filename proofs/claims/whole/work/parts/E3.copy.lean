set_option maxRecDepth 100000
set_option maxHeartbeats 2000000
/-! the model's copy of a PORT, all rows -/
section
variable {L : Nat} {xs : Nat → Int32} {h g : St} {P P' : PT}
theorem m_copyPort (hM : MS h oM) {a b : Nat} (ha : a ≤ 4) (hb : b ≤ 4) (hab : a ≠ b) : ∃ g, DX12_copyPort (sI (sI (sR fr0 0 oM) 1 (nI a)) 2 (nI b)) h = some ((), g) ∧ Ch (fun o => oM + 6 ≤ o ∧ o < oM + 16) h g ∧ ∀ i, i < 10 → ∀ j, hi g (oM + 6 + i) j = if mz i * b ≤ j ∧ j < mz i * b + mz i then hi h (oM + 6 + i) (mz i * a + (j - mz i * b)) else hi h (oM + 6 + i) j := by
  have hcc := o_is
  have hM0 := hM
  obtain ⟨g1, c1, q1, e1⟩ := m_copyRow (h := h) (r := oM + 6) (n := 1) (a := a) (b := b) (S := 5) (by omega) hM0.k6 (by decide) (by omega) (by omega) (by omega)
  have hM1 := hM0.to q1.1
  obtain ⟨g2, c2, q2, e2⟩ := m_copyRow (h := g1) (r := oM + 7) (n := 9) (a := a) (b := b) (S := 45) (by omega) hM1.k7 (by decide) (by omega) (by omega) (by omega)
  have hM2 := hM1.to q2.1
  obtain ⟨g3, c3, q3, e3⟩ := m_copyRow (h := g2) (r := oM + 8) (n := 8) (a := a) (b := b) (S := 40) (by omega) hM2.k8 (by decide) (by omega) (by omega) (by omega)
  have hM3 := hM2.to q3.1
  obtain ⟨g4, c4, q4, e4⟩ := m_copyRow (h := g3) (r := oM + 9) (n := 24) (a := a) (b := b) (S := 120) (by omega) hM3.k9 (by decide) (by omega) (by omega) (by omega)
  have hM4 := hM3.to q4.1
  obtain ⟨g5, c5, q5, e5⟩ := m_copyRow (h := g4) (r := oM + 10) (n := 10) (a := a) (b := b) (S := 50) (by omega) hM4.k10 (by decide) (by omega) (by omega) (by omega)
  have hM5 := hM4.to q5.1
  obtain ⟨g6, c6, q6, e6⟩ := m_copyRow (h := g5) (r := oM + 11) (n := 3) (a := a) (b := b) (S := 15) (by omega) hM5.k11 (by decide) (by omega) (by omega) (by omega)
  have hM6 := hM5.to q6.1
  obtain ⟨g7, c7, q7, e7⟩ := m_copyRow (h := g6) (r := oM + 12) (n := 3) (a := a) (b := b) (S := 15) (by omega) hM6.k12 (by decide) (by omega) (by omega) (by omega)
  have hM7 := hM6.to q7.1
  obtain ⟨g8, c8, q8, e8⟩ := m_copyRow (h := g7) (r := oM + 13) (n := 18) (a := a) (b := b) (S := 90) (by omega) hM7.k13 (by decide) (by omega) (by omega) (by omega)
  have hM8 := hM7.to q8.1
  obtain ⟨g9, c9, q9, e9⟩ := m_copyRow (h := g8) (r := oM + 14) (n := 48) (a := a) (b := b) (S := 240) (by omega) hM8.k14 (by decide) (by omega) (by omega) (by omega)
  have hM9 := hM8.to q9.1
  obtain ⟨g10, c10, q10, e10⟩ := m_copyRow (h := g9) (r := oM + 15) (n := 80) (a := a) (b := b) (S := 400) (by omega) hM9.k15 (by decide) (by omega) (by omega) (by omega)
  have hM10 := hM9.to q10.1
  refine ⟨g10, ?_, ?_, fun i hi1 => ?_⟩
  · simp (disch := omega) only [ob_t, ob_n, ob_ite, e_cI, e_cL, e_cR, e_vI, e_vL, e_vR, e_d2, e_d2_a, e_d2_b, e_d2z, e_d2z_a, e_d2z_b, e_d1, e_d1_a, e_GI, e_GI_a, e_GL, e_GL_a, e_GR, e_GR_a, e_AI, e_AI_a, e_AI_b, e_AB, e_AB_a, e_AB_b, e_AZ, e_AZ_a, e_AZ_b, e_AL, e_AL_a, e_AL_b, e_AR, e_AR_a, e_AR_b, e_Len, e_Len_a, e_CI, e_CI_a, e_CI_b, e_CZ, e_CZ_a, e_And, e_kAnd, e_Or, e_kOr, e_Not, e_kNot, e_B, e_kB, e_T, e_kT, e_NN, e_kNN, e_NewA, e_NewA_a, e_NewC, e_kNewC, e_aN, e_aI, e_aI_a, e_aI_b, e_aL, e_aL_a, e_aL_b, e_aR, e_aR_a, e_aR_b, e_Call, e_kCall, e_CallV, e_kCallV, e_SetI, e_kSetI, e_SetL, e_kSetL, e_SetR, e_kSetR, e_Inc, e_Skip, e_Brk, e_Cnt, e_Ret, e_kRet, e_Ret0, e_Seq, e_kSeq0, e_kSeq1, e_kSeq2, e_kSeqR, e_If, e_kIf, e_Do, e_kDo, e_Sup, e_kN0, e_d3, e_k3a, e_k3b, e_k3c, e_P, e_kPa, e_kPb, e_UA, e_kUAa, e_kUAb, e_kUAc, e_UL, e_kULa, e_kULb, e_kULc, e_UF, e_kUFa, e_kUFb, e_Cp, e_kCp, e_Sw, e_kSwa, e_kSwb0, e_kSwb1, e_kSwbR, e_M1, e_kM1, e_MZ, e_kMZ, e_MN, e_kMN, e_Tv, e_kTv, e_Tc, e_kTc, e_lpS, e_kLp, e_kLpB0, e_kLpB1, e_kLpB2, e_kLpBR, e_kLpU, e_dwS, e_kDwB0, e_kDwC, f_II, f_LL, f_RR, f_IL, f_IR, f_LI, f_LR, f_RI, f_RL, o_iadd, o_isub, o_imul, o_iand, o_ior, o_ixor, o_ladd, o_lsub, o_lmul, o_land, o_lor, o_ishl, o_ishr, o_iushr, o_lshl, o_lcmp, o_i2l, o_l2i, o_i2b, o_i2s, o_lneg, o_imax, o_imin, o_idiv, o_irem, o_ldiv, o_lrem, r_lt, r_le, r_gt, r_ge, r_eq, r_ne, q_lt, q_le, q_gt, q_ge, q_eq, q_ne, decide_eq_true_eq, idI, and_true, true_and, and_false, false_and, or_true, true_or, or_false, false_or, not_true_eq_false, not_false_eq_true, if_true, if_false, ite_self, Bool.not_true, Bool.not_false, Bool.false_eq_true, Bool.true_eq_false, decide_true, decide_false, ne_eq, reduceIte, Nat.reduceEqDiff, Option.some.injEq, Prod.mk.injEq, eq_self, fa_lit, nI_add, pk_mul, nI_ltI, nI_leI, nI_eq, b01, b0, b1, x_hasBit, Nat.reduceLeDiff, Nat.reduceAdd, Nat.reduceMul, Nat.reduceSub, Nat.lt_irrefl, Nat.reduceLT, n_inb, nI_clamp, w_hr, w_hk, w_hl, w_eq, w_ne, wl_hr, wl_hk, wl_hi, wl_eq, wl_ne, hM.k, hM.k1, hM.k2, hM.k3, hM.k4, hM.k5, hM.k6, hM.k7, hM.k8, hM.k9, hM.k10, hM.k11, hM.k12, hM.k13, hM.k14, hM.k15, hM.k16, hM.k17, hM.k18, hM.k19, hM.k20, hM.k21, hM.k22, hM.k23, hM.k24, hM.k25, hM.k26, hM.k27, hM.k28, hM.k29, hM.k30, hM.k31, hM.k32, hM.k33, hM.k34, hM.k35, hM.r1, hM.r2, hM.r3, hM.r4, hM.r5, hM.r16, hM.r17, hM.r18, hM.r19, hM.r20, hM.r21, hM.r22, hM.r23, hM.r24, hM.r25, hM.r26, hM.r31, hM.r32, hM.r33, hM.r34, hM.r35, hM.r36, hM.r37, hM.r38, hM.r39, hM.r40, hM.r41, hM.r42, hM.r43, hM.r44, hM.r47, hM.r48, hM.r49, hM.r50, hM.r54, stI, fI, fZ, fL, stL, DX12_copyPort, BX12_copyPort, c1, q1.1.1, q1.1.2.1, c2, q2.1.1, q2.1.2.1, c3, q3.1.1, q3.1.2.1, c4, q4.1.1, q4.1.2.1, c5, q5.1.1, q5.1.2.1, c6, q6.1.1, q6.1.2.1, c7, q7.1.1, q7.1.2.1, c8, q8.1.1, q8.1.2.1, c9, q9.1.1, q9.1.2.1, c10, q10.1.1, q10.1.2.1]
  · exact ((((((((((q1.mono (fun o (ho : o = oM + 6) => by omega)).tr (q2.mono (fun o (ho : o = oM + 7) => by omega))).tr (q3.mono (fun o (ho : o = oM + 8) => by omega))).tr (q4.mono (fun o (ho : o = oM + 9) => by omega))).tr (q5.mono (fun o (ho : o = oM + 10) => by omega))).tr (q6.mono (fun o (ho : o = oM + 11) => by omega))).tr (q7.mono (fun o (ho : o = oM + 12) => by omega))).tr (q8.mono (fun o (ho : o = oM + 13) => by omega))).tr (q9.mono (fun o (ho : o = oM + 14) => by omega))).tr (q10.mono (fun o (ho : o = oM + 15) => by omega)))
  · match i, hi1 with
    | 0, _ =>
      intro j
      have z1 : ∀ j, hi g10 (oM + 6) j = hi g1 (oM + 6) j := fun j => by rw [(q10.2 (oM + 6) (by omega)).1, (q9.2 (oM + 6) (by omega)).1, (q8.2 (oM + 6) (by omega)).1, (q7.2 (oM + 6) (by omega)).1, (q6.2 (oM + 6) (by omega)).1, (q5.2 (oM + 6) (by omega)).1, (q4.2 (oM + 6) (by omega)).1, (q3.2 (oM + 6) (by omega)).1, (q2.2 (oM + 6) (by omega)).1]
      have z0 : ∀ j, hi h (oM + 6) j = hi h (oM + 6) j := fun j => by rfl
      show hi g10 (oM + 6) j = if 1 * b ≤ j ∧ j < 1 * b + 1 then hi h (oM + 6) (1 * a + (j - 1 * b)) else hi h (oM + 6) j
      rw [z1, e1, z0, z0]
    | 1, _ =>
      intro j
      have z1 : ∀ j, hi g10 (oM + 7) j = hi g2 (oM + 7) j := fun j => by rw [(q10.2 (oM + 7) (by omega)).1, (q9.2 (oM + 7) (by omega)).1, (q8.2 (oM + 7) (by omega)).1, (q7.2 (oM + 7) (by omega)).1, (q6.2 (oM + 7) (by omega)).1, (q5.2 (oM + 7) (by omega)).1, (q4.2 (oM + 7) (by omega)).1, (q3.2 (oM + 7) (by omega)).1]
      have z0 : ∀ j, hi g1 (oM + 7) j = hi h (oM + 7) j := fun j => by rw [(q1.2 (oM + 7) (by omega)).1]
      show hi g10 (oM + 7) j = if 9 * b ≤ j ∧ j < 9 * b + 9 then hi h (oM + 7) (9 * a + (j - 9 * b)) else hi h (oM + 7) j
      rw [z1, e2, z0, z0]
    | 2, _ =>
      intro j
      have z1 : ∀ j, hi g10 (oM + 8) j = hi g3 (oM + 8) j := fun j => by rw [(q10.2 (oM + 8) (by omega)).1, (q9.2 (oM + 8) (by omega)).1, (q8.2 (oM + 8) (by omega)).1, (q7.2 (oM + 8) (by omega)).1, (q6.2 (oM + 8) (by omega)).1, (q5.2 (oM + 8) (by omega)).1, (q4.2 (oM + 8) (by omega)).1]
      have z0 : ∀ j, hi g2 (oM + 8) j = hi h (oM + 8) j := fun j => by rw [(q2.2 (oM + 8) (by omega)).1, (q1.2 (oM + 8) (by omega)).1]
      show hi g10 (oM + 8) j = if 8 * b ≤ j ∧ j < 8 * b + 8 then hi h (oM + 8) (8 * a + (j - 8 * b)) else hi h (oM + 8) j
      rw [z1, e3, z0, z0]
    | 3, _ =>
      intro j
      have z1 : ∀ j, hi g10 (oM + 9) j = hi g4 (oM + 9) j := fun j => by rw [(q10.2 (oM + 9) (by omega)).1, (q9.2 (oM + 9) (by omega)).1, (q8.2 (oM + 9) (by omega)).1, (q7.2 (oM + 9) (by omega)).1, (q6.2 (oM + 9) (by omega)).1, (q5.2 (oM + 9) (by omega)).1]
      have z0 : ∀ j, hi g3 (oM + 9) j = hi h (oM + 9) j := fun j => by rw [(q3.2 (oM + 9) (by omega)).1, (q2.2 (oM + 9) (by omega)).1, (q1.2 (oM + 9) (by omega)).1]
      show hi g10 (oM + 9) j = if 24 * b ≤ j ∧ j < 24 * b + 24 then hi h (oM + 9) (24 * a + (j - 24 * b)) else hi h (oM + 9) j
      rw [z1, e4, z0, z0]
    | 4, _ =>
      intro j
      have z1 : ∀ j, hi g10 (oM + 10) j = hi g5 (oM + 10) j := fun j => by rw [(q10.2 (oM + 10) (by omega)).1, (q9.2 (oM + 10) (by omega)).1, (q8.2 (oM + 10) (by omega)).1, (q7.2 (oM + 10) (by omega)).1, (q6.2 (oM + 10) (by omega)).1]
      have z0 : ∀ j, hi g4 (oM + 10) j = hi h (oM + 10) j := fun j => by rw [(q4.2 (oM + 10) (by omega)).1, (q3.2 (oM + 10) (by omega)).1, (q2.2 (oM + 10) (by omega)).1, (q1.2 (oM + 10) (by omega)).1]
      show hi g10 (oM + 10) j = if 10 * b ≤ j ∧ j < 10 * b + 10 then hi h (oM + 10) (10 * a + (j - 10 * b)) else hi h (oM + 10) j
      rw [z1, e5, z0, z0]
    | 5, _ =>
      intro j
      have z1 : ∀ j, hi g10 (oM + 11) j = hi g6 (oM + 11) j := fun j => by rw [(q10.2 (oM + 11) (by omega)).1, (q9.2 (oM + 11) (by omega)).1, (q8.2 (oM + 11) (by omega)).1, (q7.2 (oM + 11) (by omega)).1]
      have z0 : ∀ j, hi g5 (oM + 11) j = hi h (oM + 11) j := fun j => by rw [(q5.2 (oM + 11) (by omega)).1, (q4.2 (oM + 11) (by omega)).1, (q3.2 (oM + 11) (by omega)).1, (q2.2 (oM + 11) (by omega)).1, (q1.2 (oM + 11) (by omega)).1]
      show hi g10 (oM + 11) j = if 3 * b ≤ j ∧ j < 3 * b + 3 then hi h (oM + 11) (3 * a + (j - 3 * b)) else hi h (oM + 11) j
      rw [z1, e6, z0, z0]
    | 6, _ =>
      intro j
      have z1 : ∀ j, hi g10 (oM + 12) j = hi g7 (oM + 12) j := fun j => by rw [(q10.2 (oM + 12) (by omega)).1, (q9.2 (oM + 12) (by omega)).1, (q8.2 (oM + 12) (by omega)).1]
      have z0 : ∀ j, hi g6 (oM + 12) j = hi h (oM + 12) j := fun j => by rw [(q6.2 (oM + 12) (by omega)).1, (q5.2 (oM + 12) (by omega)).1, (q4.2 (oM + 12) (by omega)).1, (q3.2 (oM + 12) (by omega)).1, (q2.2 (oM + 12) (by omega)).1, (q1.2 (oM + 12) (by omega)).1]
      show hi g10 (oM + 12) j = if 3 * b ≤ j ∧ j < 3 * b + 3 then hi h (oM + 12) (3 * a + (j - 3 * b)) else hi h (oM + 12) j
      rw [z1, e7, z0, z0]
    | 7, _ =>
      intro j
      have z1 : ∀ j, hi g10 (oM + 13) j = hi g8 (oM + 13) j := fun j => by rw [(q10.2 (oM + 13) (by omega)).1, (q9.2 (oM + 13) (by omega)).1]
      have z0 : ∀ j, hi g7 (oM + 13) j = hi h (oM + 13) j := fun j => by rw [(q7.2 (oM + 13) (by omega)).1, (q6.2 (oM + 13) (by omega)).1, (q5.2 (oM + 13) (by omega)).1, (q4.2 (oM + 13) (by omega)).1, (q3.2 (oM + 13) (by omega)).1, (q2.2 (oM + 13) (by omega)).1, (q1.2 (oM + 13) (by omega)).1]
      show hi g10 (oM + 13) j = if 18 * b ≤ j ∧ j < 18 * b + 18 then hi h (oM + 13) (18 * a + (j - 18 * b)) else hi h (oM + 13) j
      rw [z1, e8, z0, z0]
    | 8, _ =>
      intro j
      have z1 : ∀ j, hi g10 (oM + 14) j = hi g9 (oM + 14) j := fun j => by rw [(q10.2 (oM + 14) (by omega)).1]
      have z0 : ∀ j, hi g8 (oM + 14) j = hi h (oM + 14) j := fun j => by rw [(q8.2 (oM + 14) (by omega)).1, (q7.2 (oM + 14) (by omega)).1, (q6.2 (oM + 14) (by omega)).1, (q5.2 (oM + 14) (by omega)).1, (q4.2 (oM + 14) (by omega)).1, (q3.2 (oM + 14) (by omega)).1, (q2.2 (oM + 14) (by omega)).1, (q1.2 (oM + 14) (by omega)).1]
      show hi g10 (oM + 14) j = if 48 * b ≤ j ∧ j < 48 * b + 48 then hi h (oM + 14) (48 * a + (j - 48 * b)) else hi h (oM + 14) j
      rw [z1, e9, z0, z0]
    | 9, _ =>
      intro j
      have z1 : ∀ j, hi g10 (oM + 15) j = hi g10 (oM + 15) j := fun j => by rfl
      have z0 : ∀ j, hi g9 (oM + 15) j = hi h (oM + 15) j := fun j => by rw [(q9.2 (oM + 15) (by omega)).1, (q8.2 (oM + 15) (by omega)).1, (q7.2 (oM + 15) (by omega)).1, (q6.2 (oM + 15) (by omega)).1, (q5.2 (oM + 15) (by omega)).1, (q4.2 (oM + 15) (by omega)).1, (q3.2 (oM + 15) (by omega)).1, (q2.2 (oM + 15) (by omega)).1, (q1.2 (oM + 15) (by omega)).1]
      show hi g10 (oM + 15) j = if 80 * b ≤ j ∧ j < 80 * b + 80 then hi h (oM + 15) (80 * a + (j - 80 * b)) else hi h (oM + 15) j
      rw [z1, e10, z0, z0]
def CPd (h g : St) (a b : Nat) : Prop := ∀ i, i < 10 → ∀ j, hi g (oM + 6 + i) j = if mz i * b ≤ j ∧ j < mz i * b + mz i then hi h (oM + 6 + i) (mz i * a + (j - mz i * b)) else hi h (oM + 6 + i) j
theorem CPd.new {a b : Nat} (e : CPd h g a b) {i : Nat} (hi1 : i < 10) {k : Nat} (hk1 : k < mz i) : hi g (oM + 6 + i) (mz i * b + k) = hi h (oM + 6 + i) (mz i * a + k) := by
  rw [e i hi1, if_pos (by omega), show mz i * b + k - mz i * b = k by omega]
theorem MP.copied {a b : Nat} (H : MP h oM a P) (hW : WFP P) (e : CPd h g a b) : MP g oM b P := by
  have hb := hW.all
  have n0 : ∀ k, k < 1 → hi g (oM + 6) (1 * b + k) = hi h (oM + 6) (1 * a + k) := fun k hk1 => e.new (i := 0) (by decide) hk1
  have n1 : ∀ k, k < 9 → hi g (oM + 7) (9 * b + k) = hi h (oM + 7) (9 * a + k) := fun k hk1 => e.new (i := 1) (by decide) hk1
  have n2 : ∀ k, k < 8 → hi g (oM + 8) (8 * b + k) = hi h (oM + 8) (8 * a + k) := fun k hk1 => e.new (i := 2) (by decide) hk1
  have n3 : ∀ k, k < 24 → hi g (oM + 9) (24 * b + k) = hi h (oM + 9) (24 * a + k) := fun k hk1 => e.new (i := 3) (by decide) hk1
  have n4 : ∀ k, k < 10 → hi g (oM + 10) (10 * b + k) = hi h (oM + 10) (10 * a + k) := fun k hk1 => e.new (i := 4) (by decide) hk1
  have n5 : ∀ k, k < 3 → hi g (oM + 11) (3 * b + k) = hi h (oM + 11) (3 * a + k) := fun k hk1 => e.new (i := 5) (by decide) hk1
  have n6 : ∀ k, k < 3 → hi g (oM + 12) (3 * b + k) = hi h (oM + 12) (3 * a + k) := fun k hk1 => e.new (i := 6) (by decide) hk1
  have n7 : ∀ k, k < 18 → hi g (oM + 13) (18 * b + k) = hi h (oM + 13) (18 * a + k) := fun k hk1 => e.new (i := 7) (by decide) hk1
  have n8 : ∀ k, k < 48 → hi g (oM + 14) (48 * b + k) = hi h (oM + 14) (48 * a + k) := fun k hk1 => e.new (i := 8) (by decide) hk1
  have n9 : ∀ k, k < 80 → hi g (oM + 15) (80 * b + k) = hi h (oM + 15) (80 * a + k) := fun k hk1 => e.new (i := 9) (by decide) hk1
  have w05 : P 0 5 ≤ 12 := hW.2.2.2.2.1
  have w06 : P 0 6 ≤ 5 := hW.2.2.2.2.2.1
  have w07 : P 0 7 ≤ 3 := hW.2.2.2.2.2.2.1
  have w04 : P 0 4 ≤ 8 := hW.2.2.2.1
  have w90 : P 9 0 ≤ 12 := hW.2.2.2.2.2.2.2.1
  have w92 : P 9 2 ≤ 20 := hW.2.2.2.2.2.2.2.2.2.1
  obtain ⟨b1, b2, b3, b4, b5, b6, b7, b8, b9, b10⟩ := H
  refine ⟨?_, fun w hw => ?_, fun k hk1 => ?_, fun k hk1 => ⟨?_, ?_⟩, fun k hk1 => ⟨?_, ?_⟩, fun s hs => ⟨?_, ?_, fun i hi1 => ?_⟩, fun k t hk1 ht => ?_, fun j t hj ht => ?_, fun j hj hz => ?_, b10⟩
  · have e0 := n0 0 (by decide)
    rw [show 1 * b + 0 = b by omega, show 1 * a + 0 = a by omega] at e0
    rw [e0]; exact b1
  · rw [n1 w hw]; exact b2 w hw
  · rw [n2 k (by omega)]; exact b3 k hk1
  · rw [show 24 * b + 2 * k = 24 * b + (2 * k) by omega, n3 (2 * k) (by omega)]; exact (b4 k hk1).1
  · rw [show 24 * b + 2 * k + 1 = 24 * b + (2 * k + 1) by omega, n3 (2 * k + 1) (by omega)]; exact (b4 k hk1).2
  · rw [n4 (2 * k) (by omega)]; exact (b5 k hk1).1
  · rw [show 10 * b + 2 * k + 1 = 10 * b + (2 * k + 1) by omega, n4 (2 * k + 1) (by omega)]; exact (b5 k hk1).2
  · rw [n5 s (by omega)]; exact (b6 s hs).1
  · rw [n6 s (by omega)]; exact (b6 s hs).2.1
  · have hq := hW.sl hs
    rw [show 18 * b + 6 * s + i = 18 * b + (6 * s + i) by omega, n7 (6 * s + i) (by omega), show 18 * a + (6 * s + i) = 18 * a + 6 * s + i by omega]
    exact (b6 s hs).2.2 i hi1
  · rw [show 48 * b + 4 * k + t = 48 * b + (4 * k + t) by omega, n8 (4 * k + t) (by omega), show 48 * a + (4 * k + t) = 48 * a + 4 * k + t by omega]
    exact b7 k t hk1 ht
  · rw [show 80 * b + 4 * j + t = 80 * b + (4 * j + t) by omega, n9 (4 * j + t) (by omega), show 80 * a + (4 * j + t) = 80 * a + 4 * j + t by omega]
    exact b8 j t hj ht
  · rw [show 80 * b + 4 * j + 3 = 80 * b + (4 * j + 3) by omega, n9 (4 * j + 3) (by omega), show 80 * a + (4 * j + 3) = 80 * a + 4 * j + 3 by omega]
    exact b9 j hj hz
end
