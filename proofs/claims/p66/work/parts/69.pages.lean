set_option maxRecDepth 100000
set_option maxHeartbeats 1000000
/-! the pages of a Diary -/
def dL (j : Nat) : Nat := [65, 39, 39, 312, 13].getD j 0
def DS (h : St) (d : Nat) : Prop := CS h (d + 1) ∧ hk h d = (3, 0) ∧ hr h d 1 = d + 1 ∧ (∀ j, j < 5 → hr h d (2 + j) = d + 9 + j) ∧ ∀ j, j < 5 → hk h (d + 9 + j) = (13, dL j)
theorem DS.c {h : St} {d : Nat} (H : DS h d) : CS h (d + 1) := H.1
theorem DS.k {h : St} {d : Nat} (H : DS h d) : hk h d = (3, 0) := H.2.1
theorem DS.r1 {h : St} {d : Nat} (H : DS h d) : hr h d 1 = d + 1 := H.2.2.1
theorem DS.r2 {h : St} {d : Nat} (H : DS h d) : hr h d 2 = d + 9 := H.2.2.2.1 0 (by decide)
theorem DS.r3 {h : St} {d : Nat} (H : DS h d) : hr h d 3 = d + 10 := H.2.2.2.1 1 (by decide)
theorem DS.r4 {h : St} {d : Nat} (H : DS h d) : hr h d 4 = d + 11 := H.2.2.2.1 2 (by decide)
theorem DS.r5 {h : St} {d : Nat} (H : DS h d) : hr h d 5 = d + 12 := H.2.2.2.1 3 (by decide)
theorem DS.r6 {h : St} {d : Nat} (H : DS h d) : hr h d 6 = d + 13 := H.2.2.2.1 4 (by decide)
theorem DS.k9 {h : St} {d : Nat} (H : DS h d) : hk h (d + 9) = (13, 65) := H.2.2.2.2 0 (by decide)
theorem DS.k10 {h : St} {d : Nat} (H : DS h d) : hk h (d + 10) = (13, 39) := H.2.2.2.2 1 (by decide)
theorem DS.k11 {h : St} {d : Nat} (H : DS h d) : hk h (d + 11) = (13, 39) := H.2.2.2.2 2 (by decide)
theorem DS.k12 {h : St} {d : Nat} (H : DS h d) : hk h (d + 12) = (13, 312) := H.2.2.2.2 3 (by decide)
theorem DS.k13 {h : St} {d : Nat} (H : DS h d) : hk h (d + 13) = (13, 13) := H.2.2.2.2 4 (by decide)
theorem DS.to {h h' : St} {d : Nat} (H : DS h d) (k : SH h h') : DS h' d := by
  unfold DS
  rw [k.1, k.2.1]
  exact ⟨H.1.to k, H.2⟩
/-- what may be changed of a Diary: all but its flag -/
def dD (d : Nat) : Nat → Prop := fun o => d + 1 ≤ o ∧ o < d + 14
def Pg (h : St) (d : Nat) (T : PT) (day : Nat) : Prop := (∀ m, m < 5 → hi h (d + 9) (5 * day + m) = nI (T 1 m)) ∧ (∀ s, s < 3 → hi h (d + 10) (3 * day + s) = nI (T 2 s)) ∧ (∀ s, s < 3 → hi h (d + 11) (3 * day + s) = nI (T 3 s)) ∧ ∀ k, k < 24 → hi h (d + 12) (24 * day + k) = nI (T 4 k)
section
variable {h : St} {c p d : Nat} {S P T : PT}
theorem x_note (hD : DS h d) (hR : RC h (d + 1) T) {day : Nat} (hd1 : day < 13) : ∃ g, DX3_note (sI (sR fr0 0 d) 1 (nI day)) h = some ((), g) ∧ Pg g d T day ∧ (∀ U e, e ≠ day → Pg h d U e → Pg g d U e) ∧ RC g (d + 1) T ∧ Ch (fun o => d + 9 ≤ o ∧ o < d + 13) h g := by
  have hC := hD.c
  have k1 : hk h (d + 1 + 1) = (13, 5) := hC.kj (j := 1) (by decide) (by decide)
  have k2 : hk h (d + 1 + 2) = (13, 3) := hC.kj (j := 2) (by decide) (by decide)
  have k3 : hk h (d + 1 + 3) = (13, 3) := hC.kj (j := 3) (by decide) (by decide)
  have k4 : hk h (d + 1 + 4) = (13, 24) := hC.kj (j := 4) (by decide) (by decide)
  obtain ⟨g1, a1, b1, c1⟩ := cp_ok (sp := 0) (dp := day * 5) (n := 5) k1 hD.k9 (by decide) (by omega) (by decide) (by decide)
  have s1 := c1.1
  obtain ⟨g2, a2, b2, c2⟩ := cp_ok (h := g1) (sp := 0) (dp := day * 3) (n := 3) (by rw [s1.2.1]; exact k2) (by rw [s1.2.1]; exact hD.k10) (by decide) (by omega) (by decide) (by decide)
  have s2 := s1.tr c2.1
  obtain ⟨g3, a3, b3, c3⟩ := cp_ok (h := g2) (sp := 0) (dp := day * 3) (n := 3) (by rw [s2.2.1]; exact k3) (by rw [s2.2.1]; exact hD.k11) (by decide) (by omega) (by decide) (by decide)
  have s3 := s2.tr c3.1
  obtain ⟨g4, a4, b4, c4⟩ := cp_ok (h := g3) (sp := 0) (dp := day * 3 * 8) (n := 24) (by rw [s3.2.1]; exact k4) (by rw [s3.2.1]; exact hD.k12) (by decide) (by omega) (by decide) (by decide)
  have q : Ch (fun o => d + 9 ≤ o ∧ o < d + 13) h g4 := (((c1.mono (fun o (ho : o = d + 9) => ⟨by omega, by omega⟩)).tr (c2.mono (fun o (ho : o = d + 10) => ⟨by omega, by omega⟩))).tr (c3.mono (fun o (ho : o = d + 11) => ⟨by omega, by omega⟩))).tr (c4.mono (fun o (ho : o = d + 12) => ⟨by omega, by omega⟩))
  -- each of the four, at the end
  have v9 : ∀ k, hi g4 (d + 9) k = if day * 5 ≤ k ∧ k < day * 5 + 5 then hi h (d + 1 + 1) (0 + (k - day * 5)) else hi h (d + 9) k := fun k => by
    rw [(c4.2 (d + 9) (by show ¬ d + 9 = d + 12; omega)).1, (c3.2 (d + 9) (by show ¬ d + 9 = d + 11; omega)).1, (c2.2 (d + 9) (by show ¬ d + 9 = d + 10; omega)).1, b1]
  have v10 : ∀ k, hi g4 (d + 10) k = if day * 3 ≤ k ∧ k < day * 3 + 3 then hi h (d + 1 + 2) (0 + (k - day * 3)) else hi h (d + 10) k := fun k => by
    rw [(c4.2 (d + 10) (by show ¬ d + 10 = d + 12; omega)).1, (c3.2 (d + 10) (by show ¬ d + 10 = d + 11; omega)).1, b2, (c1.2 (d + 1 + 2) (by show ¬ d + 1 + 2 = d + 9; omega)).1, (c1.2 (d + 10) (by show ¬ d + 10 = d + 9; omega)).1]
  have v11 : ∀ k, hi g4 (d + 11) k = if day * 3 ≤ k ∧ k < day * 3 + 3 then hi h (d + 1 + 3) (0 + (k - day * 3)) else hi h (d + 11) k := fun k => by
    rw [(c4.2 (d + 11) (by show ¬ d + 11 = d + 12; omega)).1, b3, (c2.2 (d + 1 + 3) (by show ¬ d + 1 + 3 = d + 10; omega)).1, (c1.2 (d + 1 + 3) (by show ¬ d + 1 + 3 = d + 9; omega)).1, (c2.2 (d + 11) (by show ¬ d + 11 = d + 10; omega)).1, (c1.2 (d + 11) (by show ¬ d + 11 = d + 9; omega)).1]
  have v12 : ∀ k, hi g4 (d + 12) k = if day * 3 * 8 ≤ k ∧ k < day * 3 * 8 + 24 then hi h (d + 1 + 4) (0 + (k - day * 3 * 8)) else hi h (d + 12) k := fun k => by
    rw [b4, (c3.2 (d + 1 + 4) (by show ¬ d + 1 + 4 = d + 11; omega)).1, (c2.2 (d + 1 + 4) (by show ¬ d + 1 + 4 = d + 10; omega)).1, (c1.2 (d + 1 + 4) (by show ¬ d + 1 + 4 = d + 9; omega)).1, (c3.2 (d + 12) (by show ¬ d + 12 = d + 11; omega)).1, (c2.2 (d + 12) (by show ¬ d + 12 = d + 10; omega)).1, (c1.2 (d + 12) (by show ¬ d + 12 = d + 9; omega)).1]
  refine ⟨g4, ?_, ⟨fun m hm => ?_, fun s hs => ?_, fun s hs => ?_, fun k hk1 => ?_⟩, fun U e he hU => ⟨fun m hm => ?_, fun s hs => ?_, fun s hs => ?_, fun k hk1 => ?_⟩, fun j k hjk => ?_, q⟩
  · have e1 : hr h d 1 = d + 1 := hD.r1
    have z1 : ¬ day < 0 := by omega
    have z2 : ¬ 13 ≤ day := by omega
    simp (disch := omega) only [DX3_note, BX3_note, ob_t, ob_n, ob_ite, e_cI, e_cL, e_cR, e_vI, e_vL, e_vR, e_d2, e_d2_a, e_d2_b, e_d2z, e_d2z_a, e_d2z_b, e_d1, e_d1_a, e_GI, e_GI_a, e_GL, e_GL_a, e_GR, e_GR_a, e_AI, e_AI_a, e_AI_b, e_AB, e_AB_a, e_AB_b, e_AZ, e_AZ_a, e_AZ_b, e_AL, e_AL_a, e_AL_b, e_AR, e_AR_a, e_AR_b, e_Len, e_Len_a, e_CI, e_CI_a, e_CI_b, e_CZ, e_CZ_a, e_And, e_kAnd, e_Or, e_kOr, e_Not, e_kNot, e_B, e_kB, e_T, e_kT, e_NN, e_kNN, e_NewA, e_NewA_a, e_NewC, e_kNewC, e_aN, e_aI, e_aI_a, e_aI_b, e_aL, e_aL_a, e_aL_b, e_aR, e_aR_a, e_aR_b, e_Call, e_kCall, e_CallV, e_kCallV, e_SetI, e_kSetI, e_SetL, e_kSetL, e_SetR, e_kSetR, e_Inc, e_Skip, e_Brk, e_Cnt, e_Ret, e_kRet, e_Ret0, e_Seq, e_kSeq0, e_kSeq1, e_kSeq2, e_kSeqR, e_If, e_kIf, e_Do, e_kDo, e_Sup, e_kN0, e_d3, e_k3a, e_k3b, e_k3c, e_P, e_kPa, e_kPb, e_UA, e_kUAa, e_kUAb, e_kUAc, e_UL, e_kULa, e_kULb, e_kULc, e_UF, e_kUFa, e_kUFb, e_Cp, e_kCp, e_Sw, e_kSwa, e_kSwb0, e_kSwb1, e_kSwbR, e_M1, e_kM1, e_MZ, e_kMZ, e_MN, e_kMN, e_Tv, e_kTv, e_Tc, e_kTc, e_lpS, e_kLp, e_kLpB0, e_kLpB1, e_kLpB2, e_kLpBR, e_kLpU, e_dwS, e_kDwB0, e_kDwC, f_II, f_LL, f_RR, f_IL, f_IR, f_LI, f_LR, f_RI, f_RL, o_iadd, o_isub, o_imul, o_iand, o_ior, o_ixor, o_ladd, o_lsub, o_lmul, o_land, o_lor, o_ishl, o_ishr, o_iushr, o_lshl, o_lshr, o_lcmp, o_i2l, o_l2i, o_i2b, o_i2s, o_lneg, o_ineg, o_imax, o_imin, o_idiv, o_irem, o_ldiv, o_lrem, r_lt, r_le, r_gt, r_ge, r_eq, r_ne, q_lt, q_le, q_gt, q_ge, q_eq, q_ne, decide_eq_true_eq, idI, and_true, true_and, and_false, false_and, or_true, true_or, or_false, false_or, not_true_eq_false, not_false_eq_true, if_true, if_false, ite_self, Bool.not_true, Bool.not_false, Bool.false_eq_true, Bool.true_eq_false, decide_true, decide_false, ne_eq, reduceIte, Nat.reduceEqDiff, Option.some.injEq, Prod.mk.injEq, eq_self, fa_lit, nI_add, pk_mul, nI_ltI, nI_leI, nI_eq, b01, b0, b1, x_hasBit, Nat.reduceLeDiff, Nat.reduceAdd, Nat.reduceMul, Nat.reduceSub, Nat.lt_irrefl, Nat.reduceLT, hD.k, hD.r1, hD.r2, hD.r3, hD.r4, hD.r5, hC.k, hC.r8, hC.r9, hC.r10, hC.r11, hC.r12, hC.r13, hC.r14, z1, z2, a1, a2, a3, a4, c1.1.1, c2.1.1, c3.1.1, c1.1.2.1, c2.1.2.1, c3.1.2.1]
  · rw [v9, if_pos (by omega), show 0 + (5 * day + m - day * 5) = m by omega]
    have := hR 1 m ⟨by decide, hm⟩
    rw [enc_n (by decide) (by decide)] at this
    exact this
  · rw [v10, if_pos (by omega), show 0 + (3 * day + s - day * 3) = s by omega]
    have := hR 2 s ⟨by decide, hs⟩
    rw [enc_n (by decide) (by decide)] at this
    exact this
  · rw [v11, if_pos (by omega), show 0 + (3 * day + s - day * 3) = s by omega]
    have := hR 3 s ⟨by decide, hs⟩
    rw [enc_n (by decide) (by decide)] at this
    exact this
  · rw [v12, if_pos (by omega), show 0 + (24 * day + k - day * 3 * 8) = k by omega]
    have := hR 4 k ⟨by decide, hk1⟩
    rw [enc_n (by decide) (by decide)] at this
    exact this
  · rw [v9, if_neg (by omega)]
    exact hU.1 m hm
  · rw [v10, if_neg (by omega)]
    exact hU.2.1 s hs
  · rw [v11, if_neg (by omega)]
    exact hU.2.2.1 s hs
  · rw [v12, if_neg (by omega)]
    exact hU.2.2.2 k hk1
  · rw [(q.2 (d + 1 + j) (by have := hjk.1; show ¬ (d + 9 ≤ d + 1 + j ∧ d + 1 + j < d + 13); omega)).1]
    exact hR j k hjk
end
