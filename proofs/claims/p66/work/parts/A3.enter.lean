set_option maxRecDepth 100000
set_option maxHeartbeats 1000000
/-! the class's Alone: a state is entered -/
theorem n_shlk {n k : Nat} (hk1 : k < 32) (h : n * 2 ^ k < 2 ^ 32) : nI n <<< (nI k &&& nI 31) = nI (n * 2 ^ k) := pk_shlN _ k (s_lx k hk1) h
theorem n_shrk {n k : Nat} (hk1 : k < 32) (h : n < 2 ^ 31) : nI n >>> (nI k &&& nI 31) = nI (n / 2 ^ k) := pk_shrN h _ k (s_lx k hk1)
theorem n_or2 {a b k : Nat} (h : a < 2 ^ k) : a ||| b * 2 ^ k = a + b * 2 ^ k := by
  rw [Nat.or_comm, Nat.mul_comm b, ← Nat.two_pow_add_eq_or_of_lt h, Nat.add_comm]
theorem n_max (a b : Nat) : (if a < b then nI b else nI a) = nI (max a b) := by
  by_cases z : a < b
  · rw [if_pos z, show max a b = b by omega]
  · rw [if_neg z, show max a b = a by omega]
theorem n_min (a b : Nat) : (if b < a then nI b else nI a) = nI (min a b) := by
  by_cases z : b < a
  · rw [if_pos z, show min a b = b by omega]
  · rw [if_neg z, show min a b = a by omega]
theorem n_ofN (n : Nat) : Int32.ofNat n = nI n := id rfl
def entE (Y : BQ) (c v : Nat) : BQ := if Y.2.2 c = 0 then (fun i => if i = Y.2.1 then c else Y.1 i, Y.2.1 + 1, fun x => if x = c then v + 1 else Y.2.2 x) else Y
def encA (Y : BQ) (i : Nat) : Nat := Y.1 i / 256 + 8 * (Y.1 i % 256) + 2048 * (Y.2.2 (Y.1 i) - 1)
def QS (h : St) (a : Nat) (Y : BQ) : Prop := (∀ e, e < 256 → ∃ b, hi h (a + 8) e = nI b ∧ b < 256 ∧ ∀ x, x < 8 → (b.testBit x = true ↔ Y.2.2 (256 * x + e) ≠ 0)) ∧ (∀ i, i < Y.2.1 → hi h (a + 9) i = nI (encA Y i)) ∧ hi h a 9 = nI Y.2.1
def MHs (h : St) (a : Nat) (mh : Nat → Nat) : Prop := ∀ n, n < 8 → hi h (a + 4) n = nI (mh n)
def fuN (f : Nat → Nat) (k v : Nat) : Nat → Nat := fun j => if j = k then v else f j
theorem stE_ent {P : PT} {s t k x : Nat} {X : BQ} : stE P s t k X x = if okE P s t (X.1 k) x then entE X (toE (X.1 k) x) (X.2.2 (X.1 k)) else X := by
  unfold stE entE
  by_cases z : okE P s t (X.1 k) x
  · by_cases y : X.2.2 (toE (X.1 k) x) = 0
    · rw [if_pos ⟨z, y⟩, if_pos z, if_pos y]
    · rw [if_neg (fun q => y q.2), if_pos z, if_neg y]
  · rw [if_neg (fun q => z q.1), if_neg z]
section
variable {h : St} {a x e v : Nat} {Y : BQ} {mh : Nat → Nat}
theorem x_houseOf {n : Nat} (hn1 : n < 2 ^ 31) : DX0_houseOf (sI fr0 0 (nI n)) h = some (nI (n % 8), h) := by
  have e1 : nI n &&& nI 7 = nI (n % 8) := fa_mask n 3
  simp (disch := omega) only [DX0_houseOf, BX0_houseOf, ob_t, ob_n, ob_ite, e_cI, e_cL, e_cR, e_vI, e_vL, e_vR, e_d2, e_d2_a, e_d2_b, e_d2z, e_d2z_a, e_d2z_b, e_d1, e_d1_a, e_GI, e_GI_a, e_GL, e_GL_a, e_GR, e_GR_a, e_AI, e_AI_a, e_AI_b, e_AB, e_AB_a, e_AB_b, e_AZ, e_AZ_a, e_AZ_b, e_AL, e_AL_a, e_AL_b, e_AR, e_AR_a, e_AR_b, e_Len, e_Len_a, e_CI, e_CI_a, e_CI_b, e_CZ, e_CZ_a, e_And, e_kAnd, e_Or, e_kOr, e_Not, e_kNot, e_B, e_kB, e_T, e_kT, e_NN, e_kNN, e_NewA, e_NewA_a, e_NewC, e_kNewC, e_aN, e_aI, e_aI_a, e_aI_b, e_aL, e_aL_a, e_aL_b, e_aR, e_aR_a, e_aR_b, e_Call, e_kCall, e_CallV, e_kCallV, e_SetI, e_kSetI, e_SetL, e_kSetL, e_SetR, e_kSetR, e_Inc, e_Skip, e_Brk, e_Cnt, e_Ret, e_kRet, e_Ret0, e_Seq, e_kSeq0, e_kSeq1, e_kSeq2, e_kSeqR, e_If, e_kIf, e_Do, e_kDo, e_Sup, e_kN0, e_d3, e_k3a, e_k3b, e_k3c, e_P, e_kPa, e_kPb, e_UA, e_kUAa, e_kUAb, e_kUAc, e_UL, e_kULa, e_kULb, e_kULc, e_UF, e_kUFa, e_kUFb, e_Cp, e_kCp, e_Sw, e_kSwa, e_kSwb0, e_kSwb1, e_kSwbR, e_M1, e_kM1, e_MZ, e_kMZ, e_MN, e_kMN, e_Tv, e_kTv, e_Tc, e_kTc, e_lpS, e_kLp, e_kLpB0, e_kLpB1, e_kLpB2, e_kLpBR, e_kLpU, e_dwS, e_kDwB0, e_kDwC, f_II, f_LL, f_RR, f_IL, f_IR, f_LI, f_LR, f_RI, f_RL, o_iadd, o_isub, o_imul, o_iand, o_ior, o_ixor, o_ladd, o_lsub, o_lmul, o_land, o_lor, o_ishl, o_ishr, o_iushr, o_lshl, o_lshr, o_lcmp, o_i2l, o_l2i, o_i2b, o_i2s, o_lneg, o_ineg, o_imax, o_imin, o_idiv, o_irem, o_ldiv, o_lrem, r_lt, r_le, r_gt, r_ge, r_eq, r_ne, q_lt, q_le, q_gt, q_ge, q_eq, q_ne, decide_eq_true_eq, idI, and_true, true_and, and_false, false_and, or_true, true_or, or_false, false_or, not_true_eq_false, not_false_eq_true, if_true, if_false, ite_self, Bool.not_true, Bool.not_false, Bool.false_eq_true, Bool.true_eq_false, decide_true, decide_false, ne_eq, reduceIte, Nat.reduceEqDiff, Option.some.injEq, Prod.mk.injEq, eq_self, fa_lit, nI_add, pk_mul, nI_ltI, nI_leI, nI_eq, b01, b0, b1, x_hasBit, Nat.reduceLeDiff, Nat.reduceAdd, Nat.reduceMul, Nat.reduceSub, Nat.lt_irrefl, Nat.reduceLT, e1]
theorem x_setOf {n : Nat} (hn1 : n < 2 ^ 31) : DX0_setOf (sI fr0 0 (nI n)) h = some (nI (n / 8 % 256), h) := by
  have e1 : nI n >>> (nI 3 &&& nI 31) = nI (n / 8) := n_shrk (k := 3) (by decide) hn1
  have e2 : nI (n / 8) &&& nI 255 = nI (n / 8 % 256) := fa_mask (n / 8) 8
  simp (disch := omega) only [DX0_setOf, BX0_setOf, ob_t, ob_n, ob_ite, e_cI, e_cL, e_cR, e_vI, e_vL, e_vR, e_d2, e_d2_a, e_d2_b, e_d2z, e_d2z_a, e_d2z_b, e_d1, e_d1_a, e_GI, e_GI_a, e_GL, e_GL_a, e_GR, e_GR_a, e_AI, e_AI_a, e_AI_b, e_AB, e_AB_a, e_AB_b, e_AZ, e_AZ_a, e_AZ_b, e_AL, e_AL_a, e_AL_b, e_AR, e_AR_a, e_AR_b, e_Len, e_Len_a, e_CI, e_CI_a, e_CI_b, e_CZ, e_CZ_a, e_And, e_kAnd, e_Or, e_kOr, e_Not, e_kNot, e_B, e_kB, e_T, e_kT, e_NN, e_kNN, e_NewA, e_NewA_a, e_NewC, e_kNewC, e_aN, e_aI, e_aI_a, e_aI_b, e_aL, e_aL_a, e_aL_b, e_aR, e_aR_a, e_aR_b, e_Call, e_kCall, e_CallV, e_kCallV, e_SetI, e_kSetI, e_SetL, e_kSetL, e_SetR, e_kSetR, e_Inc, e_Skip, e_Brk, e_Cnt, e_Ret, e_kRet, e_Ret0, e_Seq, e_kSeq0, e_kSeq1, e_kSeq2, e_kSeqR, e_If, e_kIf, e_Do, e_kDo, e_Sup, e_kN0, e_d3, e_k3a, e_k3b, e_k3c, e_P, e_kPa, e_kPb, e_UA, e_kUAa, e_kUAb, e_kUAc, e_UL, e_kULa, e_kULb, e_kULc, e_UF, e_kUFa, e_kUFb, e_Cp, e_kCp, e_Sw, e_kSwa, e_kSwb0, e_kSwb1, e_kSwbR, e_M1, e_kM1, e_MZ, e_kMZ, e_MN, e_kMN, e_Tv, e_kTv, e_Tc, e_kTc, e_lpS, e_kLp, e_kLpB0, e_kLpB1, e_kLpB2, e_kLpBR, e_kLpU, e_dwS, e_kDwB0, e_kDwC, f_II, f_LL, f_RR, f_IL, f_IR, f_LI, f_LR, f_RI, f_RL, o_iadd, o_isub, o_imul, o_iand, o_ior, o_ixor, o_ladd, o_lsub, o_lmul, o_land, o_lor, o_ishl, o_ishr, o_iushr, o_lshl, o_lshr, o_lcmp, o_i2l, o_l2i, o_i2b, o_i2s, o_lneg, o_ineg, o_imax, o_imin, o_idiv, o_irem, o_ldiv, o_lrem, r_lt, r_le, r_gt, r_ge, r_eq, r_ne, q_lt, q_le, q_gt, q_ge, q_eq, q_ne, decide_eq_true_eq, idI, and_true, true_and, and_false, false_and, or_true, true_or, or_false, false_or, not_true_eq_false, not_false_eq_true, if_true, if_false, ite_self, Bool.not_true, Bool.not_false, Bool.false_eq_true, Bool.true_eq_false, decide_true, decide_false, ne_eq, reduceIte, Nat.reduceEqDiff, Option.some.injEq, Prod.mk.injEq, eq_self, fa_lit, nI_add, pk_mul, nI_ltI, nI_leI, nI_eq, b01, b0, b1, x_hasBit, Nat.reduceLeDiff, Nat.reduceAdd, Nat.reduceMul, Nat.reduceSub, Nat.lt_irrefl, Nat.reduceLT, e1, e2]
theorem x_markSeen (hA : AS h a) (hQ : QS h a Y) (hx : x < 8) (he : e < 256) : ∃ b, b < 256 ∧ (∀ y, y < 8 → (b.testBit y = true ↔ Y.2.2 (256 * y + e) ≠ 0)) ∧ DX0_markSeen (sI (sI (sR fr0 0 a) 1 (nI x)) 2 (nI e)) h = some (if Y.2.2 (256 * x + e) = 0 then nI 1 else nI 0, wI h (a + 8) e (nI (b ||| 2 ^ x))) := by
  obtain ⟨b, e1, hb, hbit⟩ := hQ.1 e he
  refine ⟨b, hb, hbit, ?_⟩
  have k8 := hA.k8
  have e2 : DX11_cell (sI (sR fr0 0 (a + 8)) 1 (nI e)) h = some (nI b, h) := by
    rw [x_cellN (by rw [k8]) (hA.ne 8) (by rw [k8]; exact he) (by rw [k8]; decide), e1]
  have e3 : DX11_put (sI (sI (sR fr0 0 (a + 8)) 1 (nI e)) 2 (nI (b ||| 2 ^ x))) h = some ((), wI h (a + 8) e (nI (b ||| 2 ^ x))) := x_put (by rw [k8]) (hA.ne 8) (by rw [k8]; exact he) (by rw [k8]; decide)
  have hq := hbit x hx
  by_cases z : Y.2.2 (256 * x + e) = 0
  · have zb : ¬ b.testBit x = true := fun q => hq.mp q z
    simp (disch := omega) only [ob_t, ob_n, ob_ite, e_cI, e_cL, e_cR, e_vI, e_vL, e_vR, e_d2, e_d2_a, e_d2_b, e_d2z, e_d2z_a, e_d2z_b, e_d1, e_d1_a, e_GI, e_GI_a, e_GL, e_GL_a, e_GR, e_GR_a, e_AI, e_AI_a, e_AI_b, e_AB, e_AB_a, e_AB_b, e_AZ, e_AZ_a, e_AZ_b, e_AL, e_AL_a, e_AL_b, e_AR, e_AR_a, e_AR_b, e_Len, e_Len_a, e_CI, e_CI_a, e_CI_b, e_CZ, e_CZ_a, e_And, e_kAnd, e_Or, e_kOr, e_Not, e_kNot, e_B, e_kB, e_T, e_kT, e_NN, e_kNN, e_NewA, e_NewA_a, e_NewC, e_kNewC, e_aN, e_aI, e_aI_a, e_aI_b, e_aL, e_aL_a, e_aL_b, e_aR, e_aR_a, e_aR_b, e_Call, e_kCall, e_CallV, e_kCallV, e_SetI, e_kSetI, e_SetL, e_kSetL, e_SetR, e_kSetR, e_Inc, e_Skip, e_Brk, e_Cnt, e_Ret, e_kRet, e_Ret0, e_Seq, e_kSeq0, e_kSeq1, e_kSeq2, e_kSeqR, e_If, e_kIf, e_Do, e_kDo, e_Sup, e_kN0, e_d3, e_k3a, e_k3b, e_k3c, e_P, e_kPa, e_kPb, e_UA, e_kUAa, e_kUAb, e_kUAc, e_UL, e_kULa, e_kULb, e_kULc, e_UF, e_kUFa, e_kUFb, e_Cp, e_kCp, e_Sw, e_kSwa, e_kSwb0, e_kSwb1, e_kSwbR, e_M1, e_kM1, e_MZ, e_kMZ, e_MN, e_kMN, e_Tv, e_kTv, e_Tc, e_kTc, e_lpS, e_kLp, e_kLpB0, e_kLpB1, e_kLpB2, e_kLpBR, e_kLpU, e_dwS, e_kDwB0, e_kDwC, f_II, f_LL, f_RR, f_IL, f_IR, f_LI, f_LR, f_RI, f_RL, o_iadd, o_isub, o_imul, o_iand, o_ior, o_ixor, o_ladd, o_lsub, o_lmul, o_land, o_lor, o_ishl, o_ishr, o_iushr, o_lshl, o_lshr, o_lcmp, o_i2l, o_l2i, o_i2b, o_i2s, o_lneg, o_ineg, o_imax, o_imin, o_idiv, o_irem, o_ldiv, o_lrem, r_lt, r_le, r_gt, r_ge, r_eq, r_ne, q_lt, q_le, q_gt, q_ge, q_eq, q_ne, decide_eq_true_eq, idI, and_true, true_and, and_false, false_and, or_true, true_or, or_false, false_or, not_true_eq_false, not_false_eq_true, if_true, if_false, ite_self, Bool.not_true, Bool.not_false, Bool.false_eq_true, Bool.true_eq_false, decide_true, decide_false, ne_eq, reduceIte, Nat.reduceEqDiff, Option.some.injEq, Prod.mk.injEq, eq_self, fa_lit, nI_add, pk_mul, nI_ltI, nI_leI, nI_eq, b01, b0, b1, x_hasBit, Nat.reduceLeDiff, Nat.reduceAdd, Nat.reduceMul, Nat.reduceSub, Nat.lt_irrefl, Nat.reduceLT, n_inb, nI_clamp, w_hr, w_hk, w_hl, w_eq, w_ne, wl_hr, wl_hk, wl_hi, wl_eq, wl_ne, hA.k, hA.k1, hA.k2, hA.k3, hA.k4, hA.k5, hA.k6, hA.k7, hA.k8, hA.k9, hA.k10, hA.k11, hA.k12, hA.r0, hA.r1, hA.r2, hA.r3, hA.r4, hA.r5, hA.r6, hA.r7, hA.r8, hA.r10, hA.r11, hA.r12, f_ss, f_sR, stI, fI, DX0_markSeen, BX0_markSeen, e2, n_shl, fa_or, e3, zb, z]
  · have zb : b.testBit x = true := hq.mpr z
    simp (disch := omega) only [ob_t, ob_n, ob_ite, e_cI, e_cL, e_cR, e_vI, e_vL, e_vR, e_d2, e_d2_a, e_d2_b, e_d2z, e_d2z_a, e_d2z_b, e_d1, e_d1_a, e_GI, e_GI_a, e_GL, e_GL_a, e_GR, e_GR_a, e_AI, e_AI_a, e_AI_b, e_AB, e_AB_a, e_AB_b, e_AZ, e_AZ_a, e_AZ_b, e_AL, e_AL_a, e_AL_b, e_AR, e_AR_a, e_AR_b, e_Len, e_Len_a, e_CI, e_CI_a, e_CI_b, e_CZ, e_CZ_a, e_And, e_kAnd, e_Or, e_kOr, e_Not, e_kNot, e_B, e_kB, e_T, e_kT, e_NN, e_kNN, e_NewA, e_NewA_a, e_NewC, e_kNewC, e_aN, e_aI, e_aI_a, e_aI_b, e_aL, e_aL_a, e_aL_b, e_aR, e_aR_a, e_aR_b, e_Call, e_kCall, e_CallV, e_kCallV, e_SetI, e_kSetI, e_SetL, e_kSetL, e_SetR, e_kSetR, e_Inc, e_Skip, e_Brk, e_Cnt, e_Ret, e_kRet, e_Ret0, e_Seq, e_kSeq0, e_kSeq1, e_kSeq2, e_kSeqR, e_If, e_kIf, e_Do, e_kDo, e_Sup, e_kN0, e_d3, e_k3a, e_k3b, e_k3c, e_P, e_kPa, e_kPb, e_UA, e_kUAa, e_kUAb, e_kUAc, e_UL, e_kULa, e_kULb, e_kULc, e_UF, e_kUFa, e_kUFb, e_Cp, e_kCp, e_Sw, e_kSwa, e_kSwb0, e_kSwb1, e_kSwbR, e_M1, e_kM1, e_MZ, e_kMZ, e_MN, e_kMN, e_Tv, e_kTv, e_Tc, e_kTc, e_lpS, e_kLp, e_kLpB0, e_kLpB1, e_kLpB2, e_kLpBR, e_kLpU, e_dwS, e_kDwB0, e_kDwC, f_II, f_LL, f_RR, f_IL, f_IR, f_LI, f_LR, f_RI, f_RL, o_iadd, o_isub, o_imul, o_iand, o_ior, o_ixor, o_ladd, o_lsub, o_lmul, o_land, o_lor, o_ishl, o_ishr, o_iushr, o_lshl, o_lshr, o_lcmp, o_i2l, o_l2i, o_i2b, o_i2s, o_lneg, o_ineg, o_imax, o_imin, o_idiv, o_irem, o_ldiv, o_lrem, r_lt, r_le, r_gt, r_ge, r_eq, r_ne, q_lt, q_le, q_gt, q_ge, q_eq, q_ne, decide_eq_true_eq, idI, and_true, true_and, and_false, false_and, or_true, true_or, or_false, false_or, not_true_eq_false, not_false_eq_true, if_true, if_false, ite_self, Bool.not_true, Bool.not_false, Bool.false_eq_true, Bool.true_eq_false, decide_true, decide_false, ne_eq, reduceIte, Nat.reduceEqDiff, Option.some.injEq, Prod.mk.injEq, eq_self, fa_lit, nI_add, pk_mul, nI_ltI, nI_leI, nI_eq, b01, b0, b1, x_hasBit, Nat.reduceLeDiff, Nat.reduceAdd, Nat.reduceMul, Nat.reduceSub, Nat.lt_irrefl, Nat.reduceLT, n_inb, nI_clamp, w_hr, w_hk, w_hl, w_eq, w_ne, wl_hr, wl_hk, wl_hi, wl_eq, wl_ne, hA.k, hA.k1, hA.k2, hA.k3, hA.k4, hA.k5, hA.k6, hA.k7, hA.k8, hA.k9, hA.k10, hA.k11, hA.k12, hA.r0, hA.r1, hA.r2, hA.r3, hA.r4, hA.r5, hA.r6, hA.r7, hA.r8, hA.r10, hA.r11, hA.r12, f_ss, f_sR, stI, fI, DX0_markSeen, BX0_markSeen, e2, n_shl, fa_or, e3, zb, z]
theorem x_enter (hA : AS h a) (hQ : QS h a Y) (hM : MHs h a mh) (hmh : ∀ n, mh n ≤ 8) (hx : x < 8) (he : e < 256) (hv : v < 4096) (hn1 : Y.2.2 (256 * x + e) = 0 → Y.2.1 < 2048) (hW : ∀ i, i < Y.2.1 → Y.2.2 (Y.1 i) ≠ 0) : ∃ g, DX0_enter (sI (sI (sI (sR fr0 0 a) 1 (nI x)) 2 (nI e)) 3 (nI v)) h = some ((), g) ∧ QS g a (entE Y (256 * x + e) v) ∧ MHs g a (if Y.2.2 (256 * x + e) = 0 ∧ v < 8 then fuN mh v (max (mh v) (pop e)) else mh) ∧ Ch (fun o => o = a ∨ o = a + 4 ∨ o = a + 8 ∨ o = a + 9) h g ∧ ∀ k, k ≠ 9 → hi g a k = hi h a k := by
  obtain ⟨b, hb, hbit, e1⟩ := x_markSeen hA hQ hx he
  have hQ9 := hQ.2.2
  by_cases z : Y.2.2 (256 * x + e) = 0
  · rw [if_pos z] at e1
    have hl := hn1 z
    have hq : ∀ i, i < Y.2.1 → Y.1 i ≠ 256 * x + e := fun i hi1 y => hW i hi1 (by rw [y]; exact z)
    obtain ⟨g1, hg1⟩ : ∃ g, g = wI h (a + 8) e (nI (b ||| 2 ^ x)) := ⟨_, rfl⟩
    have hA1 : AS g1 a := by rw [hg1]; exact hA.to ⟨rfl, rfl, rfl, rfl⟩
    have k9 := hA1.k9
    have k4 := hA1.k4
    have v9 : hi g1 a 9 = nI Y.2.1 := by rw [hg1, w_ne (by omega)]; exact hQ9
    have e0 : x ||| e * 2 ^ 3 ||| v * 2 ^ 11 = x + 8 * e + 2048 * v := by
      have h1 : x ||| e * 2 ^ 3 = x + e * 2 ^ 3 := n_or2 (k := 3) (by omega)
      have h2 : (x + e * 2 ^ 3) ||| v * 2 ^ 11 = (x + e * 2 ^ 3) + v * 2 ^ 11 := n_or2 (k := 11) (by omega)
      rw [h1, h2]
      omega
    obtain ⟨g2, hg2⟩ : ∃ g, g = wI (wI g1 (a + 9) Y.2.1 (nI (x + 8 * e + 2048 * v))) a 9 (nI (Y.2.1 + 1)) := ⟨_, rfl⟩
    have e2 : DX11_put (sI (sI (sR fr0 0 (a + 9)) 1 (nI Y.2.1)) 2 (nI (x + 8 * e + 2048 * v))) g1 = some ((), wI g1 (a + 9) Y.2.1 (nI (x + 8 * e + 2048 * v))) := x_put (by rw [k9]) (hA.ne 9) (by rw [k9]; exact hl) (by rw [k9]; decide)
    have hA2 : AS g2 a := by rw [hg2]; exact hA1.to ⟨rfl, rfl, rfl, rfl⟩
    have k42 := hA2.k4
    have c2 : Ch (fun o => o = a ∨ o = a + 4 ∨ o = a + 8 ∨ o = a + 9) h g2 := by
      rw [hg2, hg1]
      exact ((Ch.w (D := fun o => o = a ∨ o = a + 4 ∨ o = a + 8 ∨ o = a + 9) (by omega) _ _ _).tr (Ch.w (by omega) _ _ _)).tr (Ch.w (by omega) _ _ _)
    have hY : entE Y (256 * x + e) v = (fun i => if i = Y.2.1 then 256 * x + e else Y.1 i, Y.2.1 + 1, fun y => if y = 256 * x + e then v + 1 else Y.2.2 y) := by unfold entE; rw [if_pos z]
    have hQ2 : QS g2 a (entE Y (256 * x + e) v) := by
      rw [hY]
      refine ⟨fun e' he' => ?_, fun i hi1 => ?_, ?_⟩
      · by_cases ze : e' = e
        · subst ze
          refine ⟨b ||| 2 ^ x, by rw [hg2, hg1, w_ne (by omega), w_ne (by omega)]; exact w_eq _ _ _ _, or_lt (k := 8) hb (pow_lt hx), fun y hy => ?_⟩
          show _ ↔ (if 256 * y + e' = 256 * x + e' then v + 1 else Y.2.2 (256 * y + e')) ≠ 0
          rw [fb_bit_set]
          by_cases zy : y = x
          · subst zy; simp
          · rw [if_neg (by omega)]
            simp [zy]
            exact hbit y hy
        · obtain ⟨b', h1, h2, h3⟩ := hQ.1 e' he'
          refine ⟨b', by rw [hg2, hg1, w_ne (by omega), w_ne (by omega), w_ne (by omega)]; exact h1, h2, fun y hy => ?_⟩
          show _ ↔ (if 256 * y + e' = 256 * x + e then v + 1 else Y.2.2 (256 * y + e')) ≠ 0
          rw [if_neg (by omega)]
          exact h3 y hy
      · have hi1 : i < Y.2.1 + 1 := hi1
        unfold encA
        show hi g2 (a + 9) i = nI ((if i = Y.2.1 then 256 * x + e else Y.1 i) / 256 + 8 * ((if i = Y.2.1 then 256 * x + e else Y.1 i) % 256) + 2048 * ((if (if i = Y.2.1 then 256 * x + e else Y.1 i) = 256 * x + e then v + 1 else Y.2.2 (if i = Y.2.1 then 256 * x + e else Y.1 i)) - 1))
        by_cases zi : i = Y.2.1
        · rw [if_pos zi, if_pos rfl, hg2, w_ne (by omega), zi, w_eq]
          congr 1
          omega
        · rw [if_neg zi, if_neg (hq i (by omega)), hg2, hg1, w_ne (by omega), w_ne (by omega), w_ne (by omega)]
          exact hQ.2.1 i (by omega)
      · rw [hg2]; exact w_eq _ _ _ _
    have e4 : nI Y.2.1 + nI 1 = nI (Y.2.1 + 1) := nI_add _ _
    have hp8 := pop_8 e he
    have hnn : ¬ 2048 ≤ Y.2.1 := by omega
    have ep : nI x ||| nI e <<< (nI 3 &&& nI 31) ||| nI v <<< (nI 11 &&& nI 31) = nI (x + 8 * e + 2048 * v) := by
      rw [n_shlk (by decide) (by omega), n_shlk (by decide) (by omega), fa_or, fa_or, e0]
    by_cases zv : v < 8
    · rw [if_pos ⟨z, zv⟩]
      have hmv := hmh v
      have e5 : DX11_cell (sI (sR fr0 0 (a + 4)) 1 (nI v)) g2 = some (nI (mh v), g2) := by
        rw [x_cellN (by rw [k42]) (hA.ne 4) (by rw [k42]; exact zv) (by rw [k42]; decide), hg2, hg1, w_ne (by omega), w_ne (by omega), w_ne (by omega), hM v zv]
      have e7 : DX11_put (sI (sI (sR fr0 0 (a + 4)) 1 (nI v)) 2 (nI (max (mh v) (pop e)))) g2 = some ((), wI g2 (a + 4) v (nI (max (mh v) (pop e)))) := x_put (by rw [k42]) (hA.ne 4) (by rw [k42]; exact zv) (by rw [k42]; decide)
      refine ⟨wI g2 (a + 4) v (nI (max (mh v) (pop e))), ?_, ?_, fun n hn => ?_, c2.tr (Ch.w (by omega) _ _ _), fun k hk1 => ?_⟩
      · rw [hg2] at e5 e7
        rw [hg2]
        rw [hg1] at e5 e7 e2 v9
        rw [hg1]
        simp (disch := omega) only [ob_t, ob_n, ob_ite, e_cI, e_cL, e_cR, e_vI, e_vL, e_vR, e_d2, e_d2_a, e_d2_b, e_d2z, e_d2z_a, e_d2z_b, e_d1, e_d1_a, e_GI, e_GI_a, e_GL, e_GL_a, e_GR, e_GR_a, e_AI, e_AI_a, e_AI_b, e_AB, e_AB_a, e_AB_b, e_AZ, e_AZ_a, e_AZ_b, e_AL, e_AL_a, e_AL_b, e_AR, e_AR_a, e_AR_b, e_Len, e_Len_a, e_CI, e_CI_a, e_CI_b, e_CZ, e_CZ_a, e_And, e_kAnd, e_Or, e_kOr, e_Not, e_kNot, e_B, e_kB, e_T, e_kT, e_NN, e_kNN, e_NewA, e_NewA_a, e_NewC, e_kNewC, e_aN, e_aI, e_aI_a, e_aI_b, e_aL, e_aL_a, e_aL_b, e_aR, e_aR_a, e_aR_b, e_Call, e_kCall, e_CallV, e_kCallV, e_SetI, e_kSetI, e_SetL, e_kSetL, e_SetR, e_kSetR, e_Inc, e_Skip, e_Brk, e_Cnt, e_Ret, e_kRet, e_Ret0, e_Seq, e_kSeq0, e_kSeq1, e_kSeq2, e_kSeqR, e_If, e_kIf, e_Do, e_kDo, e_Sup, e_kN0, e_d3, e_k3a, e_k3b, e_k3c, e_P, e_kPa, e_kPb, e_UA, e_kUAa, e_kUAb, e_kUAc, e_UL, e_kULa, e_kULb, e_kULc, e_UF, e_kUFa, e_kUFb, e_Cp, e_kCp, e_Sw, e_kSwa, e_kSwb0, e_kSwb1, e_kSwbR, e_M1, e_kM1, e_MZ, e_kMZ, e_MN, e_kMN, e_Tv, e_kTv, e_Tc, e_kTc, e_lpS, e_kLp, e_kLpB0, e_kLpB1, e_kLpB2, e_kLpBR, e_kLpU, e_dwS, e_kDwB0, e_kDwC, f_II, f_LL, f_RR, f_IL, f_IR, f_LI, f_LR, f_RI, f_RL, o_iadd, o_isub, o_imul, o_iand, o_ior, o_ixor, o_ladd, o_lsub, o_lmul, o_land, o_lor, o_ishl, o_ishr, o_iushr, o_lshl, o_lshr, o_lcmp, o_i2l, o_l2i, o_i2b, o_i2s, o_lneg, o_ineg, o_imax, o_imin, o_idiv, o_irem, o_ldiv, o_lrem, r_lt, r_le, r_gt, r_ge, r_eq, r_ne, q_lt, q_le, q_gt, q_ge, q_eq, q_ne, decide_eq_true_eq, idI, and_true, true_and, and_false, false_and, or_true, true_or, or_false, false_or, not_true_eq_false, not_false_eq_true, if_true, if_false, ite_self, Bool.not_true, Bool.not_false, Bool.false_eq_true, Bool.true_eq_false, decide_true, decide_false, ne_eq, reduceIte, Nat.reduceEqDiff, Option.some.injEq, Prod.mk.injEq, eq_self, fa_lit, nI_add, pk_mul, nI_ltI, nI_leI, nI_eq, b01, b0, b1, x_hasBit, Nat.reduceLeDiff, Nat.reduceAdd, Nat.reduceMul, Nat.reduceSub, Nat.lt_irrefl, Nat.reduceLT, n_inb, nI_clamp, w_hr, w_hk, w_hl, w_eq, w_ne, wl_hr, wl_hk, wl_hi, wl_eq, wl_ne, hA.k, hA.k1, hA.k2, hA.k3, hA.k4, hA.k5, hA.k6, hA.k7, hA.k8, hA.k9, hA.k10, hA.k11, hA.k12, hA.r0, hA.r1, hA.r2, hA.r3, hA.r4, hA.r5, hA.r6, hA.r7, hA.r8, hA.r10, hA.r11, hA.r12, f_ss, f_sR, stI, fI, DX0_enter, BX0_enter, e1, v9, hQ9, hnn, ep, e2, e4, zv, e5, x_bitCount, n_max, e7, n_ofN]
      · refine ⟨fun e' he' => ?_, fun i hi1 => ?_, ?_⟩
        · obtain ⟨b', h1, h2⟩ := hQ2.1 e' he'
          exact ⟨b', by rw [w_ne (by omega)]; exact h1, h2⟩
        · rw [w_ne (by omega)]; exact hQ2.2.1 i hi1
        · rw [w_ne (by omega)]; exact hQ2.2.2
      · unfold fuN
        by_cases zn : n = v
        · rw [if_pos zn, zn]; exact w_eq _ _ _ _
        · rw [if_neg zn, w_ne (by omega), hg2, hg1, w_ne (by omega), w_ne (by omega), w_ne (by omega)]; exact hM n hn
      · rw [w_ne (by omega), hg2, hg1, w_ne (by omega), w_ne (by omega), w_ne (by omega)]
    · rw [if_neg (fun q => zv q.2)]
      refine ⟨g2, ?_, hQ2, fun n hn => ?_, c2, fun k hk1 => ?_⟩
      · rw [hg2]
        rw [hg1] at e2 v9
        rw [hg1]
        simp (disch := omega) only [ob_t, ob_n, ob_ite, e_cI, e_cL, e_cR, e_vI, e_vL, e_vR, e_d2, e_d2_a, e_d2_b, e_d2z, e_d2z_a, e_d2z_b, e_d1, e_d1_a, e_GI, e_GI_a, e_GL, e_GL_a, e_GR, e_GR_a, e_AI, e_AI_a, e_AI_b, e_AB, e_AB_a, e_AB_b, e_AZ, e_AZ_a, e_AZ_b, e_AL, e_AL_a, e_AL_b, e_AR, e_AR_a, e_AR_b, e_Len, e_Len_a, e_CI, e_CI_a, e_CI_b, e_CZ, e_CZ_a, e_And, e_kAnd, e_Or, e_kOr, e_Not, e_kNot, e_B, e_kB, e_T, e_kT, e_NN, e_kNN, e_NewA, e_NewA_a, e_NewC, e_kNewC, e_aN, e_aI, e_aI_a, e_aI_b, e_aL, e_aL_a, e_aL_b, e_aR, e_aR_a, e_aR_b, e_Call, e_kCall, e_CallV, e_kCallV, e_SetI, e_kSetI, e_SetL, e_kSetL, e_SetR, e_kSetR, e_Inc, e_Skip, e_Brk, e_Cnt, e_Ret, e_kRet, e_Ret0, e_Seq, e_kSeq0, e_kSeq1, e_kSeq2, e_kSeqR, e_If, e_kIf, e_Do, e_kDo, e_Sup, e_kN0, e_d3, e_k3a, e_k3b, e_k3c, e_P, e_kPa, e_kPb, e_UA, e_kUAa, e_kUAb, e_kUAc, e_UL, e_kULa, e_kULb, e_kULc, e_UF, e_kUFa, e_kUFb, e_Cp, e_kCp, e_Sw, e_kSwa, e_kSwb0, e_kSwb1, e_kSwbR, e_M1, e_kM1, e_MZ, e_kMZ, e_MN, e_kMN, e_Tv, e_kTv, e_Tc, e_kTc, e_lpS, e_kLp, e_kLpB0, e_kLpB1, e_kLpB2, e_kLpBR, e_kLpU, e_dwS, e_kDwB0, e_kDwC, f_II, f_LL, f_RR, f_IL, f_IR, f_LI, f_LR, f_RI, f_RL, o_iadd, o_isub, o_imul, o_iand, o_ior, o_ixor, o_ladd, o_lsub, o_lmul, o_land, o_lor, o_ishl, o_ishr, o_iushr, o_lshl, o_lshr, o_lcmp, o_i2l, o_l2i, o_i2b, o_i2s, o_lneg, o_ineg, o_imax, o_imin, o_idiv, o_irem, o_ldiv, o_lrem, r_lt, r_le, r_gt, r_ge, r_eq, r_ne, q_lt, q_le, q_gt, q_ge, q_eq, q_ne, decide_eq_true_eq, idI, and_true, true_and, and_false, false_and, or_true, true_or, or_false, false_or, not_true_eq_false, not_false_eq_true, if_true, if_false, ite_self, Bool.not_true, Bool.not_false, Bool.false_eq_true, Bool.true_eq_false, decide_true, decide_false, ne_eq, reduceIte, Nat.reduceEqDiff, Option.some.injEq, Prod.mk.injEq, eq_self, fa_lit, nI_add, pk_mul, nI_ltI, nI_leI, nI_eq, b01, b0, b1, x_hasBit, Nat.reduceLeDiff, Nat.reduceAdd, Nat.reduceMul, Nat.reduceSub, Nat.lt_irrefl, Nat.reduceLT, n_inb, nI_clamp, w_hr, w_hk, w_hl, w_eq, w_ne, wl_hr, wl_hk, wl_hi, wl_eq, wl_ne, hA.k, hA.k1, hA.k2, hA.k3, hA.k4, hA.k5, hA.k6, hA.k7, hA.k8, hA.k9, hA.k10, hA.k11, hA.k12, hA.r0, hA.r1, hA.r2, hA.r3, hA.r4, hA.r5, hA.r6, hA.r7, hA.r8, hA.r10, hA.r11, hA.r12, f_ss, f_sR, stI, fI, DX0_enter, BX0_enter, e1, v9, hQ9, hnn, ep, e2, e4, zv, n_ofN]
      · rw [hg2, hg1, w_ne (by omega), w_ne (by omega), w_ne (by omega)]; exact hM n hn
      · rw [hg2, hg1, w_ne (by omega), w_ne (by omega), w_ne (by omega)]
  · rw [if_neg z] at e1
    have hb1 : b ||| 2 ^ x = b := by
      apply Nat.eq_of_testBit_eq
      intro n
      rw [fb_bit_set]
      by_cases zn : n = x
      · subst zn; simp [(hbit n hx).mpr z]
      · simp [zn]
    have hY : entE Y (256 * x + e) v = Y := by unfold entE; rw [if_neg z]
    rw [hY, if_neg (fun q => z q.1)]
    refine ⟨wI h (a + 8) e (nI (b ||| 2 ^ x)), ?_, ⟨fun e' he' => ?_, fun i hi1 => ?_, ?_⟩, fun n hn => ?_, Ch.w (by omega) _ _ _, fun k hk1 => ?_⟩
    · simp (disch := omega) only [ob_t, ob_n, ob_ite, e_cI, e_cL, e_cR, e_vI, e_vL, e_vR, e_d2, e_d2_a, e_d2_b, e_d2z, e_d2z_a, e_d2z_b, e_d1, e_d1_a, e_GI, e_GI_a, e_GL, e_GL_a, e_GR, e_GR_a, e_AI, e_AI_a, e_AI_b, e_AB, e_AB_a, e_AB_b, e_AZ, e_AZ_a, e_AZ_b, e_AL, e_AL_a, e_AL_b, e_AR, e_AR_a, e_AR_b, e_Len, e_Len_a, e_CI, e_CI_a, e_CI_b, e_CZ, e_CZ_a, e_And, e_kAnd, e_Or, e_kOr, e_Not, e_kNot, e_B, e_kB, e_T, e_kT, e_NN, e_kNN, e_NewA, e_NewA_a, e_NewC, e_kNewC, e_aN, e_aI, e_aI_a, e_aI_b, e_aL, e_aL_a, e_aL_b, e_aR, e_aR_a, e_aR_b, e_Call, e_kCall, e_CallV, e_kCallV, e_SetI, e_kSetI, e_SetL, e_kSetL, e_SetR, e_kSetR, e_Inc, e_Skip, e_Brk, e_Cnt, e_Ret, e_kRet, e_Ret0, e_Seq, e_kSeq0, e_kSeq1, e_kSeq2, e_kSeqR, e_If, e_kIf, e_Do, e_kDo, e_Sup, e_kN0, e_d3, e_k3a, e_k3b, e_k3c, e_P, e_kPa, e_kPb, e_UA, e_kUAa, e_kUAb, e_kUAc, e_UL, e_kULa, e_kULb, e_kULc, e_UF, e_kUFa, e_kUFb, e_Cp, e_kCp, e_Sw, e_kSwa, e_kSwb0, e_kSwb1, e_kSwbR, e_M1, e_kM1, e_MZ, e_kMZ, e_MN, e_kMN, e_Tv, e_kTv, e_Tc, e_kTc, e_lpS, e_kLp, e_kLpB0, e_kLpB1, e_kLpB2, e_kLpBR, e_kLpU, e_dwS, e_kDwB0, e_kDwC, f_II, f_LL, f_RR, f_IL, f_IR, f_LI, f_LR, f_RI, f_RL, o_iadd, o_isub, o_imul, o_iand, o_ior, o_ixor, o_ladd, o_lsub, o_lmul, o_land, o_lor, o_ishl, o_ishr, o_iushr, o_lshl, o_lshr, o_lcmp, o_i2l, o_l2i, o_i2b, o_i2s, o_lneg, o_ineg, o_imax, o_imin, o_idiv, o_irem, o_ldiv, o_lrem, r_lt, r_le, r_gt, r_ge, r_eq, r_ne, q_lt, q_le, q_gt, q_ge, q_eq, q_ne, decide_eq_true_eq, idI, and_true, true_and, and_false, false_and, or_true, true_or, or_false, false_or, not_true_eq_false, not_false_eq_true, if_true, if_false, ite_self, Bool.not_true, Bool.not_false, Bool.false_eq_true, Bool.true_eq_false, decide_true, decide_false, ne_eq, reduceIte, Nat.reduceEqDiff, Option.some.injEq, Prod.mk.injEq, eq_self, fa_lit, nI_add, pk_mul, nI_ltI, nI_leI, nI_eq, b01, b0, b1, x_hasBit, Nat.reduceLeDiff, Nat.reduceAdd, Nat.reduceMul, Nat.reduceSub, Nat.lt_irrefl, Nat.reduceLT, n_inb, nI_clamp, w_hr, w_hk, w_hl, w_eq, w_ne, wl_hr, wl_hk, wl_hi, wl_eq, wl_ne, hA.k, hA.k1, hA.k2, hA.k3, hA.k4, hA.k5, hA.k6, hA.k7, hA.k8, hA.k9, hA.k10, hA.k11, hA.k12, hA.r0, hA.r1, hA.r2, hA.r3, hA.r4, hA.r5, hA.r6, hA.r7, hA.r8, hA.r10, hA.r11, hA.r12, f_ss, f_sR, stI, fI, DX0_enter, BX0_enter, e1]
    · by_cases ze : e' = e
      · subst ze
        exact ⟨b, by rw [w_eq, hb1], hb, hbit⟩
      · rw [w_ne (by omega)]
        exact hQ.1 e' he'
    · rw [w_ne (by omega)]; exact hQ.2.1 i hi1
    · rw [w_ne (by omega)]; exact hQ9
    · rw [w_ne (by omega)]; exact hM n hn
    · rw [w_ne (by omega)]
end
