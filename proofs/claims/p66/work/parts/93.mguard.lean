set_option maxRecDepth 100000
set_option maxHeartbeats 1000000
/-! the model's small helpers: bounds, bits, how many bits -/
theorem n_rng (v : Int32) {n : Nat} (hn1 : n < 2 ^ 30) : (lN 0 ≤ v.toInt64 ∧ v.toInt64 ≤ lN n - lN 1) = (nI 0 ≤ v ∧ v < nI n) := by
  have h1 : (lN n - lN 1).toInt = (n : Int) - 1 := by
    rw [fb_subL] <;> rw [lN_toInt (n := n) (by omega), lN_toInt (n := 1) (by decide)] <;> omega
  have h2 := fb_rng v
  rw [fa_le64, fa_le64, fa_le, fa_lt, Int32.toInt_toInt64, h1, lN_toInt (n := 0) (by decide), nI_toInt (n := 0) (by decide), nI_toInt (n := n) (by omega)]
  exact propext (by omega)
theorem n_rngd (v : Int32) {n : Nat} (hn1 : n < 2 ^ 30) : (lN 0 ≤ v.toInt64 ∧ v.toInt64 ≤ lN n) = (nI 0 ≤ v ∧ v < nI (n + 1)) := by
  have h2 := fb_rng v
  rw [fa_le64, fa_le64, fa_le, fa_lt, Int32.toInt_toInt64, lN_toInt (n := n) (by omega), lN_toInt (n := 0) (by decide), nI_toInt (n := 0) (by decide), nI_toInt (n := n + 1) (by omega)]
  exact propext (by omega)
theorem n_shr (b : Nat) {i : Nat} (hb : b < 2 ^ 31) (hi : i < 31) : ((nI b >>> (nI i &&& nI 31)) &&& nI 1 : Int32) = if b.testBit i = true then nI 1 else nI 0 := by
  rw [pk_shrN hb _ i (s_lx i (by omega))]
  have e1 : nI (b / 2 ^ i) &&& nI 1 = nI (b / 2 ^ i % 2) := fa_mask (b / 2 ^ i) 1
  rw [e1, Nat.testBit_eq_decide_div_mod_eq]
  have h2 : b / 2 ^ i % 2 < 2 := Nat.mod_lt _ (by decide)
  rcases (show b / 2 ^ i % 2 = 0 ∨ b / 2 ^ i % 2 = 1 by omega) with z | z
  · rw [z]; rfl
  · rw [z]; rfl
def pop (n : Nat) : Nat := fb_ct (fun i => n.testBit i) 8
def bcE (x : Int32) : Int32 :=
  let a := x - ((x.toUInt32 >>> ((nI 1).toUInt32 &&& Int32.toUInt32 31)).toInt32 &&& nI 1431655765)
  let b := (a &&& nI 858993459) + ((a.toUInt32 >>> ((nI 2).toUInt32 &&& Int32.toUInt32 31)).toInt32 &&& nI 858993459)
  let c := (b + (b.toUInt32 >>> ((nI 4).toUInt32 &&& Int32.toUInt32 31)).toInt32) &&& nI 252645135
  let d := c + (c.toUInt32 >>> ((nI 8).toUInt32 &&& Int32.toUInt32 31)).toInt32
  let e := d + (d.toUInt32 >>> ((nI 16).toUInt32 &&& Int32.toUInt32 31)).toInt32
  e &&& nI 63
theorem bcE_d : ∀ n, n < 256 → bcE (nI n) = nI (pop n) := by decide +kernel
theorem x_bitCount {n : Nat} (hn1 : n < 256) (h : St) : DJ6_bitCount_0f7a4 (sI fr0 0 (nI n)) h = some (nI (pop n), h) := by
  rw [← bcE_d n hn1]
  simp (disch := omega) only [DJ6_bitCount_0f7a4, BJ6_bitCount_0f7a4, ob_t, ob_n, ob_ite, e_cI, e_cL, e_cR, e_vI, e_vL, e_vR, e_d2, e_d2_a, e_d2_b, e_d2z, e_d2z_a, e_d2z_b, e_d1, e_d1_a, e_GI, e_GI_a, e_GL, e_GL_a, e_GR, e_GR_a, e_AI, e_AI_a, e_AI_b, e_AB, e_AB_a, e_AB_b, e_AZ, e_AZ_a, e_AZ_b, e_AL, e_AL_a, e_AL_b, e_AR, e_AR_a, e_AR_b, e_Len, e_Len_a, e_CI, e_CI_a, e_CI_b, e_CZ, e_CZ_a, e_And, e_kAnd, e_Or, e_kOr, e_Not, e_kNot, e_B, e_kB, e_T, e_kT, e_NN, e_kNN, e_NewA, e_NewA_a, e_NewC, e_kNewC, e_aN, e_aI, e_aI_a, e_aI_b, e_aL, e_aL_a, e_aL_b, e_aR, e_aR_a, e_aR_b, e_Call, e_kCall, e_CallV, e_kCallV, e_SetI, e_kSetI, e_SetL, e_kSetL, e_SetR, e_kSetR, e_Inc, e_Skip, e_Brk, e_Cnt, e_Ret, e_kRet, e_Ret0, e_Seq, e_kSeq0, e_kSeq1, e_kSeq2, e_kSeqR, e_If, e_kIf, e_Do, e_kDo, e_Sup, e_kN0, e_d3, e_k3a, e_k3b, e_k3c, e_P, e_kPa, e_kPb, e_UA, e_kUAa, e_kUAb, e_kUAc, e_UL, e_kULa, e_kULb, e_kULc, e_UF, e_kUFa, e_kUFb, e_Cp, e_kCp, e_Sw, e_kSwa, e_kSwb0, e_kSwb1, e_kSwbR, e_M1, e_kM1, e_MZ, e_kMZ, e_MN, e_kMN, e_Tv, e_kTv, e_Tc, e_kTc, e_lpS, e_kLp, e_kLpB0, e_kLpB1, e_kLpB2, e_kLpBR, e_kLpU, e_dwS, e_kDwB0, e_kDwC, f_II, f_LL, f_RR, f_IL, f_IR, f_LI, f_LR, f_RI, f_RL, o_isub, o_iadd, o_iand, o_iushr, fa_lit, and_true, true_and, and_false, false_and, or_true, true_or, or_false, false_or, not_true_eq_false, not_false_eq_true, if_true, if_false, ite_self, Bool.not_true, Bool.not_false, Bool.false_eq_true, Bool.true_eq_false, decide_true, decide_false, ne_eq, reduceIte, Nat.reduceEqDiff, Option.some.injEq, Prod.mk.injEq, eq_self]
  rfl
def lwk (n : Nat) : Nat := n &&& (n - 1)
theorem lwk_lt (n : Nat) (h : n < 256) : lwk n < 256 := Nat.lt_of_le_of_lt Nat.and_le_left h
theorem pop_s : ∀ n, n < 256 → pop n = if n = 0 then 0 else pop (lwk n) + 1 := by decide +kernel
def lwN (n : Nat) : Nat → Nat
  | 0 => n
  | k + 1 => lwk (lwN n k)
theorem lwN_lt {n : Nat} (h : n < 256) : ∀ k, lwN n k < 256 := by
  intro k
  induction k with
  | zero => exact h
  | succ k ih => exact lwk_lt _ ih
theorem lwN_pop {n : Nat} (h : n < 256) : ∀ k, k ≤ pop n → pop (lwN n k) = pop n - k := by
  intro k
  induction k with
  | zero => intro _; rfl
  | succ k ih =>
    intro hk1
    have h1 := ih (by omega)
    have h2 := pop_s _ (lwN_lt h k)
    show pop (lwk (lwN n k)) = _
    by_cases z : lwN n k = 0
    · rw [if_pos z] at h2; omega
    · rw [if_neg z] at h2; omega
