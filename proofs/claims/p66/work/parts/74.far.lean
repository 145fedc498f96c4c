set_option maxRecDepth 100000
set_option maxHeartbeats 1000000
/-! the fewest WAYS, in the class -/
theorem loop_x {α : Type} {cn : Fr → Fr} {C : Cd} {B U : Sm α} {f : Fr} {h : St} (F : Nat → Fr) (I : Nat → St → Prop) (Q : (Nat ⊕ α) × Fr × St → Prop) (N : Nat) (h0 : cn f = F 0) (hI : I 0 h) (h1 : ∀ k g, k < N → I k g → (∃ g', lpS cn C B U (F k, g) = some (.inl (F (k + 1), g')) ∧ I (k + 1) g') ∨ ∃ o, lpS cn C B U (F k, g) = some (.inr o) ∧ Q o) (h2 : ∀ g, I N g → ∃ o, lpS cn C B U (F N, g) = some (.inr o) ∧ Q o) : ∃ o, (dLoop cn C B U : Sm α) f h = some o ∧ Q o := by
  rw [e_Loop, h0]
  exact iter_ind0 (B := lpS cn C B U) (s0 := (F 0, h)) (fun k s => ∃ g, s = (F k, g) ∧ I k g) Q N ⟨h, rfl, hI⟩ (fun k s hk hs => by
    obtain ⟨g, rfl, q⟩ := hs
    rcases h1 k g hk q with ⟨g', e, q'⟩ | ⟨o, e, q'⟩
    · exact Or.inl ⟨_, e, g', rfl, q'⟩
    · exact Or.inr ⟨o, e, q'⟩) (fun s hs => by
    obtain ⟨g, rfl, q⟩ := hs
    exact h2 g q)
/-- who is beside whom -/
def Adj (P : PT) (a b : Nat) : Prop := ∃ k, k < P 0 5 ∧ ((P 2 k = a ∧ P 3 k = b) ∨ (P 3 k = a ∧ P 2 k = b))
theorem doN_bit (P : PT) (x lost y : Nat) : ∀ n, (doN P x lost n).testBit y = true ↔ ∃ k, k < n ∧ k + 1 ≠ lost ∧ ((P 2 k = x ∧ P 3 k = y) ∨ (P 3 k = x ∧ P 2 k = y)) := by
  intro n
  induction n with
  | zero => simp [doN]
  | succ n ih =>
    unfold doN
    rw [Nat.testBit_or, Nat.testBit_or, Bool.or_eq_true, Bool.or_eq_true, ih]
    have e1 : ∀ (c : Prop) (dc : Decidable c) (z : Nat), ((@ite _ c dc (2 ^ z) 0).testBit y = true) ↔ (c ∧ z = y) := by
      intro c dc z
      by_cases hc : c
      · rw [if_pos hc, Nat.testBit_two_pow]; simp [hc]
      · rw [if_neg hc]; simp [hc]
    rw [e1, e1]
    refine ⟨fun hh => ?_, fun hh => ?_⟩
    · rcases hh with (⟨k, h1, h2, h3⟩ | ⟨⟨h1, h2⟩, h3⟩) | ⟨⟨h1, h2⟩, h3⟩
      · exact ⟨k, by omega, h2, h3⟩
      · exact ⟨n, by omega, h1, Or.inl ⟨h2, h3⟩⟩
      · exact ⟨n, by omega, h1, Or.inr ⟨h2, h3⟩⟩
    · obtain ⟨k, h1, h2, h3⟩ := hh
      by_cases hkn : k = n
      · subst hkn
        rcases h3 with ⟨h3, h4⟩ | ⟨h3, h4⟩
        · exact Or.inl (Or.inr ⟨⟨h2, h3⟩, h4⟩)
        · exact Or.inr ⟨⟨h2, h3⟩, h4⟩
      · exact Or.inl (Or.inl ⟨k, by omega, h2, h3⟩)
theorem door_adj (P : PT) (x y : Nat) : (doors P x 0).testBit y = true ↔ Adj P x y := by
  unfold doors Adj
  rw [doN_bit]
  exact ⟨fun ⟨k, h1, _, h3⟩ => ⟨k, h1, h3⟩, fun ⟨k, h1, h3⟩ => ⟨k, h1, by omega, h3⟩⟩
def nxN (P : PT) (S : Nat) : Nat → Nat
  | 0 => 0
  | a + 1 => if S.testBit a = true then nxN P S a ||| doors P a 0 else nxN P S a
theorem nxN_bit (P : PT) (S y : Nat) : ∀ n, (nxN P S n).testBit y = true ↔ ∃ x, x < n ∧ S.testBit x = true ∧ Adj P x y := by
  intro n
  induction n with
  | zero => simp [nxN]
  | succ n ih =>
    unfold nxN
    split
    · rename_i hb
      rw [Nat.testBit_or, Bool.or_eq_true, ih, door_adj]
      refine ⟨fun hh => ?_, fun ⟨x, h1, h2, h3⟩ => ?_⟩
      · rcases hh with ⟨x, h1, h2, h3⟩ | h1
        · exact ⟨x, by omega, h2, h3⟩
        · exact ⟨n, by omega, hb, h1⟩
      · by_cases z : x = n
        · subst z; exact Or.inr h3
        · exact Or.inl ⟨x, by omega, h2, h3⟩
    · rename_i hb
      rw [ih]
      exact ⟨fun ⟨x, h1, h2, h3⟩ => ⟨x, by omega, h2, h3⟩, fun ⟨x, h1, h2, h3⟩ => ⟨x, by
        have : x ≠ n := fun z => hb (z ▸ h2)
        omega, h2, h3⟩⟩
def reN (P : PT) (a : Nat) : Nat → Nat
  | 0 => 2 ^ a
  | k + 1 => reN P a k ||| nxN P (reN P a k) (P 0 4)
section
variable {h : St} {c p : Nat} {S P : PT}
theorem x_doors0 (hG : PG h p P) {a : Nat} (ha : a < 2 ^ 31) : DX5_doorsOf (sI (sI (sR fr0 0 p) 1 (nI a)) 2 (-nI 1)) h = some (nI (doors P a 0), h) := by
  have := x_doorsOf hG.s hG.r hG.w (a := a) (lost := 0) ha (by decide)
  rw [show nI 0 + -nI 1 = (-nI 1 : Int32) by decide] at this
  exact this
theorem doors_lt (hW : WFP P) (a lost : Nat) : doors P a lost < 2 ^ 8 := doN_lt hW a lost _ (Nat.le_refl _)
theorem nxN_lt (hW : WFP P) (S : Nat) : ∀ n, nxN P S n < 2 ^ 8 := by
  intro n
  induction n with
  | zero => exact Nat.two_pow_pos 8
  | succ n ih =>
    unfold nxN
    split
    · exact or_lt ih (doors_lt hW _ _)
    · exact ih
theorem reN_lt (hW : WFP P) {a : Nat} (ha : a < P 0 4) : ∀ k, reN P a k < 2 ^ 8 := by
  have hb := hW.all
  intro k
  induction k with
  | zero => exact pow_lt (by omega)
  | succ k ih => exact or_lt ih (nxN_lt hW _ _)
theorem x_nextTo (hG : PG h p P) {S : Nat} (hS : S < 2 ^ 31) : DX4_nextTo (sI (sR fr0 0 p) 1 (nI S)) h = some (nI (nxN P S (P 0 4)), h) := by
  have hW := hG.w
  have hb := hW.all
  have hP := hG.s
  have e1 := hG.r.sc (k := 4) (by decide)
  obtain ⟨g, L, rfl⟩ : ∃ g, LX4_nextTo_1 (sI (sI (sI (sR fr0 0 p) 1 (nI S)) 2 (nI 0)) 3 (nI 0)) h = some (.inl 0, sI (sI (sI (sR fr0 0 p) 1 (nI S)) 2 (nI (nxN P S (P 0 4)))) 3 (nI (P 0 4)), g) ∧ g = h := by
    unfold LX4_nextTo_1
    refine loop_g (fun k => sI (sI (sI (sR fr0 0 p) 1 (nI S)) 2 (nI (nxN P S k))) 3 (nI k)) (fun k g => g = h) (P 0 4) rfl rfl (fun k g hk hI => ?_) (fun g hI => ?_)
    · subst hI
      refine ⟨g, ?_, rfl⟩
      by_cases z : S.testBit k = true
      · have e2 := x_doors0 hG (a := k) (by omega)
        simp (disch := omega) only [ob_t, ob_n, ob_ite, e_cI, e_cL, e_cR, e_vI, e_vL, e_vR, e_d2, e_d2_a, e_d2_b, e_d2z, e_d2z_a, e_d2z_b, e_d1, e_d1_a, e_GI, e_GI_a, e_GL, e_GL_a, e_GR, e_GR_a, e_AI, e_AI_a, e_AI_b, e_AB, e_AB_a, e_AB_b, e_AZ, e_AZ_a, e_AZ_b, e_AL, e_AL_a, e_AL_b, e_AR, e_AR_a, e_AR_b, e_Len, e_Len_a, e_CI, e_CI_a, e_CI_b, e_CZ, e_CZ_a, e_And, e_kAnd, e_Or, e_kOr, e_Not, e_kNot, e_B, e_kB, e_T, e_kT, e_NN, e_kNN, e_NewA, e_NewA_a, e_NewC, e_kNewC, e_aN, e_aI, e_aI_a, e_aI_b, e_aL, e_aL_a, e_aL_b, e_aR, e_aR_a, e_aR_b, e_Call, e_kCall, e_CallV, e_kCallV, e_SetI, e_kSetI, e_SetL, e_kSetL, e_SetR, e_kSetR, e_Inc, e_Skip, e_Brk, e_Cnt, e_Ret, e_kRet, e_Ret0, e_Seq, e_kSeq0, e_kSeq1, e_kSeq2, e_kSeqR, e_If, e_kIf, e_Do, e_kDo, e_Sup, e_kN0, e_d3, e_k3a, e_k3b, e_k3c, e_P, e_kPa, e_kPb, e_UA, e_kUAa, e_kUAb, e_kUAc, e_UL, e_kULa, e_kULb, e_kULc, e_UF, e_kUFa, e_kUFb, e_Cp, e_kCp, e_Sw, e_kSwa, e_kSwb0, e_kSwb1, e_kSwbR, e_M1, e_kM1, e_MZ, e_kMZ, e_MN, e_kMN, e_Tv, e_kTv, e_Tc, e_kTc, e_lpS, e_kLp, e_kLpB0, e_kLpB1, e_kLpB2, e_kLpBR, e_kLpU, e_dwS, e_kDwB0, e_kDwC, f_II, f_LL, f_RR, f_IL, f_IR, f_LI, f_LR, f_RI, f_RL, o_iadd, o_isub, o_imul, o_iand, o_ior, o_ixor, o_ladd, o_lsub, o_lmul, o_land, o_lor, o_ishl, o_ishr, o_iushr, o_lshl, o_lshr, o_lcmp, o_i2l, o_l2i, o_i2b, o_i2s, o_lneg, o_ineg, o_imax, o_imin, o_idiv, o_irem, o_ldiv, o_lrem, r_lt, r_le, r_gt, r_ge, r_eq, r_ne, q_lt, q_le, q_gt, q_ge, q_eq, q_ne, decide_eq_true_eq, idI, and_true, true_and, and_false, false_and, or_true, true_or, or_false, false_or, not_true_eq_false, not_false_eq_true, if_true, if_false, ite_self, Bool.not_true, Bool.not_false, Bool.false_eq_true, Bool.true_eq_false, decide_true, decide_false, ne_eq, reduceIte, Nat.reduceEqDiff, Option.some.injEq, Prod.mk.injEq, eq_self, fa_lit, nI_add, pk_mul, nI_ltI, nI_leI, nI_eq, b01, b0, b1, x_hasBit, Nat.reduceLeDiff, Nat.reduceAdd, Nat.reduceMul, Nat.reduceSub, Nat.lt_irrefl, Nat.reduceLT, hP.k, hP.k9, hP.r8, hP.r9, hP.r10, hP.r11, hP.r12, hP.r13, hP.r14, hP.r15, hP.r16, hP.c3, hP.c4, hP.c5, hP.c6, hP.c7, hP.c8, e1, hk, z, e2, nxN, fa_or]
      · simp (disch := omega) only [ob_t, ob_n, ob_ite, e_cI, e_cL, e_cR, e_vI, e_vL, e_vR, e_d2, e_d2_a, e_d2_b, e_d2z, e_d2z_a, e_d2z_b, e_d1, e_d1_a, e_GI, e_GI_a, e_GL, e_GL_a, e_GR, e_GR_a, e_AI, e_AI_a, e_AI_b, e_AB, e_AB_a, e_AB_b, e_AZ, e_AZ_a, e_AZ_b, e_AL, e_AL_a, e_AL_b, e_AR, e_AR_a, e_AR_b, e_Len, e_Len_a, e_CI, e_CI_a, e_CI_b, e_CZ, e_CZ_a, e_And, e_kAnd, e_Or, e_kOr, e_Not, e_kNot, e_B, e_kB, e_T, e_kT, e_NN, e_kNN, e_NewA, e_NewA_a, e_NewC, e_kNewC, e_aN, e_aI, e_aI_a, e_aI_b, e_aL, e_aL_a, e_aL_b, e_aR, e_aR_a, e_aR_b, e_Call, e_kCall, e_CallV, e_kCallV, e_SetI, e_kSetI, e_SetL, e_kSetL, e_SetR, e_kSetR, e_Inc, e_Skip, e_Brk, e_Cnt, e_Ret, e_kRet, e_Ret0, e_Seq, e_kSeq0, e_kSeq1, e_kSeq2, e_kSeqR, e_If, e_kIf, e_Do, e_kDo, e_Sup, e_kN0, e_d3, e_k3a, e_k3b, e_k3c, e_P, e_kPa, e_kPb, e_UA, e_kUAa, e_kUAb, e_kUAc, e_UL, e_kULa, e_kULb, e_kULc, e_UF, e_kUFa, e_kUFb, e_Cp, e_kCp, e_Sw, e_kSwa, e_kSwb0, e_kSwb1, e_kSwbR, e_M1, e_kM1, e_MZ, e_kMZ, e_MN, e_kMN, e_Tv, e_kTv, e_Tc, e_kTc, e_lpS, e_kLp, e_kLpB0, e_kLpB1, e_kLpB2, e_kLpBR, e_kLpU, e_dwS, e_kDwB0, e_kDwC, f_II, f_LL, f_RR, f_IL, f_IR, f_LI, f_LR, f_RI, f_RL, o_iadd, o_isub, o_imul, o_iand, o_ior, o_ixor, o_ladd, o_lsub, o_lmul, o_land, o_lor, o_ishl, o_ishr, o_iushr, o_lshl, o_lshr, o_lcmp, o_i2l, o_l2i, o_i2b, o_i2s, o_lneg, o_ineg, o_imax, o_imin, o_idiv, o_irem, o_ldiv, o_lrem, r_lt, r_le, r_gt, r_ge, r_eq, r_ne, q_lt, q_le, q_gt, q_ge, q_eq, q_ne, decide_eq_true_eq, idI, and_true, true_and, and_false, false_and, or_true, true_or, or_false, false_or, not_true_eq_false, not_false_eq_true, if_true, if_false, ite_self, Bool.not_true, Bool.not_false, Bool.false_eq_true, Bool.true_eq_false, decide_true, decide_false, ne_eq, reduceIte, Nat.reduceEqDiff, Option.some.injEq, Prod.mk.injEq, eq_self, fa_lit, nI_add, pk_mul, nI_ltI, nI_leI, nI_eq, b01, b0, b1, x_hasBit, Nat.reduceLeDiff, Nat.reduceAdd, Nat.reduceMul, Nat.reduceSub, Nat.lt_irrefl, Nat.reduceLT, hP.k, hP.k9, hP.r8, hP.r9, hP.r10, hP.r11, hP.r12, hP.r13, hP.r14, hP.r15, hP.r16, hP.c3, hP.c4, hP.c5, hP.c6, hP.c7, hP.c8, e1, hk, z, nxN]
    · subst hI
      simp (disch := omega) only [ob_t, ob_n, ob_ite, e_cI, e_cL, e_cR, e_vI, e_vL, e_vR, e_d2, e_d2_a, e_d2_b, e_d2z, e_d2z_a, e_d2z_b, e_d1, e_d1_a, e_GI, e_GI_a, e_GL, e_GL_a, e_GR, e_GR_a, e_AI, e_AI_a, e_AI_b, e_AB, e_AB_a, e_AB_b, e_AZ, e_AZ_a, e_AZ_b, e_AL, e_AL_a, e_AL_b, e_AR, e_AR_a, e_AR_b, e_Len, e_Len_a, e_CI, e_CI_a, e_CI_b, e_CZ, e_CZ_a, e_And, e_kAnd, e_Or, e_kOr, e_Not, e_kNot, e_B, e_kB, e_T, e_kT, e_NN, e_kNN, e_NewA, e_NewA_a, e_NewC, e_kNewC, e_aN, e_aI, e_aI_a, e_aI_b, e_aL, e_aL_a, e_aL_b, e_aR, e_aR_a, e_aR_b, e_Call, e_kCall, e_CallV, e_kCallV, e_SetI, e_kSetI, e_SetL, e_kSetL, e_SetR, e_kSetR, e_Inc, e_Skip, e_Brk, e_Cnt, e_Ret, e_kRet, e_Ret0, e_Seq, e_kSeq0, e_kSeq1, e_kSeq2, e_kSeqR, e_If, e_kIf, e_Do, e_kDo, e_Sup, e_kN0, e_d3, e_k3a, e_k3b, e_k3c, e_P, e_kPa, e_kPb, e_UA, e_kUAa, e_kUAb, e_kUAc, e_UL, e_kULa, e_kULb, e_kULc, e_UF, e_kUFa, e_kUFb, e_Cp, e_kCp, e_Sw, e_kSwa, e_kSwb0, e_kSwb1, e_kSwbR, e_M1, e_kM1, e_MZ, e_kMZ, e_MN, e_kMN, e_Tv, e_kTv, e_Tc, e_kTc, e_lpS, e_kLp, e_kLpB0, e_kLpB1, e_kLpB2, e_kLpBR, e_kLpU, e_dwS, e_kDwB0, e_kDwC, f_II, f_LL, f_RR, f_IL, f_IR, f_LI, f_LR, f_RI, f_RL, o_iadd, o_isub, o_imul, o_iand, o_ior, o_ixor, o_ladd, o_lsub, o_lmul, o_land, o_lor, o_ishl, o_ishr, o_iushr, o_lshl, o_lshr, o_lcmp, o_i2l, o_l2i, o_i2b, o_i2s, o_lneg, o_ineg, o_imax, o_imin, o_idiv, o_irem, o_ldiv, o_lrem, r_lt, r_le, r_gt, r_ge, r_eq, r_ne, q_lt, q_le, q_gt, q_ge, q_eq, q_ne, decide_eq_true_eq, idI, and_true, true_and, and_false, false_and, or_true, true_or, or_false, false_or, not_true_eq_false, not_false_eq_true, if_true, if_false, ite_self, Bool.not_true, Bool.not_false, Bool.false_eq_true, Bool.true_eq_false, decide_true, decide_false, ne_eq, reduceIte, Nat.reduceEqDiff, Option.some.injEq, Prod.mk.injEq, eq_self, fa_lit, nI_add, pk_mul, nI_ltI, nI_leI, nI_eq, b01, b0, b1, x_hasBit, Nat.reduceLeDiff, Nat.reduceAdd, Nat.reduceMul, Nat.reduceSub, Nat.lt_irrefl, Nat.reduceLT, hP.k, hP.k9, hP.r8, hP.r9, hP.r10, hP.r11, hP.r12, hP.r13, hP.r14, hP.r15, hP.r16, hP.c3, hP.c4, hP.c5, hP.c6, hP.c7, hP.c8, e1]
  simp (disch := omega) only [DX4_nextTo, BX4_nextTo, ob_t, ob_n, ob_ite, e_cI, e_cL, e_cR, e_vI, e_vL, e_vR, e_d2, e_d2_a, e_d2_b, e_d2z, e_d2z_a, e_d2z_b, e_d1, e_d1_a, e_GI, e_GI_a, e_GL, e_GL_a, e_GR, e_GR_a, e_AI, e_AI_a, e_AI_b, e_AB, e_AB_a, e_AB_b, e_AZ, e_AZ_a, e_AZ_b, e_AL, e_AL_a, e_AL_b, e_AR, e_AR_a, e_AR_b, e_Len, e_Len_a, e_CI, e_CI_a, e_CI_b, e_CZ, e_CZ_a, e_And, e_kAnd, e_Or, e_kOr, e_Not, e_kNot, e_B, e_kB, e_T, e_kT, e_NN, e_kNN, e_NewA, e_NewA_a, e_NewC, e_kNewC, e_aN, e_aI, e_aI_a, e_aI_b, e_aL, e_aL_a, e_aL_b, e_aR, e_aR_a, e_aR_b, e_Call, e_kCall, e_CallV, e_kCallV, e_SetI, e_kSetI, e_SetL, e_kSetL, e_SetR, e_kSetR, e_Inc, e_Skip, e_Brk, e_Cnt, e_Ret, e_kRet, e_Ret0, e_Seq, e_kSeq0, e_kSeq1, e_kSeq2, e_kSeqR, e_If, e_kIf, e_Do, e_kDo, e_Sup, e_kN0, e_d3, e_k3a, e_k3b, e_k3c, e_P, e_kPa, e_kPb, e_UA, e_kUAa, e_kUAb, e_kUAc, e_UL, e_kULa, e_kULb, e_kULc, e_UF, e_kUFa, e_kUFb, e_Cp, e_kCp, e_Sw, e_kSwa, e_kSwb0, e_kSwb1, e_kSwbR, e_M1, e_kM1, e_MZ, e_kMZ, e_MN, e_kMN, e_Tv, e_kTv, e_Tc, e_kTc, e_lpS, e_kLp, e_kLpB0, e_kLpB1, e_kLpB2, e_kLpBR, e_kLpU, e_dwS, e_kDwB0, e_kDwC, f_II, f_LL, f_RR, f_IL, f_IR, f_LI, f_LR, f_RI, f_RL, o_iadd, o_isub, o_imul, o_iand, o_ior, o_ixor, o_ladd, o_lsub, o_lmul, o_land, o_lor, o_ishl, o_ishr, o_iushr, o_lshl, o_lshr, o_lcmp, o_i2l, o_l2i, o_i2b, o_i2s, o_lneg, o_ineg, o_imax, o_imin, o_idiv, o_irem, o_ldiv, o_lrem, r_lt, r_le, r_gt, r_ge, r_eq, r_ne, q_lt, q_le, q_gt, q_ge, q_eq, q_ne, decide_eq_true_eq, idI, and_true, true_and, and_false, false_and, or_true, true_or, or_false, false_or, not_true_eq_false, not_false_eq_true, if_true, if_false, ite_self, Bool.not_true, Bool.not_false, Bool.false_eq_true, Bool.true_eq_false, decide_true, decide_false, ne_eq, reduceIte, Nat.reduceEqDiff, Option.some.injEq, Prod.mk.injEq, eq_self, fa_lit, nI_add, pk_mul, nI_ltI, nI_leI, nI_eq, b01, b0, b1, x_hasBit, Nat.reduceLeDiff, Nat.reduceAdd, Nat.reduceMul, Nat.reduceSub, Nat.lt_irrefl, Nat.reduceLT, L]
theorem x_fewest (hG : PG h p P) {a b : Nat} (ha : a < P 0 4) (hb1 : b < P 0 4) (q : Nat) : (∃ j, j < 8 ∧ (reN P a j).testBit b = true ∧ (∀ i, i < j → ¬ (reN P a i).testBit b = true) ∧ DX4_fewestWays (sI (sI (sR (sR fr0 0 q) 1 p) 2 (nI a)) 3 (nI b)) h = some (nI j, h)) ∨ ((∀ i, i < 8 → ¬ (reN P a i).testBit b = true) ∧ DX4_fewestWays (sI (sI (sR (sR fr0 0 q) 1 p) 2 (nI a)) 3 (nI b)) h = some (-nI 1, h)) := by
  have hW := hG.w
  have hb := hW.all
  have hP := hG.s
  obtain ⟨o, L, hq⟩ : ∃ o, LX4_fewestWays_1 (sI (sI (sI (sI (sR (sR fr0 0 q) 1 p) 2 (nI a)) 3 (nI b)) 4 (nI (2 ^ a))) 5 (nI 0)) h = some o ∧ ((∃ j, j < 8 ∧ (reN P a j).testBit b = true ∧ (∀ i, i < j → ¬ (reN P a i).testBit b = true) ∧ ∃ f, o = (.inr (nI j), f, h)) ∨ ((∀ i, i < 8 → ¬ (reN P a i).testBit b = true) ∧ ∃ f, o = (.inl 0, f, h))) := by
    unfold LX4_fewestWays_1
    refine loop_x (fun k => sI (sI (sI (sI (sR (sR fr0 0 q) 1 p) 2 (nI a)) 3 (nI b)) 4 (nI (reN P a k))) 5 (nI k)) (fun k g => g = h ∧ ∀ i, i < k → ¬ (reN P a i).testBit b = true) _ 8 rfl ⟨rfl, fun i hi1 => absurd hi1 (Nat.not_lt_zero i)⟩ (fun k g hk hI => ?_) (fun g hI => ?_)
    · obtain ⟨rfl, hI⟩ := hI
      have h1 := reN_lt hW ha k
      by_cases z : (reN P a k).testBit b = true
      · refine Or.inr ⟨(.inr (nI k), sI (sI (sI (sI (sR (sR fr0 0 q) 1 p) 2 (nI a)) 3 (nI b)) 4 (nI (reN P a k))) 5 (nI k), g), ?_, Or.inl ⟨k, hk, z, hI, _, rfl⟩⟩
        simp (disch := omega) only [ob_t, ob_n, ob_ite, e_cI, e_cL, e_cR, e_vI, e_vL, e_vR, e_d2, e_d2_a, e_d2_b, e_d2z, e_d2z_a, e_d2z_b, e_d1, e_d1_a, e_GI, e_GI_a, e_GL, e_GL_a, e_GR, e_GR_a, e_AI, e_AI_a, e_AI_b, e_AB, e_AB_a, e_AB_b, e_AZ, e_AZ_a, e_AZ_b, e_AL, e_AL_a, e_AL_b, e_AR, e_AR_a, e_AR_b, e_Len, e_Len_a, e_CI, e_CI_a, e_CI_b, e_CZ, e_CZ_a, e_And, e_kAnd, e_Or, e_kOr, e_Not, e_kNot, e_B, e_kB, e_T, e_kT, e_NN, e_kNN, e_NewA, e_NewA_a, e_NewC, e_kNewC, e_aN, e_aI, e_aI_a, e_aI_b, e_aL, e_aL_a, e_aL_b, e_aR, e_aR_a, e_aR_b, e_Call, e_kCall, e_CallV, e_kCallV, e_SetI, e_kSetI, e_SetL, e_kSetL, e_SetR, e_kSetR, e_Inc, e_Skip, e_Brk, e_Cnt, e_Ret, e_kRet, e_Ret0, e_Seq, e_kSeq0, e_kSeq1, e_kSeq2, e_kSeqR, e_If, e_kIf, e_Do, e_kDo, e_Sup, e_kN0, e_d3, e_k3a, e_k3b, e_k3c, e_P, e_kPa, e_kPb, e_UA, e_kUAa, e_kUAb, e_kUAc, e_UL, e_kULa, e_kULb, e_kULc, e_UF, e_kUFa, e_kUFb, e_Cp, e_kCp, e_Sw, e_kSwa, e_kSwb0, e_kSwb1, e_kSwbR, e_M1, e_kM1, e_MZ, e_kMZ, e_MN, e_kMN, e_Tv, e_kTv, e_Tc, e_kTc, e_lpS, e_kLp, e_kLpB0, e_kLpB1, e_kLpB2, e_kLpBR, e_kLpU, e_dwS, e_kDwB0, e_kDwC, f_II, f_LL, f_RR, f_IL, f_IR, f_LI, f_LR, f_RI, f_RL, o_iadd, o_isub, o_imul, o_iand, o_ior, o_ixor, o_ladd, o_lsub, o_lmul, o_land, o_lor, o_ishl, o_ishr, o_iushr, o_lshl, o_lshr, o_lcmp, o_i2l, o_l2i, o_i2b, o_i2s, o_lneg, o_ineg, o_imax, o_imin, o_idiv, o_irem, o_ldiv, o_lrem, r_lt, r_le, r_gt, r_ge, r_eq, r_ne, q_lt, q_le, q_gt, q_ge, q_eq, q_ne, decide_eq_true_eq, idI, and_true, true_and, and_false, false_and, or_true, true_or, or_false, false_or, not_true_eq_false, not_false_eq_true, if_true, if_false, ite_self, Bool.not_true, Bool.not_false, Bool.false_eq_true, Bool.true_eq_false, decide_true, decide_false, ne_eq, reduceIte, Nat.reduceEqDiff, Option.some.injEq, Prod.mk.injEq, eq_self, fa_lit, nI_add, pk_mul, nI_ltI, nI_leI, nI_eq, b01, b0, b1, x_hasBit, Nat.reduceLeDiff, Nat.reduceAdd, Nat.reduceMul, Nat.reduceSub, Nat.lt_irrefl, Nat.reduceLT, hk, z]
      · have e2 := x_nextTo hG (S := reN P a k) (by omega)
        refine Or.inl ⟨g, ?_, rfl, fun i hi1 => ?_⟩
        · simp (disch := omega) only [ob_t, ob_n, ob_ite, e_cI, e_cL, e_cR, e_vI, e_vL, e_vR, e_d2, e_d2_a, e_d2_b, e_d2z, e_d2z_a, e_d2z_b, e_d1, e_d1_a, e_GI, e_GI_a, e_GL, e_GL_a, e_GR, e_GR_a, e_AI, e_AI_a, e_AI_b, e_AB, e_AB_a, e_AB_b, e_AZ, e_AZ_a, e_AZ_b, e_AL, e_AL_a, e_AL_b, e_AR, e_AR_a, e_AR_b, e_Len, e_Len_a, e_CI, e_CI_a, e_CI_b, e_CZ, e_CZ_a, e_And, e_kAnd, e_Or, e_kOr, e_Not, e_kNot, e_B, e_kB, e_T, e_kT, e_NN, e_kNN, e_NewA, e_NewA_a, e_NewC, e_kNewC, e_aN, e_aI, e_aI_a, e_aI_b, e_aL, e_aL_a, e_aL_b, e_aR, e_aR_a, e_aR_b, e_Call, e_kCall, e_CallV, e_kCallV, e_SetI, e_kSetI, e_SetL, e_kSetL, e_SetR, e_kSetR, e_Inc, e_Skip, e_Brk, e_Cnt, e_Ret, e_kRet, e_Ret0, e_Seq, e_kSeq0, e_kSeq1, e_kSeq2, e_kSeqR, e_If, e_kIf, e_Do, e_kDo, e_Sup, e_kN0, e_d3, e_k3a, e_k3b, e_k3c, e_P, e_kPa, e_kPb, e_UA, e_kUAa, e_kUAb, e_kUAc, e_UL, e_kULa, e_kULb, e_kULc, e_UF, e_kUFa, e_kUFb, e_Cp, e_kCp, e_Sw, e_kSwa, e_kSwb0, e_kSwb1, e_kSwbR, e_M1, e_kM1, e_MZ, e_kMZ, e_MN, e_kMN, e_Tv, e_kTv, e_Tc, e_kTc, e_lpS, e_kLp, e_kLpB0, e_kLpB1, e_kLpB2, e_kLpBR, e_kLpU, e_dwS, e_kDwB0, e_kDwC, f_II, f_LL, f_RR, f_IL, f_IR, f_LI, f_LR, f_RI, f_RL, o_iadd, o_isub, o_imul, o_iand, o_ior, o_ixor, o_ladd, o_lsub, o_lmul, o_land, o_lor, o_ishl, o_ishr, o_iushr, o_lshl, o_lshr, o_lcmp, o_i2l, o_l2i, o_i2b, o_i2s, o_lneg, o_ineg, o_imax, o_imin, o_idiv, o_irem, o_ldiv, o_lrem, r_lt, r_le, r_gt, r_ge, r_eq, r_ne, q_lt, q_le, q_gt, q_ge, q_eq, q_ne, decide_eq_true_eq, idI, and_true, true_and, and_false, false_and, or_true, true_or, or_false, false_or, not_true_eq_false, not_false_eq_true, if_true, if_false, ite_self, Bool.not_true, Bool.not_false, Bool.false_eq_true, Bool.true_eq_false, decide_true, decide_false, ne_eq, reduceIte, Nat.reduceEqDiff, Option.some.injEq, Prod.mk.injEq, eq_self, fa_lit, nI_add, pk_mul, nI_ltI, nI_leI, nI_eq, b01, b0, b1, x_hasBit, Nat.reduceLeDiff, Nat.reduceAdd, Nat.reduceMul, Nat.reduceSub, Nat.lt_irrefl, Nat.reduceLT, hk, z, e2, reN, fa_or]
        · by_cases y : i = k
          · subst y; exact z
          · exact hI i (by omega)
    · obtain ⟨rfl, hI⟩ := hI
      refine ⟨(.inl 0, sI (sI (sI (sI (sR (sR fr0 0 q) 1 p) 2 (nI a)) 3 (nI b)) 4 (nI (reN P a 8))) 5 (nI 8), g), ?_, Or.inr ⟨hI, _, rfl⟩⟩
      simp (disch := omega) only [ob_t, ob_n, ob_ite, e_cI, e_cL, e_cR, e_vI, e_vL, e_vR, e_d2, e_d2_a, e_d2_b, e_d2z, e_d2z_a, e_d2z_b, e_d1, e_d1_a, e_GI, e_GI_a, e_GL, e_GL_a, e_GR, e_GR_a, e_AI, e_AI_a, e_AI_b, e_AB, e_AB_a, e_AB_b, e_AZ, e_AZ_a, e_AZ_b, e_AL, e_AL_a, e_AL_b, e_AR, e_AR_a, e_AR_b, e_Len, e_Len_a, e_CI, e_CI_a, e_CI_b, e_CZ, e_CZ_a, e_And, e_kAnd, e_Or, e_kOr, e_Not, e_kNot, e_B, e_kB, e_T, e_kT, e_NN, e_kNN, e_NewA, e_NewA_a, e_NewC, e_kNewC, e_aN, e_aI, e_aI_a, e_aI_b, e_aL, e_aL_a, e_aL_b, e_aR, e_aR_a, e_aR_b, e_Call, e_kCall, e_CallV, e_kCallV, e_SetI, e_kSetI, e_SetL, e_kSetL, e_SetR, e_kSetR, e_Inc, e_Skip, e_Brk, e_Cnt, e_Ret, e_kRet, e_Ret0, e_Seq, e_kSeq0, e_kSeq1, e_kSeq2, e_kSeqR, e_If, e_kIf, e_Do, e_kDo, e_Sup, e_kN0, e_d3, e_k3a, e_k3b, e_k3c, e_P, e_kPa, e_kPb, e_UA, e_kUAa, e_kUAb, e_kUAc, e_UL, e_kULa, e_kULb, e_kULc, e_UF, e_kUFa, e_kUFb, e_Cp, e_kCp, e_Sw, e_kSwa, e_kSwb0, e_kSwb1, e_kSwbR, e_M1, e_kM1, e_MZ, e_kMZ, e_MN, e_kMN, e_Tv, e_kTv, e_Tc, e_kTc, e_lpS, e_kLp, e_kLpB0, e_kLpB1, e_kLpB2, e_kLpBR, e_kLpU, e_dwS, e_kDwB0, e_kDwC, f_II, f_LL, f_RR, f_IL, f_IR, f_LI, f_LR, f_RI, f_RL, o_iadd, o_isub, o_imul, o_iand, o_ior, o_ixor, o_ladd, o_lsub, o_lmul, o_land, o_lor, o_ishl, o_ishr, o_iushr, o_lshl, o_lshr, o_lcmp, o_i2l, o_l2i, o_i2b, o_i2s, o_lneg, o_ineg, o_imax, o_imin, o_idiv, o_irem, o_ldiv, o_lrem, r_lt, r_le, r_gt, r_ge, r_eq, r_ne, q_lt, q_le, q_gt, q_ge, q_eq, q_ne, decide_eq_true_eq, idI, and_true, true_and, and_false, false_and, or_true, true_or, or_false, false_or, not_true_eq_false, not_false_eq_true, if_true, if_false, ite_self, Bool.not_true, Bool.not_false, Bool.false_eq_true, Bool.true_eq_false, decide_true, decide_false, ne_eq, reduceIte, Nat.reduceEqDiff, Option.some.injEq, Prod.mk.injEq, eq_self, fa_lit, nI_add, pk_mul, nI_ltI, nI_leI, nI_eq, b01, b0, b1, x_hasBit, Nat.reduceLeDiff, Nat.reduceAdd, Nat.reduceMul, Nat.reduceSub, Nat.lt_irrefl, Nat.reduceLT]
  rcases hq with ⟨j, h1, h2, h3, f, rfl⟩ | ⟨h1, f, rfl⟩
  · refine Or.inl ⟨j, h1, h2, h3, ?_⟩
    simp (disch := omega) only [DX4_fewestWays, BX4_fewestWays, ob_t, ob_n, ob_ite, e_cI, e_cL, e_cR, e_vI, e_vL, e_vR, e_d2, e_d2_a, e_d2_b, e_d2z, e_d2z_a, e_d2z_b, e_d1, e_d1_a, e_GI, e_GI_a, e_GL, e_GL_a, e_GR, e_GR_a, e_AI, e_AI_a, e_AI_b, e_AB, e_AB_a, e_AB_b, e_AZ, e_AZ_a, e_AZ_b, e_AL, e_AL_a, e_AL_b, e_AR, e_AR_a, e_AR_b, e_Len, e_Len_a, e_CI, e_CI_a, e_CI_b, e_CZ, e_CZ_a, e_And, e_kAnd, e_Or, e_kOr, e_Not, e_kNot, e_B, e_kB, e_T, e_kT, e_NN, e_kNN, e_NewA, e_NewA_a, e_NewC, e_kNewC, e_aN, e_aI, e_aI_a, e_aI_b, e_aL, e_aL_a, e_aL_b, e_aR, e_aR_a, e_aR_b, e_Call, e_kCall, e_CallV, e_kCallV, e_SetI, e_kSetI, e_SetL, e_kSetL, e_SetR, e_kSetR, e_Inc, e_Skip, e_Brk, e_Cnt, e_Ret, e_kRet, e_Ret0, e_Seq, e_kSeq0, e_kSeq1, e_kSeq2, e_kSeqR, e_If, e_kIf, e_Do, e_kDo, e_Sup, e_kN0, e_d3, e_k3a, e_k3b, e_k3c, e_P, e_kPa, e_kPb, e_UA, e_kUAa, e_kUAb, e_kUAc, e_UL, e_kULa, e_kULb, e_kULc, e_UF, e_kUFa, e_kUFb, e_Cp, e_kCp, e_Sw, e_kSwa, e_kSwb0, e_kSwb1, e_kSwbR, e_M1, e_kM1, e_MZ, e_kMZ, e_MN, e_kMN, e_Tv, e_kTv, e_Tc, e_kTc, e_lpS, e_kLp, e_kLpB0, e_kLpB1, e_kLpB2, e_kLpBR, e_kLpU, e_dwS, e_kDwB0, e_kDwC, f_II, f_LL, f_RR, f_IL, f_IR, f_LI, f_LR, f_RI, f_RL, o_iadd, o_isub, o_imul, o_iand, o_ior, o_ixor, o_ladd, o_lsub, o_lmul, o_land, o_lor, o_ishl, o_ishr, o_iushr, o_lshl, o_lshr, o_lcmp, o_i2l, o_l2i, o_i2b, o_i2s, o_lneg, o_ineg, o_imax, o_imin, o_idiv, o_irem, o_ldiv, o_lrem, r_lt, r_le, r_gt, r_ge, r_eq, r_ne, q_lt, q_le, q_gt, q_ge, q_eq, q_ne, decide_eq_true_eq, idI, and_true, true_and, and_false, false_and, or_true, true_or, or_false, false_or, not_true_eq_false, not_false_eq_true, if_true, if_false, ite_self, Bool.not_true, Bool.not_false, Bool.false_eq_true, Bool.true_eq_false, decide_true, decide_false, ne_eq, reduceIte, Nat.reduceEqDiff, Option.some.injEq, Prod.mk.injEq, eq_self, fa_lit, nI_add, pk_mul, nI_ltI, nI_leI, nI_eq, b01, b0, b1, x_hasBit, Nat.reduceLeDiff, Nat.reduceAdd, Nat.reduceMul, Nat.reduceSub, Nat.lt_irrefl, Nat.reduceLT, n_shl, L]
  · refine Or.inr ⟨h1, ?_⟩
    simp (disch := omega) only [DX4_fewestWays, BX4_fewestWays, ob_t, ob_n, ob_ite, e_cI, e_cL, e_cR, e_vI, e_vL, e_vR, e_d2, e_d2_a, e_d2_b, e_d2z, e_d2z_a, e_d2z_b, e_d1, e_d1_a, e_GI, e_GI_a, e_GL, e_GL_a, e_GR, e_GR_a, e_AI, e_AI_a, e_AI_b, e_AB, e_AB_a, e_AB_b, e_AZ, e_AZ_a, e_AZ_b, e_AL, e_AL_a, e_AL_b, e_AR, e_AR_a, e_AR_b, e_Len, e_Len_a, e_CI, e_CI_a, e_CI_b, e_CZ, e_CZ_a, e_And, e_kAnd, e_Or, e_kOr, e_Not, e_kNot, e_B, e_kB, e_T, e_kT, e_NN, e_kNN, e_NewA, e_NewA_a, e_NewC, e_kNewC, e_aN, e_aI, e_aI_a, e_aI_b, e_aL, e_aL_a, e_aL_b, e_aR, e_aR_a, e_aR_b, e_Call, e_kCall, e_CallV, e_kCallV, e_SetI, e_kSetI, e_SetL, e_kSetL, e_SetR, e_kSetR, e_Inc, e_Skip, e_Brk, e_Cnt, e_Ret, e_kRet, e_Ret0, e_Seq, e_kSeq0, e_kSeq1, e_kSeq2, e_kSeqR, e_If, e_kIf, e_Do, e_kDo, e_Sup, e_kN0, e_d3, e_k3a, e_k3b, e_k3c, e_P, e_kPa, e_kPb, e_UA, e_kUAa, e_kUAb, e_kUAc, e_UL, e_kULa, e_kULb, e_kULc, e_UF, e_kUFa, e_kUFb, e_Cp, e_kCp, e_Sw, e_kSwa, e_kSwb0, e_kSwb1, e_kSwbR, e_M1, e_kM1, e_MZ, e_kMZ, e_MN, e_kMN, e_Tv, e_kTv, e_Tc, e_kTc, e_lpS, e_kLp, e_kLpB0, e_kLpB1, e_kLpB2, e_kLpBR, e_kLpU, e_dwS, e_kDwB0, e_kDwC, f_II, f_LL, f_RR, f_IL, f_IR, f_LI, f_LR, f_RI, f_RL, o_iadd, o_isub, o_imul, o_iand, o_ior, o_ixor, o_ladd, o_lsub, o_lmul, o_land, o_lor, o_ishl, o_ishr, o_iushr, o_lshl, o_lshr, o_lcmp, o_i2l, o_l2i, o_i2b, o_i2s, o_lneg, o_ineg, o_imax, o_imin, o_idiv, o_irem, o_ldiv, o_lrem, r_lt, r_le, r_gt, r_ge, r_eq, r_ne, q_lt, q_le, q_gt, q_ge, q_eq, q_ne, decide_eq_true_eq, idI, and_true, true_and, and_false, false_and, or_true, true_or, or_false, false_or, not_true_eq_false, not_false_eq_true, if_true, if_false, ite_self, Bool.not_true, Bool.not_false, Bool.false_eq_true, Bool.true_eq_false, decide_true, decide_false, ne_eq, reduceIte, Nat.reduceEqDiff, Option.some.injEq, Prod.mk.injEq, eq_self, fa_lit, nI_add, pk_mul, nI_ltI, nI_leI, nI_eq, b01, b0, b1, x_hasBit, Nat.reduceLeDiff, Nat.reduceAdd, Nat.reduceMul, Nat.reduceSub, Nat.lt_irrefl, Nat.reduceLT, n_shl, L]
end
