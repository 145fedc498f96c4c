set_option maxRecDepth 100000
set_option maxHeartbeats 4000000
/-! a CARRY that is done; a DAY; the DAYS -/
theorem PG.cc {h h' : St} {p c : Nat} {P : PT} (G : PG h p P) (q : Ch (cD c) h h') (hd : p + 16 ≤ c ∨ c + 8 ≤ p) : PG h' p P := G.ch q (fun j hj => by unfold cD; omega)
theorem wetS_le (P S : PT) (s : Nat) (b : Bool) : wetS P S s b ≤ S 3 s := by
  unfold wetS
  split
  · exact rubL_le _ _ _ _
  · exact Nat.le_refl _
section
variable {h : St} {c p : Nat} {S P : PT}
theorem x_carryOut (hC : CS h c) (hR : RC h c S) (hG : PG h p P) (hS : WFS P S) {i : Nat} (hi1 : i < P 9 1) (hd : p + 16 ≤ c ∨ c + 8 ≤ p) (b : Bool) {w : Int32} (hw : w = if b = true then nI 1 else nI 0) : ∃ g, DX2_carryOut (sI (sI (sR (sR fr0 0 c) 1 p) 2 (nI i)) 3 w) h = some ((), g) ∧ RC g c (carS P S i b) ∧ Ch (cD c) h g := by
  have hG' := hG
  obtain ⟨hP, hRP, hW⟩ := hG
  have hb := hW.all
  obtain ⟨hm, hs, ha, hdy⟩ := hW.cy hi1
  have hl := loadS_le hW hS hs ha
  have hf := hS.2.2.2.2.1 _ hs
  have hx := hS.1
  unfold WFX at hx
  have h6 := hS.2.1
  have h7 := hS.2.2.1
  have h3 := hS.2.2.2.2.2.1 _ hs
  have h5 := hS.2.2.2.2.2.2.1 _ hs
  have h64 := pw6 hW hs
  have hwl := wetS_le P S (P 11 i) b
  have f0 : hi h c 0 = nI (S 0 0) := hR 0 0 (by unfold CIn; exact ⟨by decide, by decide⟩)
  have e1 := RP.car hP hRP hW (j := 10) (by decide) (by decide) hi1
  have e2 := RP.car hP hRP hW (j := 11) (by decide) (by decide) hi1
  have e3 := RP.car hP hRP hW (j := 12) (by decide) (by decide) hi1
  have e7 := x_loadTo hC hR hG' hS hs ha
  have f6 : hi h c 6 = nI (S 0 6) := hR 0 6 (by unfold CIn; exact ⟨by decide, by decide⟩)
  have f7 : hi h c 7 = nI (S 0 7) := hR 0 7 (by unfold CIn; exact ⟨by decide, by decide⟩)
  obtain ⟨g1, a1, b1, c1⟩ := C_putE hC hR (j := 7) (k := i) (loadS P S (P 11 i) (P 12 i) + 1) (by decide) ⟨by decide, by show i < 32; omega⟩
  have ea1 : enc 7 i (loadS P S (P 11 i) (P 12 i) + 1) = nI (loadS P S (P 11 i) (P 12 i)) := by rw [enc_7]; exact pk_m1 _
  rw [ea1] at a1
  have hC1 := hC.to c1.1
  have k6 : hi g1 c 6 = nI (S 0 6) := by
    have := b1 0 6 (by unfold CIn; exact ⟨by decide, by decide⟩)
    exact this
  obtain ⟨g2, a2, b2, c2⟩ := C_fld hC1 b1 (k := 6) (S 0 6 ||| 2 ^ P 10 i) (w := nI (S 0 6 ||| 2 ^ P 10 i)) rfl
  have hC2 := hC1.to c2.1
  have k7 : hi g2 c 7 = nI (S 0 7) := by
    have := b2 0 7 (by unfold CIn; exact ⟨by decide, by decide⟩)
    exact this
  obtain ⟨g3, a3, b3, c3⟩ := C_fld hC2 b2 (k := 7) (S 0 7 ||| 2 ^ P 11 i) (w := nI (S 0 7 ||| 2 ^ P 11 i)) rfl
  have hC3 := hC2.to c3.1
  obtain ⟨g4, a4, b4, c4⟩ := C_put hC3 b3 (j := 1) (k := P 10 i) (P 12 i) (by decide) (by decide) (by show _ < 5; omega)
  have hC4 := hC3.to c4.1
  obtain ⟨g5, a5, b5, c5⟩ := C_put hC4 b4 (j := 2) (k := P 11 i) (P 12 i) (by decide) (by decide) (by show _ < 3; omega)
  have hC5 := hC4.to c5.1
  have q5 := (((c1.tr c2).tr c3).tr c4).tr c5
  have b5 : RC g5 c (outS P S i) := b5
  have o3 : outS P S i 3 (P 11 i) = S 3 (P 11 i) := by simp [outS, up]
  have o4 : outS P S i 4 (8 * P 11 i + P 12 i) = S 4 (8 * P 11 i + P 12 i) := by simp [outS, up]
  have e8 := C_cell hC5 b5 (j := 3) (k := P 11 i) (by decide) (by decide) (by show _ < 3; omega)
  rw [o3] at e8
  have e9 := C_cell hC5 b5 (j := 4) (k := 8 * P 11 i + P 12 i) (by decide) (by decide) (by show _ < 24; omega)
  rw [o4] at e9
  have ew : ∀ b' : Bool, b' = b → (if b' = true then nI (S 3 (P 11 i)) &&& (nI (S 3 (P 11 i)) - nI 1) else nI (S 3 (P 11 i))) = nI (wetS P S (P 11 i) b) := by
    intro b' hb'
    rw [hb']
    unfold wetS
    cases b
    · rfl
    · exact n_low P _ (by omega)
  have e88 : P 11 i * 8 + P 12 i = 8 * P 11 i + P 12 i := by omega
  obtain ⟨g6, a6, b6, c6⟩ := C_put hC5 b5 (j := 4) (k := 8 * P 11 i + P 12 i) (S 4 (8 * P 11 i + P 12 i) ||| wetS P S (P 11 i) b) (by decide) (by decide) (by show _ < 24; omega)
  have hC6 := hC5.to c6.1
  have q6 := q5.tr c6
  have o5 : up (outS P S i) 4 (8 * P 11 i + P 12 i) (S 4 (8 * P 11 i + P 12 i) ||| wetS P S (P 11 i) b) 5 (P 11 i) = S 5 (P 11 i) := by simp [outS, up]
  have e10 := C_cell hC6 b6 (j := 5) (k := P 11 i) (by decide) (by decide) (by show _ < 3; omega)
  rw [o5] at e10
  unfold carS
  by_cases t : (S 5 (P 11 i)).testBit (P 12 i) = true
  · rw [if_pos t]
    obtain ⟨g7, a7, b7, c7⟩ := C_put hC6 b6 (j := 3) (k := P 11 i) (wetS P S (P 11 i) b) (by decide) (by decide) (by show _ < 3; omega)
    refine ⟨g7, ?_, b7, q6.tr c7⟩
    cases b
    · have hw0 : wetS P S (P 11 i) false = S 3 (P 11 i) := rfl
      rw [hw0] at a6 a7
      have hw : w = nI 0 := hw
      simp (disch := omega) only [DX2_carryOut, BX2_carryOut, ob_t, ob_n, ob_ite, e_cI, e_cL, e_cR, e_vI, e_vL, e_vR, e_d2, e_d2_a, e_d2_b, e_d2z, e_d2z_a, e_d2z_b, e_d1, e_d1_a, e_GI, e_GI_a, e_GL, e_GL_a, e_GR, e_GR_a, e_AI, e_AI_a, e_AI_b, e_AB, e_AB_a, e_AB_b, e_AZ, e_AZ_a, e_AZ_b, e_AL, e_AL_a, e_AL_b, e_AR, e_AR_a, e_AR_b, e_Len, e_Len_a, e_CI, e_CI_a, e_CI_b, e_CZ, e_CZ_a, e_And, e_kAnd, e_Or, e_kOr, e_Not, e_kNot, e_B, e_kB, e_T, e_kT, e_NN, e_kNN, e_NewA, e_NewA_a, e_NewC, e_kNewC, e_aN, e_aI, e_aI_a, e_aI_b, e_aL, e_aL_a, e_aL_b, e_aR, e_aR_a, e_aR_b, e_Call, e_kCall, e_CallV, e_kCallV, e_SetI, e_kSetI, e_SetL, e_kSetL, e_SetR, e_kSetR, e_Inc, e_Skip, e_Brk, e_Cnt, e_Ret, e_kRet, e_Ret0, e_Seq, e_kSeq0, e_kSeq1, e_kSeq2, e_kSeqR, e_If, e_kIf, e_Do, e_kDo, e_Sup, e_kN0, e_d3, e_k3a, e_k3b, e_k3c, e_P, e_kPa, e_kPb, e_UA, e_kUAa, e_kUAb, e_kUAc, e_UL, e_kULa, e_kULb, e_kULc, e_UF, e_kUFa, e_kUFb, e_Cp, e_kCp, e_Sw, e_kSwa, e_kSwb0, e_kSwb1, e_kSwbR, e_M1, e_kM1, e_MZ, e_kMZ, e_MN, e_kMN, e_Tv, e_kTv, e_Tc, e_kTc, e_lpS, e_kLp, e_kLpB0, e_kLpB1, e_kLpB2, e_kLpBR, e_kLpU, e_dwS, e_kDwB0, e_kDwC, f_II, f_LL, f_RR, f_IL, f_IR, f_LI, f_LR, f_RI, f_RL, o_iadd, o_isub, o_imul, o_iand, o_ior, o_ixor, o_ladd, o_lsub, o_lmul, o_land, o_lor, o_ishl, o_ishr, o_iushr, o_lshl, o_lshr, o_lcmp, o_i2l, o_l2i, o_i2b, o_i2s, o_lneg, o_ineg, o_imax, o_imin, o_idiv, o_irem, o_ldiv, o_lrem, r_lt, r_le, r_gt, r_ge, r_eq, r_ne, q_lt, q_le, q_gt, q_ge, q_eq, q_ne, decide_eq_true_eq, idI, and_true, true_and, and_false, false_and, or_true, true_or, or_false, false_or, not_true_eq_false, not_false_eq_true, if_true, if_false, ite_self, Bool.not_true, Bool.not_false, Bool.false_eq_true, Bool.true_eq_false, decide_true, decide_false, ne_eq, reduceIte, Nat.reduceEqDiff, Option.some.injEq, Prod.mk.injEq, eq_self, fa_lit, nI_add, pk_mul, nI_ltI, nI_leI, nI_eq, b01, b0, b1, x_hasBit, Nat.reduceLeDiff, Nat.reduceAdd, Nat.reduceMul, Nat.reduceSub, Nat.lt_irrefl, Nat.reduceLT, hP.k, hP.k9, hP.r8, hP.r9, hP.r10, hP.r11, hP.r12, hP.r13, hP.r14, hP.r15, hP.r16, hP.c3, hP.c4, hP.c5, hP.c6, hP.c7, hP.c8, hC.k, hC.r8, hC.r9, hC.r10, hC.r11, hC.r12, hC.r13, hC.r14, f6, f7, e1, e2, e3, e7, a1, a2, a3, a4, a5, a6, a7, k6, k7, e8, e9, e10, e88, t, hw, c1.1.1, c2.1.1, c3.1.1, c4.1.1, c5.1.1, c6.1.1, c1.1.2.1, c2.1.2.1, c3.1.2.1, c4.1.2.1, c5.1.2.1, c6.1.2.1, n_shl, fa_or]
    · have ew := ew true rfl
      rw [if_pos rfl] at ew
      have hw : w = nI 1 := hw
      simp (disch := omega) only [DX2_carryOut, BX2_carryOut, ob_t, ob_n, ob_ite, e_cI, e_cL, e_cR, e_vI, e_vL, e_vR, e_d2, e_d2_a, e_d2_b, e_d2z, e_d2z_a, e_d2z_b, e_d1, e_d1_a, e_GI, e_GI_a, e_GL, e_GL_a, e_GR, e_GR_a, e_AI, e_AI_a, e_AI_b, e_AB, e_AB_a, e_AB_b, e_AZ, e_AZ_a, e_AZ_b, e_AL, e_AL_a, e_AL_b, e_AR, e_AR_a, e_AR_b, e_Len, e_Len_a, e_CI, e_CI_a, e_CI_b, e_CZ, e_CZ_a, e_And, e_kAnd, e_Or, e_kOr, e_Not, e_kNot, e_B, e_kB, e_T, e_kT, e_NN, e_kNN, e_NewA, e_NewA_a, e_NewC, e_kNewC, e_aN, e_aI, e_aI_a, e_aI_b, e_aL, e_aL_a, e_aL_b, e_aR, e_aR_a, e_aR_b, e_Call, e_kCall, e_CallV, e_kCallV, e_SetI, e_kSetI, e_SetL, e_kSetL, e_SetR, e_kSetR, e_Inc, e_Skip, e_Brk, e_Cnt, e_Ret, e_kRet, e_Ret0, e_Seq, e_kSeq0, e_kSeq1, e_kSeq2, e_kSeqR, e_If, e_kIf, e_Do, e_kDo, e_Sup, e_kN0, e_d3, e_k3a, e_k3b, e_k3c, e_P, e_kPa, e_kPb, e_UA, e_kUAa, e_kUAb, e_kUAc, e_UL, e_kULa, e_kULb, e_kULc, e_UF, e_kUFa, e_kUFb, e_Cp, e_kCp, e_Sw, e_kSwa, e_kSwb0, e_kSwb1, e_kSwbR, e_M1, e_kM1, e_MZ, e_kMZ, e_MN, e_kMN, e_Tv, e_kTv, e_Tc, e_kTc, e_lpS, e_kLp, e_kLpB0, e_kLpB1, e_kLpB2, e_kLpBR, e_kLpU, e_dwS, e_kDwB0, e_kDwC, f_II, f_LL, f_RR, f_IL, f_IR, f_LI, f_LR, f_RI, f_RL, o_iadd, o_isub, o_imul, o_iand, o_ior, o_ixor, o_ladd, o_lsub, o_lmul, o_land, o_lor, o_ishl, o_ishr, o_iushr, o_lshl, o_lshr, o_lcmp, o_i2l, o_l2i, o_i2b, o_i2s, o_lneg, o_ineg, o_imax, o_imin, o_idiv, o_irem, o_ldiv, o_lrem, r_lt, r_le, r_gt, r_ge, r_eq, r_ne, q_lt, q_le, q_gt, q_ge, q_eq, q_ne, decide_eq_true_eq, idI, and_true, true_and, and_false, false_and, or_true, true_or, or_false, false_or, not_true_eq_false, not_false_eq_true, if_true, if_false, ite_self, Bool.not_true, Bool.not_false, Bool.false_eq_true, Bool.true_eq_false, decide_true, decide_false, ne_eq, reduceIte, Nat.reduceEqDiff, Option.some.injEq, Prod.mk.injEq, eq_self, fa_lit, nI_add, pk_mul, nI_ltI, nI_leI, nI_eq, b01, b0, b1, x_hasBit, Nat.reduceLeDiff, Nat.reduceAdd, Nat.reduceMul, Nat.reduceSub, Nat.lt_irrefl, Nat.reduceLT, hP.k, hP.k9, hP.r8, hP.r9, hP.r10, hP.r11, hP.r12, hP.r13, hP.r14, hP.r15, hP.r16, hP.c3, hP.c4, hP.c5, hP.c6, hP.c7, hP.c8, hC.k, hC.r8, hC.r9, hC.r10, hC.r11, hC.r12, hC.r13, hC.r14, f6, f7, e1, e2, e3, e7, a1, a2, a3, a4, a5, a6, a7, k6, k7, e8, e9, e10, e88, t, hw, ew, c1.1.1, c2.1.1, c3.1.1, c4.1.1, c5.1.1, c6.1.1, c1.1.2.1, c2.1.2.1, c3.1.2.1, c4.1.2.1, c5.1.2.1, c6.1.2.1, n_shl, fa_or]
  · rw [if_neg t]
    obtain ⟨g7, a7, b7, c7⟩ := C_put hC6 b6 (j := 5) (k := P 11 i) (S 5 (P 11 i) ||| 2 ^ P 12 i) (by decide) (by decide) (by show _ < 3; omega)
    have hC7 := hC6.to c7.1
    have q7 := q6.tr c7
    have hG7 := hG'.cc q7 hd
    have wl : wetS P S (P 11 i) b < 2 ^ P 7 (P 11 i) := by omega
    have e11 := x_leftByLaw hG7.s hG7.r hG7.w hs (l := wetS P S (P 11 i) b) (law := S 0 0) (by omega) (fun j _ hb => bit_lt wl hb) hx.1
    have f00 : hi g7 c 0 = nI (S 0 0) := b7 0 0 (by unfold CIn; exact ⟨by decide, by decide⟩)
    obtain ⟨g8, a8, b8, c8⟩ := C_put hC7 b7 (j := 3) (k := P 11 i) (rubL P (P 11 i) (wetS P S (P 11 i) b) (S 0 0)) (by decide) (by decide) (by show _ < 3; omega)
    refine ⟨g8, ?_, b8, q7.tr c8⟩
    cases b
    · have hw0 : wetS P S (P 11 i) false = S 3 (P 11 i) := rfl
      rw [hw0] at a6 a8 e11
      have hw : w = nI 0 := hw
      simp (disch := omega) only [DX2_carryOut, BX2_carryOut, ob_t, ob_n, ob_ite, e_cI, e_cL, e_cR, e_vI, e_vL, e_vR, e_d2, e_d2_a, e_d2_b, e_d2z, e_d2z_a, e_d2z_b, e_d1, e_d1_a, e_GI, e_GI_a, e_GL, e_GL_a, e_GR, e_GR_a, e_AI, e_AI_a, e_AI_b, e_AB, e_AB_a, e_AB_b, e_AZ, e_AZ_a, e_AZ_b, e_AL, e_AL_a, e_AL_b, e_AR, e_AR_a, e_AR_b, e_Len, e_Len_a, e_CI, e_CI_a, e_CI_b, e_CZ, e_CZ_a, e_And, e_kAnd, e_Or, e_kOr, e_Not, e_kNot, e_B, e_kB, e_T, e_kT, e_NN, e_kNN, e_NewA, e_NewA_a, e_NewC, e_kNewC, e_aN, e_aI, e_aI_a, e_aI_b, e_aL, e_aL_a, e_aL_b, e_aR, e_aR_a, e_aR_b, e_Call, e_kCall, e_CallV, e_kCallV, e_SetI, e_kSetI, e_SetL, e_kSetL, e_SetR, e_kSetR, e_Inc, e_Skip, e_Brk, e_Cnt, e_Ret, e_kRet, e_Ret0, e_Seq, e_kSeq0, e_kSeq1, e_kSeq2, e_kSeqR, e_If, e_kIf, e_Do, e_kDo, e_Sup, e_kN0, e_d3, e_k3a, e_k3b, e_k3c, e_P, e_kPa, e_kPb, e_UA, e_kUAa, e_kUAb, e_kUAc, e_UL, e_kULa, e_kULb, e_kULc, e_UF, e_kUFa, e_kUFb, e_Cp, e_kCp, e_Sw, e_kSwa, e_kSwb0, e_kSwb1, e_kSwbR, e_M1, e_kM1, e_MZ, e_kMZ, e_MN, e_kMN, e_Tv, e_kTv, e_Tc, e_kTc, e_lpS, e_kLp, e_kLpB0, e_kLpB1, e_kLpB2, e_kLpBR, e_kLpU, e_dwS, e_kDwB0, e_kDwC, f_II, f_LL, f_RR, f_IL, f_IR, f_LI, f_LR, f_RI, f_RL, o_iadd, o_isub, o_imul, o_iand, o_ior, o_ixor, o_ladd, o_lsub, o_lmul, o_land, o_lor, o_ishl, o_ishr, o_iushr, o_lshl, o_lshr, o_lcmp, o_i2l, o_l2i, o_i2b, o_i2s, o_lneg, o_ineg, o_imax, o_imin, o_idiv, o_irem, o_ldiv, o_lrem, r_lt, r_le, r_gt, r_ge, r_eq, r_ne, q_lt, q_le, q_gt, q_ge, q_eq, q_ne, decide_eq_true_eq, idI, and_true, true_and, and_false, false_and, or_true, true_or, or_false, false_or, not_true_eq_false, not_false_eq_true, if_true, if_false, ite_self, Bool.not_true, Bool.not_false, Bool.false_eq_true, Bool.true_eq_false, decide_true, decide_false, ne_eq, reduceIte, Nat.reduceEqDiff, Option.some.injEq, Prod.mk.injEq, eq_self, fa_lit, nI_add, pk_mul, nI_ltI, nI_leI, nI_eq, b01, b0, b1, x_hasBit, Nat.reduceLeDiff, Nat.reduceAdd, Nat.reduceMul, Nat.reduceSub, Nat.lt_irrefl, Nat.reduceLT, hP.k, hP.k9, hP.r8, hP.r9, hP.r10, hP.r11, hP.r12, hP.r13, hP.r14, hP.r15, hP.r16, hP.c3, hP.c4, hP.c5, hP.c6, hP.c7, hP.c8, hC.k, hC.r8, hC.r9, hC.r10, hC.r11, hC.r12, hC.r13, hC.r14, f6, f7, e1, e2, e3, e7, a1, a2, a3, a4, a5, a6, a7, a8, k6, k7, e8, e9, e10, e11, f00, e88, t, hw, c1.1.1, c2.1.1, c3.1.1, c4.1.1, c5.1.1, c6.1.1, c7.1.1, c1.1.2.1, c2.1.2.1, c3.1.2.1, c4.1.2.1, c5.1.2.1, c6.1.2.1, c7.1.2.1, n_shl, fa_or]
    · have ew := ew true rfl
      rw [if_pos rfl] at ew
      have hw : w = nI 1 := hw
      simp (disch := omega) only [DX2_carryOut, BX2_carryOut, ob_t, ob_n, ob_ite, e_cI, e_cL, e_cR, e_vI, e_vL, e_vR, e_d2, e_d2_a, e_d2_b, e_d2z, e_d2z_a, e_d2z_b, e_d1, e_d1_a, e_GI, e_GI_a, e_GL, e_GL_a, e_GR, e_GR_a, e_AI, e_AI_a, e_AI_b, e_AB, e_AB_a, e_AB_b, e_AZ, e_AZ_a, e_AZ_b, e_AL, e_AL_a, e_AL_b, e_AR, e_AR_a, e_AR_b, e_Len, e_Len_a, e_CI, e_CI_a, e_CI_b, e_CZ, e_CZ_a, e_And, e_kAnd, e_Or, e_kOr, e_Not, e_kNot, e_B, e_kB, e_T, e_kT, e_NN, e_kNN, e_NewA, e_NewA_a, e_NewC, e_kNewC, e_aN, e_aI, e_aI_a, e_aI_b, e_aL, e_aL_a, e_aL_b, e_aR, e_aR_a, e_aR_b, e_Call, e_kCall, e_CallV, e_kCallV, e_SetI, e_kSetI, e_SetL, e_kSetL, e_SetR, e_kSetR, e_Inc, e_Skip, e_Brk, e_Cnt, e_Ret, e_kRet, e_Ret0, e_Seq, e_kSeq0, e_kSeq1, e_kSeq2, e_kSeqR, e_If, e_kIf, e_Do, e_kDo, e_Sup, e_kN0, e_d3, e_k3a, e_k3b, e_k3c, e_P, e_kPa, e_kPb, e_UA, e_kUAa, e_kUAb, e_kUAc, e_UL, e_kULa, e_kULb, e_kULc, e_UF, e_kUFa, e_kUFb, e_Cp, e_kCp, e_Sw, e_kSwa, e_kSwb0, e_kSwb1, e_kSwbR, e_M1, e_kM1, e_MZ, e_kMZ, e_MN, e_kMN, e_Tv, e_kTv, e_Tc, e_kTc, e_lpS, e_kLp, e_kLpB0, e_kLpB1, e_kLpB2, e_kLpBR, e_kLpU, e_dwS, e_kDwB0, e_kDwC, f_II, f_LL, f_RR, f_IL, f_IR, f_LI, f_LR, f_RI, f_RL, o_iadd, o_isub, o_imul, o_iand, o_ior, o_ixor, o_ladd, o_lsub, o_lmul, o_land, o_lor, o_ishl, o_ishr, o_iushr, o_lshl, o_lshr, o_lcmp, o_i2l, o_l2i, o_i2b, o_i2s, o_lneg, o_ineg, o_imax, o_imin, o_idiv, o_irem, o_ldiv, o_lrem, r_lt, r_le, r_gt, r_ge, r_eq, r_ne, q_lt, q_le, q_gt, q_ge, q_eq, q_ne, decide_eq_true_eq, idI, and_true, true_and, and_false, false_and, or_true, true_or, or_false, false_or, not_true_eq_false, not_false_eq_true, if_true, if_false, ite_self, Bool.not_true, Bool.not_false, Bool.false_eq_true, Bool.true_eq_false, decide_true, decide_false, ne_eq, reduceIte, Nat.reduceEqDiff, Option.some.injEq, Prod.mk.injEq, eq_self, fa_lit, nI_add, pk_mul, nI_ltI, nI_leI, nI_eq, b01, b0, b1, x_hasBit, Nat.reduceLeDiff, Nat.reduceAdd, Nat.reduceMul, Nat.reduceSub, Nat.lt_irrefl, Nat.reduceLT, hP.k, hP.k9, hP.r8, hP.r9, hP.r10, hP.r11, hP.r12, hP.r13, hP.r14, hP.r15, hP.r16, hP.c3, hP.c4, hP.c5, hP.c6, hP.c7, hP.c8, hC.k, hC.r8, hC.r9, hC.r10, hC.r11, hC.r12, hC.r13, hC.r14, f6, f7, e1, e2, e3, e7, a1, a2, a3, a4, a5, a6, a7, a8, k6, k7, e8, e9, e10, e11, f00, e88, t, hw, ew, c1.1.1, c2.1.1, c3.1.1, c4.1.1, c5.1.1, c6.1.1, c7.1.1, c1.1.2.1, c2.1.2.1, c3.1.2.1, c4.1.2.1, c5.1.2.1, c6.1.2.1, c7.1.2.1, n_shl, fa_or]
end
