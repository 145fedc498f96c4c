set_option maxRecDepth 100000
set_option maxHeartbeats 4000000
/-! the law: houses that shut and share -/
theorem sh_is (p q x y : Nat) (hx : x < 2) (hy : y < 2) : x * 2 ^ p ||| y * 2 ^ q = shE p q x y := by
  have e : ∀ u z, u < 2 → u * 2 ^ z = if u = 0 then 0 else 2 ^ z := fun u z hu => by
    by_cases w : u = 0
    · rw [if_pos w, w, Nat.zero_mul]
    · rw [if_neg w, show u = 1 by omega, Nat.one_mul]
  rw [e x p hx, e y q hy]
  rfl
theorem sh_bit {p q x y : Nat} (hpq : p ≠ q) (hx : x < 2) : (if (shE p q x y).testBit p = true then 2 else 0) = 2 * x := by
  have e : (shE p q x y).testBit p = decide (x ≠ 0) := by
    unfold shE
    rw [Nat.testBit_or]
    have e2 : (if y = 0 then 0 else 2 ^ q).testBit p = false := by
      split
      · exact Nat.zero_testBit _
      · rw [Nat.testBit_two_pow]
        exact decide_eq_false (fun z => hpq z.symm)
    rw [e2, Bool.or_false]
    by_cases w : x = 0
    · rw [if_pos w, Nat.zero_testBit]
      exact (decide_eq_false (fun z => z w)).symm
    · rw [if_neg w, Nat.testBit_two_pow]
      rw [decide_eq_true rfl, decide_eq_true w]
  rw [e]
  by_cases w : x = 0
  · rw [if_neg (by rw [decide_eq_true_eq]; exact fun z => z w), w]
  · rw [if_pos (decide_eq_true w)]
    omega
section
variable {L : Nat} {xs : Nat → Int32} {h g : St} {P C C' : PT} {a b : Nat}
section
variable {D S A l x : Nat} {F19 F20 F21 F22 F23 : Int32}
theorem x_l11 {p q : Nat} (H : LW L xs h P (told P) a b) (hl : l < P 0 7) (eD : D = P 0 1) (hp : p < P 0 4) (hq : q < P 0 4) (hpq : p ≠ q) : ∃ (g : St) (C' : PT), Llaw_11 (sI (sI (sI (sI (sI (sI (sI (sI (sI (sI (sR (sR (sR (sR (sR (sI (sI (sR (sR (sR (sR (sR (sR (sR (sR (sR (sR fr0 0 1) 1 31) 2 122) 3 123) 4 124) 5 125) 6 126) 7 127) 8 128) 9 129) 10 (nI D)) 11 (nI S)) 12 130) 13 131) 14 132) 15 133) 16 134) 17 (nI A)) 18 (nI l)) 19 F19) 20 F20) 21 F21) 22 F22) 23 F23) 24 (nI p)) 25 (nI q)) 26 (nI 0)) h = some (.inl 0, sI (sI (sI (sI (sI (sI (sI (sI (sI (sI (sR (sR (sR (sR (sR (sI (sI (sR (sR (sR (sR (sR (sR (sR (sR (sR (sR fr0 0 1) 1 31) 2 122) 3 123) 4 124) 5 125) 6 126) 7 127) 8 128) 9 129) 10 (nI D)) 11 (nI S)) 12 130) 13 131) 14 132) 15 133) 16 134) 17 (nI A)) 18 (nI l)) 19 F19) 20 F20) 21 F21) 22 F22) 23 F23) 24 (nI p)) 25 (nI q)) 26 (nI 4), g) ∧ LW L xs g P C' (a + 8) (b + 24) ∧ (C' 0 0 = P 0 2 ∧ C' 0 1 = 0 ∧ C' 0 3 = 0 ∧ C' 0 4 = 0 ∧ C' 0 5 = 0) := by
  suffices hh : ∃ g, Llaw_11 (sI (sI (sI (sI (sI (sI (sI (sI (sI (sI (sR (sR (sR (sR (sR (sI (sI (sR (sR (sR (sR (sR (sR (sR (sR (sR (sR fr0 0 1) 1 31) 2 122) 3 123) 4 124) 5 125) 6 126) 7 127) 8 128) 9 129) 10 (nI D)) 11 (nI S)) 12 130) 13 131) 14 132) 15 133) 16 134) 17 (nI A)) 18 (nI l)) 19 F19) 20 F20) 21 F21) 22 F22) 23 F23) 24 (nI p)) 25 (nI q)) 26 (nI 0)) h = some (.inl 0, sI (sI (sI (sI (sI (sI (sI (sI (sI (sI (sR (sR (sR (sR (sR (sI (sI (sR (sR (sR (sR (sR (sR (sR (sR (sR (sR fr0 0 1) 1 31) 2 122) 3 123) 4 124) 5 125) 6 126) 7 127) 8 128) 9 129) 10 (nI D)) 11 (nI S)) 12 130) 13 131) 14 132) 15 133) 16 134) 17 (nI A)) 18 (nI l)) 19 F19) 20 F20) 21 F21) 22 F22) 23 F23) 24 (nI p)) 25 (nI q)) 26 (nI 4), g) ∧ ∃ C', LW L xs g P C' (a + 2 * 4) (b + 6 * 4) ∧ (C' 0 0 = P 0 2 ∧ C' 0 1 = 0 ∧ C' 0 3 = 0 ∧ C' 0 4 = 0 ∧ C' 0 5 = 0) by
    obtain ⟨g, x, C', y⟩ := hh
    exact ⟨g, C', x, y⟩
  have hW := H.1.w
  have hb := hW.all
  unfold Llaw_11
  refine loop_g (fun k => sI (sI (sI (sI (sI (sI (sI (sI (sI (sI (sR (sR (sR (sR (sR (sI (sI (sR (sR (sR (sR (sR (sR (sR (sR (sR (sR fr0 0 1) 1 31) 2 122) 3 123) 4 124) 5 125) 6 126) 7 127) 8 128) 9 129) 10 (nI D)) 11 (nI S)) 12 130) 13 131) 14 132) 15 133) 16 134) 17 (nI A)) 18 (nI l)) 19 F19) 20 F20) 21 F21) 22 F22) 23 F23) 24 (nI p)) 25 (nI q)) 26 (nI k)) (fun k g => ∃ C', LW L xs g P C' (a + 2 * k) (b + 6 * k) ∧ (C' 0 0 = P 0 2 ∧ C' 0 1 = 0 ∧ C' 0 3 = 0 ∧ C' 0 4 = 0 ∧ C' 0 5 = 0)) 4 rfl ⟨told P, H, rfl, rfl, rfl, rfl, rfl⟩ (fun k g hk1 hI => ?_) (fun g hI => ?_)
  · obtain ⟨C1, H1, y0, y1, y3, y4, y5⟩ := hI
    obtain ⟨xx, exx⟩ : ∃ xx, xx = k % 2 := ⟨_, rfl⟩
    obtain ⟨yy, eyy⟩ : ∃ yy, yy = k / 2 := ⟨_, rfl⟩
    have hxx : xx < 2 := by omega
    have hyy : yy < 2 := by omega
    have d1 : o_irem (nI k) (nI 2) = nI xx := by rw [exx]; exact q_irem (by omega) (by decide) (by decide)
    have d2 : o_idiv (nI k) (nI 2) = nI yy := by rw [eyy]; exact q_idiv (by omega) (by decide) (by decide)
    have pp : 2 ^ p < 2 ^ 8 := pow_lt (by omega)
    have pq : 2 ^ q < 2 ^ 8 := pow_lt (by omega)
    have mp : xx * 2 ^ p ≤ 1 * 2 ^ p := Nat.mul_le_mul_right _ (by omega)
    have mq : yy * 2 ^ q ≤ 1 * 2 ^ q := Nat.mul_le_mul_right _ (by omega)
    have s1 : o_ishl (nI xx) (nI p) = nI (xx * 2 ^ p) := q_ishl (by omega) (by omega)
    have s2 : o_ishl (nI yy) (nI q) = nI (yy * 2 ^ q) := q_ishl (by omega) (by omega)
    obtain ⟨sh, esh⟩ : ∃ sh, sh = shE p q xx yy := ⟨_, rfl⟩
    have s3 : nI (xx * 2 ^ p) ||| nI (yy * 2 ^ q) = nI sh := by rw [fa_or, sh_is p q xx yy hxx hyy, esh]
    have sh_l : sh < 256 := by rw [esh]; exact shE_lt (by omega) (by omega) _ _
    obtain ⟨h2, eh⟩ : ∃ z, z = wI g 124 7 (nI sh) := ⟨_, rfl⟩
    have H2 : LW L xs h2 P (whT P 2 sh) (a + 2 * k) (b + 6 * k) := by
      rw [eh]
      refine H1.tw (fun tf ⟨t0, t1, t2, t3, t4, t5, t6, t7⟩ => ⟨t0, ?_, t2, t3, t4, t5, ?_, rfl⟩) ?_ ?_
      · show tf 1 = P 0 2
        rw [t1, y0]
      · show tf 6 = 0
        rw [t6, y3]
      · rw [y4]; rfl
      · rw [y5]; rfl
    have hX : WFX P (whT P 2 sh) := WFX_wh hW Z0 (Or.inr (Or.inr (Or.inl ⟨rfl, sh_l⟩)))
    obtain ⟨g3, x3, H3, G3, -⟩ := H2.run hX rfl
    obtain ⟨g4, v, I4⟩ := c_gets H3.1 hl hp hq hpq hxx hyy
    obtain ⟨wv, ewv⟩ : ∃ wv, wv = runN P (whT P 2 sh) (P 0 1) 4 (8 * l + p) := ⟨_, rfl⟩
    have gt : gtE P l p (shE p q xx yy) = pop wv + 2 * xx := by
      unfold gtE
      rw [sh_bit hpq hxx, ← esh, ewv]
    have x4 : DX11_gets (sI (sI (sI (sI (sI (sR fr0 0 31) 1 (nI l)) 2 (nI p)) 3 (nI q)) 4 (nI xx)) 5 (nI yy)) g3 = some (nI (pop wv + 2 * xx), g4) := by
      rw [← gt]
      exact v
    have H4 := H3.call I4
    have G4 := G3.call I4
    obtain ⟨⟨tf, t1, t2⟩, -⟩ := H1.2.2.1
    have kt := t1.1
    obtain ⟨-, -, -, -, -, -, ⟨-, -, k132, -⟩, -⟩ := H4.2.2.1
    have kX : hk g3 31 = (11, 0) := H3.1.co.koX
    obtain ⟨-, -, qq⟩ := G4.1 (P 0 1) (Nat.le_refl _)
    obtain ⟨m, m1, m2, m3⟩ := qq l hl
    have a1 := x_kno (h := g4) m (x := p) (by omega) (by omega)
    rw [show m / 2 ^ (6 * p) % 64 = wv from (m3 p (by omega)).trans ewv.symm] at a1
    have w64 : wv < 64 := by
      have e := fld_lt m (6 * p) 6
      have e2 : wv = fld m (6 * p) 6 := ewv.trans (m3 p (by omega)).symm
      omega
    have a2 := x_size (h := g4) (n := wv) (by omega)
    rw [← eD] at m1
    have i39 : 3 * D + l < 39 := by omega
    refine ⟨g4, ?_, whT P 2 sh, H4.le (by omega) (by omega), rfl, rfl, rfl, rfl, rfl⟩
    simp (maxSteps := 4000000) (disch := omega) only [ob_t, ob_n, ob_ite, e_cI, e_cL, e_cR, e_vI, e_vL, e_vR, e_d2, e_d2_a, e_d2_b, e_d2z, e_d2z_a, e_d2z_b, e_d1, e_d1_a, e_GI, e_GI_a, e_GL, e_GL_a, e_GR, e_GR_a, e_AI, e_AI_a, e_AI_b, e_AB, e_AB_a, e_AB_b, e_AZ, e_AZ_a, e_AZ_b, e_AL, e_AL_a, e_AL_b, e_AR, e_AR_a, e_AR_b, e_Len, e_Len_a, e_CI, e_CI_a, e_CI_b, e_CZ, e_CZ_a, e_And, e_kAnd, e_Or, e_kOr, e_Not, e_kNot, e_B, e_kB, e_T, e_kT, e_NN, e_kNN, e_NewA, e_NewA_a, e_NewC, e_kNewC, e_aN, e_aI, e_aI_a, e_aI_b, e_aL, e_aL_a, e_aL_b, e_aR, e_aR_a, e_aR_b, e_Call, e_kCall, e_CallV, e_kCallV, e_SetI, e_kSetI, e_SetL, e_kSetL, e_SetR, e_kSetR, e_Inc, e_Skip, e_Brk, e_Cnt, e_Ret, e_kRet, e_Ret0, e_Seq, e_kSeq0, e_kSeq1, e_kSeq2, e_kSeqR, e_If, e_kIf, e_Do, e_kDo, e_Sup, e_kN0, e_d3, e_k3a, e_k3b, e_k3c, e_P, e_kPa, e_kPb, e_UA, e_kUAa, e_kUAb, e_kUAc, e_UL, e_kULa, e_kULb, e_kULc, e_UF, e_kUFa, e_kUFb, e_Cp, e_kCp, e_Sw, e_kSwa, e_kSwb0, e_kSwb1, e_kSwbR, e_M1, e_kM1, e_MZ, e_kMZ, e_MN, e_kMN, e_Tv, e_kTv, e_Tc, e_kTc, e_lpS, e_kLp, e_kLpB0, e_kLpB1, e_kLpB2, e_kLpBR, e_kLpU, e_dwS, e_kDwB0, e_kDwC, f_II, f_LL, f_RR, f_IL, f_IR, f_LI, f_LR, f_RI, f_RL, o_iadd, o_isub, o_imul, o_iand, o_ior, o_ixor, o_ladd, o_lsub, o_lmul, o_land, o_lor, o_i2b, o_i2s, o_lneg, o_imax, o_imin, r_lt, r_le, r_gt, r_ge, r_eq, r_ne, q_lt, q_le, q_gt, q_ge, q_eq, q_ne, decide_eq_true_eq, idI, and_true, true_and, and_false, false_and, or_true, true_or, or_false, false_or, not_true_eq_false, not_false_eq_true, if_true, if_false, ite_self, Bool.not_true, Bool.not_false, Bool.false_eq_true, Bool.true_eq_false, decide_true, decide_false, ne_eq, reduceIte, Nat.reduceEqDiff, Option.some.injEq, Prod.mk.injEq, eq_self, n_inb, nI_clamp, w_hr, w_hk, w_hl, w_eq, w_ne, wl_hr, wl_hk, wl_hi, wl_eq, wl_ne, fa_lit, fa_litL, nI_add, pk_mul, nI_ltI, nI_leI, nI_eq, b01, b0, b1, Nat.reduceLeDiff, Nat.reduceAdd, Nat.reduceMul, Nat.reduceSub, Nat.lt_irrefl, Nat.reduceLT, f_ss, f_sR, f_sL, lc0, lc1, lc01, stI, stL, hk1, kt, d1, d2, s1, s2, s3, ← eh, x3, kX, x4, k132, m1, i39, a1, a2]
  · refine lp_out ?_
    simp (maxSteps := 4000000) (disch := omega) only [ob_t, ob_n, ob_ite, e_cI, e_cL, e_cR, e_vI, e_vL, e_vR, e_d2, e_d2_a, e_d2_b, e_d2z, e_d2z_a, e_d2z_b, e_d1, e_d1_a, e_GI, e_GI_a, e_GL, e_GL_a, e_GR, e_GR_a, e_AI, e_AI_a, e_AI_b, e_AB, e_AB_a, e_AB_b, e_AZ, e_AZ_a, e_AZ_b, e_AL, e_AL_a, e_AL_b, e_AR, e_AR_a, e_AR_b, e_Len, e_Len_a, e_CI, e_CI_a, e_CI_b, e_CZ, e_CZ_a, e_And, e_kAnd, e_Or, e_kOr, e_Not, e_kNot, e_B, e_kB, e_T, e_kT, e_NN, e_kNN, e_NewA, e_NewA_a, e_NewC, e_kNewC, e_aN, e_aI, e_aI_a, e_aI_b, e_aL, e_aL_a, e_aL_b, e_aR, e_aR_a, e_aR_b, e_Call, e_kCall, e_CallV, e_kCallV, e_SetI, e_kSetI, e_SetL, e_kSetL, e_SetR, e_kSetR, e_Inc, e_Skip, e_Brk, e_Cnt, e_Ret, e_kRet, e_Ret0, e_Seq, e_kSeq0, e_kSeq1, e_kSeq2, e_kSeqR, e_If, e_kIf, e_Do, e_kDo, e_Sup, e_kN0, e_d3, e_k3a, e_k3b, e_k3c, e_P, e_kPa, e_kPb, e_UA, e_kUAa, e_kUAb, e_kUAc, e_UL, e_kULa, e_kULb, e_kULc, e_UF, e_kUFa, e_kUFb, e_Cp, e_kCp, e_Sw, e_kSwa, e_kSwb0, e_kSwb1, e_kSwbR, e_M1, e_kM1, e_MZ, e_kMZ, e_MN, e_kMN, e_Tv, e_kTv, e_Tc, e_kTc, e_lpS, e_kLp, e_kLpB0, e_kLpB1, e_kLpB2, e_kLpBR, e_kLpU, e_dwS, e_kDwB0, e_kDwC, f_II, f_LL, f_RR, f_IL, f_IR, f_LI, f_LR, f_RI, f_RL, o_iadd, o_isub, o_imul, o_iand, o_ior, o_ixor, o_ladd, o_lsub, o_lmul, o_land, o_lor, o_i2b, o_i2s, o_lneg, o_imax, o_imin, r_lt, r_le, r_gt, r_ge, r_eq, r_ne, q_lt, q_le, q_gt, q_ge, q_eq, q_ne, decide_eq_true_eq, idI, and_true, true_and, and_false, false_and, or_true, true_or, or_false, false_or, not_true_eq_false, not_false_eq_true, if_true, if_false, ite_self, Bool.not_true, Bool.not_false, Bool.false_eq_true, Bool.true_eq_false, decide_true, decide_false, ne_eq, reduceIte, Nat.reduceEqDiff, Option.some.injEq, Prod.mk.injEq, eq_self, n_inb, nI_clamp, w_hr, w_hk, w_hl, w_eq, w_ne, wl_hr, wl_hk, wl_hi, wl_eq, wl_ne, fa_lit, fa_litL, nI_add, pk_mul, nI_ltI, nI_leI, nI_eq, b01, b0, b1, Nat.reduceLeDiff, Nat.reduceAdd, Nat.reduceMul, Nat.reduceSub, Nat.lt_irrefl, Nat.reduceLT, f_ss, f_sR, f_sL, lc0, lc1, lc01, stI, stL, ]
end
end
