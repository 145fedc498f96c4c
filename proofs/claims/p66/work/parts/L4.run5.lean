set_option maxRecDepth 100000
set_option maxHeartbeats 8000000
/-! the law's own going through: the CARRIES of a DAY -/
section
variable {h g : St} {P C S : PT} {e d : Nat}
theorem RJ.w {a : Nat × Nat × Nat} {i v : Nat} (J : RJ g P C S e a) (hW : WFP P) (he : 135 ≤ e) (hv : v ≤ 5) : RJ (wI g 133 i (nI v)) P C (up S 6 i v) e a := by
  obtain ⟨j1, j2, j3, j4, j5, j6, j7, j8, j9, j10, j11⟩ := J
  have eu : ∀ j k, j ≠ 6 → up S 6 i v j k = S j k := fun j k q => by unfold up; rw [if_neg (fun z => q z.1)]
  refine ⟨j1.ch (Ch.w (D := fun o => o = 133) rfl g i _) (fun o h1 h2 h3 => by omega), j2, j3, ⟨j4.1, fun m hm => by rw [eu _ _ (by decide)]; exact j4.2 m hm⟩, ⟨j5.1, fun s hs => by rw [eu _ _ (by decide), eu _ _ (by decide)]; exact j5.2 s hs⟩, ⟨j6.1, fun m hm => by rw [eu _ _ (by decide)]; exact j6.2.1 m hm, fun s hs => by rw [eu _ _ (by decide)]; exact j6.2.2 s hs⟩, fun s hs => ?_, fun s hs => ?_, fun j hj => ?_, ?_, fun k hk1 => ?_⟩
  · rw [eu _ _ (by decide), w_ne (by omega)]; exact j7 s hs
  · obtain ⟨n, n1, n2⟩ := j8 s hs
    exact ⟨n, n1, n2.1, fun x hx => by rw [eu _ _ (by decide)]; exact n2.2 x hx⟩
  · unfold up
    by_cases z : j = i
    · subst z
      rw [if_pos ⟨rfl, rfl⟩, w_eq]
    · rw [if_neg (fun y => z y.2), w_ne (by omega)]
      exact j9 j hj
  · refine WFS_up j10 ?_ ?_ ?_ ?_ ?_ ?_ ?_ ?_ ?_ ?_ <;> (try omega) <;> intros <;> omega
  · rw [eu _ _ (by decide)]; exact j11 k hk1
theorem x_run5 (hW : WFP P) (hC1 : C 0 1 = 0) (he : 135 ≤ e) (hd : d < P 0 1) {men sl : Nat} (J : RJ h P C (dayN P S d 0) e (men, sl, 0)) : ∃ a g, LL_run_5 (sI (sI (sI (rF0 e men sl) 15 (nI d)) 16 (nI 0)) 17 (nI 0)) h = some (.inl 0, sI (sI (sI (rF0 e a.1 a.2.1) 15 (nI d)) 16 (nI a.2.2)) 17 (nI (P 9 1)), g) ∧ RJ g P C (dayN P S d (P 9 1)) e a ∧ Ch (rD5 e) h g := by
  have hb := hW.all
  unfold LL_run_5
  refine loop_a (fun k (a : Nat × Nat × Nat) => sI (sI (sI (rF0 e a.1 a.2.1) 15 (nI d)) 16 (nI a.2.2)) 17 (nI k)) (fun k a g => RJ g P C (dayN P S d k) e a ∧ Ch (rD5 e) h g) (P 9 1) (men, sl, 0) rfl ⟨J, Ch.rf _ _⟩ (fun i a g hi1 hI => ?_) (fun a g hI => ?_)
  · obtain ⟨men, sl, gone⟩ := a
    obtain ⟨J, qh⟩ := hI
    obtain ⟨T, hT⟩ : ∃ T, T = dayN P S d i := ⟨_, rfl⟩
    have eS : dayN P S d (i + 1) = stepS P T d i := by rw [hT]; rfl
    rw [← hT] at J
    rw [eS]
    have J0 := J
    obtain ⟨j1, j2, j3, j4, j5, j6, j7, j8, j9, j10, j11⟩ := J
    have h16 := j1.2.2.2.2.2.2.2
    obtain ⟨⟨kt, t0, t1, t2, t3, t4, t5, t6, t7⟩, ⟨kv, vv⟩, ⟨kz, zz⟩, ⟨kq, qq⟩, -⟩ := j1.v
    obtain ⟨k130, k131, k132, k133, k134⟩ := j1.2.2.2.2.2.2.1
    obtain ⟨wf, aw, wR⟩ := j1.2.2.2.1
    obtain ⟨y10, y11, y12, y13⟩ := qq i hi1
    obtain ⟨hm, hs, ha, hd11⟩ := hW.cy hi1
    obtain ⟨m, em⟩ : ∃ m, m = P 10 i := ⟨_, rfl⟩
    obtain ⟨s, es⟩ : ∃ s, s = P 11 i := ⟨_, rfl⟩
    obtain ⟨to, et⟩ : ∃ to, to = P 12 i := ⟨_, rfl⟩
    rw [← em] at y10 hm
    rw [← es] at y11 hs
    rw [← et] at y12 ha
    have hm5 : m < 5 := by omega
    have hs3 : s < 3 := by omega
    by_cases z1 : P 13 i = d
    · have fm : men / 2 ^ (4 * m) % 16 = T 1 m := j4.2 m hm
      have fs2 : sl / 2 ^ (10 * s) % 16 = T 2 s := (j5.2 s hs).1
      have fs3 : sl / 2 ^ (10 * s + 4) % 64 = T 3 s := (j5.2 s hs).2
      have hmen : men < 2 ^ 20 := j4.1
      have hsl : sl < 2 ^ 30 := j5.1
      have hgo : gone < 2 ^ 11 := j6.1
      have gb1 := bit_div gone m
      rw [j6.2.1 m hm5] at gb1
      have gb2 := bit_div gone (8 + s)
      rw [j6.2.2 s hs3] at gb2
      have w1 := j10.2.2.2.1 m hm
      have w2 := j10.2.2.2.2.1 s hs
      have w3 := j10.2.2.2.2.2.1 s hs
      have w5 := j10.2.2.2.2.2.2.1 s hs
      have h64 := pw6 hW hs
      have hh : hinS P T i = if (T 0 6).testBit m = true ∨ (T 0 7).testBit s = true then 2 else if T 1 m ≠ T 2 s then 3 else if (T 0 2).testBit to = true ∨ ¬ (doors P (T 2 s) (T 0 1)).testBit to = true then 4 else if P 5 m < loadS P T s to then 5 else 0 := by
        unfold hinS
        rw [em, es, et]
      have est : stepS P T d i = if hinS P T i = 0 then carS P (up T 6 i (hinS P T i)) i ((T 0 3).testBit d) else up T 6 i (hinS P T i) := if_pos z1
      by_cases c1 : (T 0 6).testBit m = true ∨ (T 0 7).testBit s = true
      · rw [if_pos c1] at hh
        rw [hh, if_neg (by decide)] at est
        rw [est]
        refine ⟨(men, sl, gone), wI g 133 i (nI 2), ?_, J0.w hW he (by decide), qh.tr (Ch.w (D := rD5 e) (Or.inl rfl) g i _)⟩
        have cb : (gone / 2 ^ m % 2 = 1 ∨ gone / 2 ^ (8 + s) % 2 = 1) = True := by
          rw [gb1, gb2]
          refine eq_true (c1.elim (fun q => Or.inl ?_) (fun q => Or.inr ?_))
          · rw [if_pos q]
          · rw [if_pos q]
        by_cases c11 : (T 0 6).testBit m = true
        · rw [if_pos c11] at gb1
          simp (maxSteps := 4000000) (disch := omega) only [ob_t, ob_n, ob_ite, e_cI, e_cL, e_cR, e_vI, e_vL, e_vR, e_d2, e_d2_a, e_d2_b, e_d2z, e_d2z_a, e_d2z_b, e_d1, e_d1_a, e_GI, e_GI_a, e_GL, e_GL_a, e_GR, e_GR_a, e_AI, e_AI_a, e_AI_b, e_AB, e_AB_a, e_AB_b, e_AZ, e_AZ_a, e_AZ_b, e_AL, e_AL_a, e_AL_b, e_AR, e_AR_a, e_AR_b, e_Len, e_Len_a, e_CI, e_CI_a, e_CI_b, e_CZ, e_CZ_a, e_And, e_kAnd, e_Or, e_kOr, e_Not, e_kNot, e_B, e_kB, e_T, e_kT, e_NN, e_kNN, e_NewA, e_NewA_a, e_NewC, e_kNewC, e_aN, e_aI, e_aI_a, e_aI_b, e_aL, e_aL_a, e_aL_b, e_aR, e_aR_a, e_aR_b, e_Call, e_kCall, e_CallV, e_kCallV, e_SetI, e_kSetI, e_SetL, e_kSetL, e_SetR, e_kSetR, e_Inc, e_Skip, e_Brk, e_Cnt, e_Ret, e_kRet, e_Ret0, e_Seq, e_kSeq0, e_kSeq1, e_kSeq2, e_kSeqR, e_If, e_kIf, e_Do, e_kDo, e_Sup, e_kN0, e_d3, e_k3a, e_k3b, e_k3c, e_P, e_kPa, e_kPb, e_UA, e_kUAa, e_kUAb, e_kUAc, e_UL, e_kULa, e_kULb, e_kULc, e_UF, e_kUFa, e_kUFb, e_Cp, e_kCp, e_Sw, e_kSwa, e_kSwb0, e_kSwb1, e_kSwbR, e_M1, e_kM1, e_MZ, e_kMZ, e_MN, e_kMN, e_Tv, e_kTv, e_Tc, e_kTc, e_lpS, e_kLp, e_kLpB0, e_kLpB1, e_kLpB2, e_kLpBR, e_kLpU, e_dwS, e_kDwB0, e_kDwC, f_II, f_LL, f_RR, f_IL, f_IR, f_LI, f_LR, f_RI, f_RL, o_iadd, o_isub, o_imul, o_iand, o_ior, o_ixor, o_ladd, o_lsub, o_lmul, o_land, o_lor, o_i2b, o_i2s, o_lneg, o_imax, o_imin, r_lt, r_le, r_gt, r_ge, r_eq, r_ne, q_lt, q_le, q_gt, q_ge, q_eq, q_ne, decide_eq_true_eq, idI, and_true, true_and, and_false, false_and, or_true, true_or, or_false, false_or, not_true_eq_false, not_false_eq_true, if_true, if_false, ite_self, Bool.not_true, Bool.not_false, Bool.false_eq_true, Bool.true_eq_false, decide_true, decide_false, ne_eq, reduceIte, Nat.reduceEqDiff, Option.some.injEq, Prod.mk.injEq, eq_self, n_inb, nI_clamp, w_hr, w_hk, w_hl, w_eq, w_ne, wl_hr, wl_hk, wl_hi, wl_eq, wl_ne, fa_lit, fa_litL, nI_add, pk_mul, nI_ltI, nI_leI, nI_eq, b01, b0, b1, Nat.reduceLeDiff, Nat.reduceAdd, Nat.reduceMul, Nat.reduceSub, Nat.lt_irrefl, Nat.reduceLT, f_ss, f_sR, f_sL, lc0, lc1, lc01, stI, stL, rF0, kt, t0, t5, kq, y10, y11, y12, y13, z1, hi1, hd, q_ishr, q_m1, q_m4, q_m6, fm, fs3, gb1, k133]
        · rw [if_neg c11] at gb1
          rw [if_pos (c1.elim (fun q => absurd q c11) id)] at gb2
          simp (maxSteps := 4000000) (disch := omega) only [ob_t, ob_n, ob_ite, e_cI, e_cL, e_cR, e_vI, e_vL, e_vR, e_d2, e_d2_a, e_d2_b, e_d2z, e_d2z_a, e_d2z_b, e_d1, e_d1_a, e_GI, e_GI_a, e_GL, e_GL_a, e_GR, e_GR_a, e_AI, e_AI_a, e_AI_b, e_AB, e_AB_a, e_AB_b, e_AZ, e_AZ_a, e_AZ_b, e_AL, e_AL_a, e_AL_b, e_AR, e_AR_a, e_AR_b, e_Len, e_Len_a, e_CI, e_CI_a, e_CI_b, e_CZ, e_CZ_a, e_And, e_kAnd, e_Or, e_kOr, e_Not, e_kNot, e_B, e_kB, e_T, e_kT, e_NN, e_kNN, e_NewA, e_NewA_a, e_NewC, e_kNewC, e_aN, e_aI, e_aI_a, e_aI_b, e_aL, e_aL_a, e_aL_b, e_aR, e_aR_a, e_aR_b, e_Call, e_kCall, e_CallV, e_kCallV, e_SetI, e_kSetI, e_SetL, e_kSetL, e_SetR, e_kSetR, e_Inc, e_Skip, e_Brk, e_Cnt, e_Ret, e_kRet, e_Ret0, e_Seq, e_kSeq0, e_kSeq1, e_kSeq2, e_kSeqR, e_If, e_kIf, e_Do, e_kDo, e_Sup, e_kN0, e_d3, e_k3a, e_k3b, e_k3c, e_P, e_kPa, e_kPb, e_UA, e_kUAa, e_kUAb, e_kUAc, e_UL, e_kULa, e_kULb, e_kULc, e_UF, e_kUFa, e_kUFb, e_Cp, e_kCp, e_Sw, e_kSwa, e_kSwb0, e_kSwb1, e_kSwbR, e_M1, e_kM1, e_MZ, e_kMZ, e_MN, e_kMN, e_Tv, e_kTv, e_Tc, e_kTc, e_lpS, e_kLp, e_kLpB0, e_kLpB1, e_kLpB2, e_kLpBR, e_kLpU, e_dwS, e_kDwB0, e_kDwC, f_II, f_LL, f_RR, f_IL, f_IR, f_LI, f_LR, f_RI, f_RL, o_iadd, o_isub, o_imul, o_iand, o_ior, o_ixor, o_ladd, o_lsub, o_lmul, o_land, o_lor, o_i2b, o_i2s, o_lneg, o_imax, o_imin, r_lt, r_le, r_gt, r_ge, r_eq, r_ne, q_lt, q_le, q_gt, q_ge, q_eq, q_ne, decide_eq_true_eq, idI, and_true, true_and, and_false, false_and, or_true, true_or, or_false, false_or, not_true_eq_false, not_false_eq_true, if_true, if_false, ite_self, Bool.not_true, Bool.not_false, Bool.false_eq_true, Bool.true_eq_false, decide_true, decide_false, ne_eq, reduceIte, Nat.reduceEqDiff, Option.some.injEq, Prod.mk.injEq, eq_self, n_inb, nI_clamp, w_hr, w_hk, w_hl, w_eq, w_ne, wl_hr, wl_hk, wl_hi, wl_eq, wl_ne, fa_lit, fa_litL, nI_add, pk_mul, nI_ltI, nI_leI, nI_eq, b01, b0, b1, Nat.reduceLeDiff, Nat.reduceAdd, Nat.reduceMul, Nat.reduceSub, Nat.lt_irrefl, Nat.reduceLT, f_ss, f_sR, f_sL, lc0, lc1, lc01, stI, stL, rF0, kt, t0, t5, kq, y10, y11, y12, y13, z1, hi1, hd, q_ishr, q_m1, q_m4, q_m6, fm, fs3, gb1, gb2, k133]
      · rw [if_neg c1] at hh
        rw [if_neg (fun q => c1 (Or.inl q))] at gb1
        rw [if_neg (fun q => c1 (Or.inr q))] at gb2
        by_cases c2 : T 1 m = T 2 s
        · rw [if_neg (fun q => q c2)] at hh
          have vto := vv to ha (by omega)
          have vfr := vv (T 1 m) w1 (by omega)
          have hdl := doors_lt hW (T 1 m) 0
          have e01 : T 0 1 = 0 := by rw [j11 1 (by decide)]; exact hC1
          have hC := j10.1
          unfold WFX at hC
          have xd := x_door (h := g) kv vfr.2 (by omega) (b := to) (by omega) hdl
          have sh := bit_div (C 0 2) to
          rw [← j11 2 (by decide)] at sh
          rw [e01, ← c2] at hh
          have k7 : hi g 124 7 = nI (T 0 2) := by rw [t7, j11 2 (by decide)]
          by_cases c3 : (T 0 2).testBit to = true ∨ ¬ (doors P (T 1 m) 0).testBit to = true
          · rw [if_pos c3] at hh
            rw [hh, if_neg (by decide)] at est
            rw [est]
            refine ⟨(men, sl, gone), wI g 133 i (nI 4), ?_, J0.w hW he (by decide), qh.tr (Ch.w (D := rD5 e) (Or.inl rfl) g i _)⟩
            by_cases c31 : (doors P (T 1 m) 0).testBit to = true
            · rw [if_pos c31] at xd
              rw [if_pos (c3.elim id (fun q => absurd c31 q))] at sh
              simp (maxSteps := 4000000) (disch := omega) only [ob_t, ob_n, ob_ite, e_cI, e_cL, e_cR, e_vI, e_vL, e_vR, e_d2, e_d2_a, e_d2_b, e_d2z, e_d2z_a, e_d2z_b, e_d1, e_d1_a, e_GI, e_GI_a, e_GL, e_GL_a, e_GR, e_GR_a, e_AI, e_AI_a, e_AI_b, e_AB, e_AB_a, e_AB_b, e_AZ, e_AZ_a, e_AZ_b, e_AL, e_AL_a, e_AL_b, e_AR, e_AR_a, e_AR_b, e_Len, e_Len_a, e_CI, e_CI_a, e_CI_b, e_CZ, e_CZ_a, e_And, e_kAnd, e_Or, e_kOr, e_Not, e_kNot, e_B, e_kB, e_T, e_kT, e_NN, e_kNN, e_NewA, e_NewA_a, e_NewC, e_kNewC, e_aN, e_aI, e_aI_a, e_aI_b, e_aL, e_aL_a, e_aL_b, e_aR, e_aR_a, e_aR_b, e_Call, e_kCall, e_CallV, e_kCallV, e_SetI, e_kSetI, e_SetL, e_kSetL, e_SetR, e_kSetR, e_Inc, e_Skip, e_Brk, e_Cnt, e_Ret, e_kRet, e_Ret0, e_Seq, e_kSeq0, e_kSeq1, e_kSeq2, e_kSeqR, e_If, e_kIf, e_Do, e_kDo, e_Sup, e_kN0, e_d3, e_k3a, e_k3b, e_k3c, e_P, e_kPa, e_kPb, e_UA, e_kUAa, e_kUAb, e_kUAc, e_UL, e_kULa, e_kULb, e_kULc, e_UF, e_kUFa, e_kUFb, e_Cp, e_kCp, e_Sw, e_kSwa, e_kSwb0, e_kSwb1, e_kSwbR, e_M1, e_kM1, e_MZ, e_kMZ, e_MN, e_kMN, e_Tv, e_kTv, e_Tc, e_kTc, e_lpS, e_kLp, e_kLpB0, e_kLpB1, e_kLpB2, e_kLpBR, e_kLpU, e_dwS, e_kDwB0, e_kDwC, f_II, f_LL, f_RR, f_IL, f_IR, f_LI, f_LR, f_RI, f_RL, o_iadd, o_isub, o_imul, o_iand, o_ior, o_ixor, o_ladd, o_lsub, o_lmul, o_land, o_lor, o_i2b, o_i2s, o_lneg, o_imax, o_imin, r_lt, r_le, r_gt, r_ge, r_eq, r_ne, q_lt, q_le, q_gt, q_ge, q_eq, q_ne, decide_eq_true_eq, idI, and_true, true_and, and_false, false_and, or_true, true_or, or_false, false_or, not_true_eq_false, not_false_eq_true, if_true, if_false, ite_self, Bool.not_true, Bool.not_false, Bool.false_eq_true, Bool.true_eq_false, decide_true, decide_false, ne_eq, reduceIte, Nat.reduceEqDiff, Option.some.injEq, Prod.mk.injEq, eq_self, n_inb, nI_clamp, w_hr, w_hk, w_hl, w_eq, w_ne, wl_hr, wl_hk, wl_hi, wl_eq, wl_ne, fa_lit, fa_litL, nI_add, pk_mul, nI_ltI, nI_leI, nI_eq, b01, b0, b1, Nat.reduceLeDiff, Nat.reduceAdd, Nat.reduceMul, Nat.reduceSub, Nat.lt_irrefl, Nat.reduceLT, f_ss, f_sR, f_sL, lc0, lc1, lc01, stI, stL, rF0, kt, t0, t5, k7, kq, y10, y11, y12, y13, z1, hi1, hd, q_ishr, q_m1, q_m4, q_m6, fm, fs2, fs3, gb1, gb2, k133, c2.symm, xd, sh]
            · rw [if_neg c31] at xd
              simp (maxSteps := 4000000) (disch := omega) only [ob_t, ob_n, ob_ite, e_cI, e_cL, e_cR, e_vI, e_vL, e_vR, e_d2, e_d2_a, e_d2_b, e_d2z, e_d2z_a, e_d2z_b, e_d1, e_d1_a, e_GI, e_GI_a, e_GL, e_GL_a, e_GR, e_GR_a, e_AI, e_AI_a, e_AI_b, e_AB, e_AB_a, e_AB_b, e_AZ, e_AZ_a, e_AZ_b, e_AL, e_AL_a, e_AL_b, e_AR, e_AR_a, e_AR_b, e_Len, e_Len_a, e_CI, e_CI_a, e_CI_b, e_CZ, e_CZ_a, e_And, e_kAnd, e_Or, e_kOr, e_Not, e_kNot, e_B, e_kB, e_T, e_kT, e_NN, e_kNN, e_NewA, e_NewA_a, e_NewC, e_kNewC, e_aN, e_aI, e_aI_a, e_aI_b, e_aL, e_aL_a, e_aL_b, e_aR, e_aR_a, e_aR_b, e_Call, e_kCall, e_CallV, e_kCallV, e_SetI, e_kSetI, e_SetL, e_kSetL, e_SetR, e_kSetR, e_Inc, e_Skip, e_Brk, e_Cnt, e_Ret, e_kRet, e_Ret0, e_Seq, e_kSeq0, e_kSeq1, e_kSeq2, e_kSeqR, e_If, e_kIf, e_Do, e_kDo, e_Sup, e_kN0, e_d3, e_k3a, e_k3b, e_k3c, e_P, e_kPa, e_kPb, e_UA, e_kUAa, e_kUAb, e_kUAc, e_UL, e_kULa, e_kULb, e_kULc, e_UF, e_kUFa, e_kUFb, e_Cp, e_kCp, e_Sw, e_kSwa, e_kSwb0, e_kSwb1, e_kSwbR, e_M1, e_kM1, e_MZ, e_kMZ, e_MN, e_kMN, e_Tv, e_kTv, e_Tc, e_kTc, e_lpS, e_kLp, e_kLpB0, e_kLpB1, e_kLpB2, e_kLpBR, e_kLpU, e_dwS, e_kDwB0, e_kDwC, f_II, f_LL, f_RR, f_IL, f_IR, f_LI, f_LR, f_RI, f_RL, o_iadd, o_isub, o_imul, o_iand, o_ior, o_ixor, o_ladd, o_lsub, o_lmul, o_land, o_lor, o_i2b, o_i2s, o_lneg, o_imax, o_imin, r_lt, r_le, r_gt, r_ge, r_eq, r_ne, q_lt, q_le, q_gt, q_ge, q_eq, q_ne, decide_eq_true_eq, idI, and_true, true_and, and_false, false_and, or_true, true_or, or_false, false_or, not_true_eq_false, not_false_eq_true, if_true, if_false, ite_self, Bool.not_true, Bool.not_false, Bool.false_eq_true, Bool.true_eq_false, decide_true, decide_false, ne_eq, reduceIte, Nat.reduceEqDiff, Option.some.injEq, Prod.mk.injEq, eq_self, n_inb, nI_clamp, w_hr, w_hk, w_hl, w_eq, w_ne, wl_hr, wl_hk, wl_hi, wl_eq, wl_ne, fa_lit, fa_litL, nI_add, pk_mul, nI_ltI, nI_leI, nI_eq, b01, b0, b1, Nat.reduceLeDiff, Nat.reduceAdd, Nat.reduceMul, Nat.reduceSub, Nat.lt_irrefl, Nat.reduceLT, f_ss, f_sR, f_sL, lc0, lc1, lc01, stI, stL, rF0, kt, t0, t5, k7, kq, y10, y11, y12, y13, z1, hi1, hd, q_ishr, q_m1, q_m4, q_m6, fm, fs2, fs3, gb1, gb2, k133, c2.symm, xd, sh]
          · rw [if_neg c3] at hh
            have c31 : (doors P (T 1 m) 0).testBit to = true := Classical.byContradiction (fun q => c3 (Or.inr q))
            have c32 : ¬ (T 0 2).testBit to = true := fun q => c3 (Or.inl q)
            rw [if_pos c31] at xd
            rw [if_neg c32] at sh
            obtain ⟨zc, zs⟩ := zz m hm hm5
            have hl := loadS_le hW j10 hs ha
            have el : loadS P T s to = wt P s (T 3 s) + (P 1 to - P 1 (T 1 m)) := by
              unfold loadS climb
              rw [← c2]
            have hto := hW.hi ha
            have hfr := hW.hi w1
            have hst := (hW.cr hm).2
            have q1 : Ch (fun o => o = 133) g (wI g 133 i (nI 0)) := Ch.w (D := fun o => o = 133) rfl g i _
            have aw1 := aw.ch q1 (by decide)
            have xh := x_heavy aw1 wR hW hs w3
            have xm := x_mostD (h := wI g 133 i (nI 0)) (a := P 1 to) (b := P 1 (T 1 m)) (by omega) (by omega)
            rw [el] at hh hl
            obtain ⟨ld, hld⟩ : ∃ ld, ld = wt P s (T 3 s) + (P 1 to - P 1 (T 1 m)) := ⟨_, rfl⟩
            rw [← hld] at hh hl
            have eld : nI (wt P s (T 3 s)) + nI (P 1 to - P 1 (T 1 m)) = nI ld := by rw [nI_add, hld]
            by_cases c4 : P 5 m < ld
            · rw [if_pos c4] at hh
              rw [hh, if_neg (by decide)] at est
              rw [est]
              have J1 := (J0.w (i := i) (v := 0) hW he (by decide))
              have egt : (nI ld > nI (P 5 m)) = True := by
                refine eq_true ?_
                show nI (P 5 m) < nI ld
                rw [nI_ltI (by omega) (by omega)]; exact c4
              refine ⟨(men, sl, gone), wI (wI (wI g 133 i (nI 0)) 134 i (nI ld)) 133 i (nI 5), ?_, ?_, qh.tr (((Ch.w (D := rD5 e) (Or.inl rfl) g i _).tr (Ch.w (D := rD5 e) (Or.inr (Or.inl rfl)) _ i _)).tr (Ch.w (D := rD5 e) (Or.inl rfl) _ i _))⟩
              · simp (maxSteps := 4000000) (disch := omega) only [ob_t, ob_n, ob_ite, e_cI, e_cL, e_cR, e_vI, e_vL, e_vR, e_d2, e_d2_a, e_d2_b, e_d2z, e_d2z_a, e_d2z_b, e_d1, e_d1_a, e_GI, e_GI_a, e_GL, e_GL_a, e_GR, e_GR_a, e_AI, e_AI_a, e_AI_b, e_AB, e_AB_a, e_AB_b, e_AZ, e_AZ_a, e_AZ_b, e_AL, e_AL_a, e_AL_b, e_AR, e_AR_a, e_AR_b, e_Len, e_Len_a, e_CI, e_CI_a, e_CI_b, e_CZ, e_CZ_a, e_And, e_kAnd, e_Or, e_kOr, e_Not, e_kNot, e_B, e_kB, e_T, e_kT, e_NN, e_kNN, e_NewA, e_NewA_a, e_NewC, e_kNewC, e_aN, e_aI, e_aI_a, e_aI_b, e_aL, e_aL_a, e_aL_b, e_aR, e_aR_a, e_aR_b, e_Call, e_kCall, e_CallV, e_kCallV, e_SetI, e_kSetI, e_SetL, e_kSetL, e_SetR, e_kSetR, e_Inc, e_Skip, e_Brk, e_Cnt, e_Ret, e_kRet, e_Ret0, e_Seq, e_kSeq0, e_kSeq1, e_kSeq2, e_kSeqR, e_If, e_kIf, e_Do, e_kDo, e_Sup, e_kN0, e_d3, e_k3a, e_k3b, e_k3c, e_P, e_kPa, e_kPb, e_UA, e_kUAa, e_kUAb, e_kUAc, e_UL, e_kULa, e_kULb, e_kULc, e_UF, e_kUFa, e_kUFb, e_Cp, e_kCp, e_Sw, e_kSwa, e_kSwb0, e_kSwb1, e_kSwbR, e_M1, e_kM1, e_MZ, e_kMZ, e_MN, e_kMN, e_Tv, e_kTv, e_Tc, e_kTc, e_lpS, e_kLp, e_kLpB0, e_kLpB1, e_kLpB2, e_kLpBR, e_kLpU, e_dwS, e_kDwB0, e_kDwC, f_II, f_LL, f_RR, f_IL, f_IR, f_LI, f_LR, f_RI, f_RL, o_iadd, o_isub, o_imul, o_iand, o_ior, o_ixor, o_ladd, o_lsub, o_lmul, o_land, o_lor, o_i2b, o_i2s, o_lneg, o_imax, o_imin, r_lt, r_le, r_gt, r_ge, r_eq, r_ne, q_lt, q_le, q_gt, q_ge, q_eq, q_ne, decide_eq_true_eq, idI, and_true, true_and, and_false, false_and, or_true, true_or, or_false, false_or, not_true_eq_false, not_false_eq_true, if_true, if_false, ite_self, Bool.not_true, Bool.not_false, Bool.false_eq_true, Bool.true_eq_false, decide_true, decide_false, ne_eq, reduceIte, Nat.reduceEqDiff, Option.some.injEq, Prod.mk.injEq, eq_self, n_inb, nI_clamp, w_hr, w_hk, w_hl, w_eq, w_ne, wl_hr, wl_hk, wl_hi, wl_eq, wl_ne, fa_lit, fa_litL, nI_add, pk_mul, nI_ltI, nI_leI, nI_eq, b01, b0, b1, Nat.reduceLeDiff, Nat.reduceAdd, Nat.reduceMul, Nat.reduceSub, Nat.lt_irrefl, Nat.reduceLT, f_ss, f_sR, f_sL, lc0, lc1, lc01, stI, stL, rF0, kt, t0, t5, k7, kq, kv, kz, y10, y11, y12, y13, z1, hi1, hd, q_ishr, q_m1, q_m4, q_m6, fm, fs2, fs3, gb1, gb2, k133, k134, c2.symm, xd, sh, xh, xm, vto.1, vfr.1, zs, hld.symm, egt]
              · have J2 : RJ (wI g 134 i (nI ld)) P C T e (men, sl, gone) := ⟨j1.ch (Ch.w (D := fun o => o = 134) rfl g i _) (fun o h1 h2 h3 => by omega), j2, j3, j4, j5, j6, fun s hs => by rw [w_ne (by omega)]; exact j7 s hs, j8, fun j hj => by rw [w_ne (by omega)]; exact j9 j hj, j10, j11⟩
                have J3 := J2.w (i := i) (v := 5) hW he (by decide)
                have eg : ∀ r k, hi (wI (wI (wI g 133 i (nI 0)) 134 i (nI ld)) 133 i (nI 5)) r k = hi (wI (wI g 134 i (nI ld)) 133 i (nI 5)) r k := fun r k => by
                  by_cases u : r = 133 ∧ k = i
                  · simp only [wI_hi, if_pos u]
                  · by_cases u2 : r = 134 ∧ k = i
                    · simp only [wI_hi, if_neg u, if_pos u2]
                    · simp only [wI_hi, if_neg u, if_neg u2]
                have eC : Ch (fun _ => False) (wI (wI g 134 i (nI ld)) 133 i (nI 5)) (wI (wI (wI g 133 i (nI 0)) 134 i (nI ld)) 133 i (nI 5)) := ⟨⟨rfl, rfl, rfl, rfl⟩, fun o _ => ⟨fun k => eg o k, fun _ => rfl⟩⟩
                obtain ⟨i1, i2, i3, i4, i5, i6, i7, i8, i9, i10, i11⟩ := J3
                exact ⟨i1.ch eC (fun _ _ _ q => q), i2, i3, i4, i5, i6, fun s hs => by rw [eg]; exact i7 s hs, i8, fun j hj => by rw [eg]; exact i9 j hj, i10, i11⟩
            · rw [if_neg c4] at hh
              rw [hh, if_pos rfl] at est
              obtain ⟨b, eb⟩ : ∃ b, b = (T 0 3).testBit d := ⟨_, rfl⟩
              rw [← eb] at est
              obtain ⟨x1, x2, x3, x4, x5, x6, x06, x07⟩ := car_is P T i b
              rw [← em, ← et] at x1
              rw [← es, ← et] at x2
              rw [← es] at x3
              rw [← es, ← et] at x4
              rw [← es, ← et] at x5
              rw [← em] at x06
              rw [← es] at x07
              obtain ⟨l1, el1⟩ : ∃ l1, l1 = l1C P T i b := ⟨_, rfl⟩
              obtain ⟨l2, el2⟩ : ∃ l2, l2 = l2C P T i b := ⟨_, rfl⟩
              rw [← el2] at x3
              rw [← el1] at x4
              have el1' : l1 = if b = true then rubL P s (T 3 s) 1 else T 3 s := by rw [el1]; unfold l1C; rw [← es]
              have el2' : l2 = if (T 5 s).testBit to = true then l1 else rubL P s l1 (T 0 0) := by rw [el2]; unfold l2C; rw [← es, ← et, ← el1]
              have hl1 : l1 < 2 ^ P 7 s := by
                rw [el1']
                by_cases u : b = true
                · rw [if_pos u]; exact Nat.lt_of_le_of_lt (rubL_le _ _ _ _) w3
                · rw [if_neg u]; exact w3
              have hl2 : l2 < 2 ^ P 7 s := by
                rw [el2']
                by_cases u : (T 5 s).testBit to = true
                · rw [if_pos u]; exact hl1
                · rw [if_neg u]; exact Nat.lt_of_le_of_lt (rubL_le _ _ _ _) hl1
              have hW2 : WFS P (carS P (up T 6 i 0) i b) := by
                have hW3 := j10.step hW hi1 d
                rw [est] at hW3
                exact hW3
              have h0k : ∀ k, k < 6 → carS P (up T 6 i 0) i b 0 k = C 0 k := fun k hk1 => by
                have := stepS_0 P T d i k hk1
                rw [est] at this
                rw [this]
                exact j11 k hk1
              rw [est]
              obtain ⟨kn, n1, n2⟩ := j8 s hs
              have q2 : Ch (fun o => o = 133 ∨ o = 134) g (wI (wI g 133 i (nI 0)) 134 i (nI ld)) := (Ch.w (D := fun o => o = 133 ∨ o = 134) (Or.inl rfl) g i _).tr (Ch.w (D := fun o => o = 133 ∨ o = 134) (Or.inr rfl) _ i _)
              have q3 : Ch (rD5 e) g (wL (wI (wI g 133 i (nI 0)) 134 i (nI ld)) (e + 1) s (lN (kn ||| l1 * 2 ^ (6 * to)))) := (q2.mono (fun o ho => ho.elim Or.inl (fun u => Or.inr (Or.inl u)))).tr (Ch.wl (D := rD5 e) (Or.inr (Or.inr (Or.inr rfl))) _ s _)
              have q4 : Ch (rD5 e) g (wI (wL (wI (wI g 133 i (nI 0)) 134 i (nI ld)) (e + 1) s (lN (kn ||| l1 * 2 ^ (6 * to)))) e s (nI (T 5 s ||| 2 ^ to))) := q3.tr (Ch.w (D := rD5 e) (Or.inr (Or.inr (Or.inl rfl))) _ s _)
              have xr1 := x_rubL (aw.ch q2 (by decide)) wR hW hs w3 (b := 1) (by decide)
              have xr2 := x_rubL (aw.ch q3 (by unfold rD5; omega)) wR hW hs hl1 (b := T 0 0) (by omega)
              have k6 : hi g 124 6 = nI (T 0 3) := by rw [t6, j11 3 (by decide)]
              have k1 : hi g 124 1 = nI (T 0 0) := by rw [t1, j11 0 (by decide)]
              have bb := bit_div (T 0 3) d
              rw [← eb] at bb
              have mb := bit_div (T 5 s) to
              have met := j7 s hs
              have egt : (nI ld > nI (P 5 m)) = False := by
                refine eq_false ?_
                show ¬ nI (P 5 m) < nI ld
                rw [nI_ltI (by omega) (by omega)]; exact c4
              have p5 : 2 ^ m < 2 ^ 5 := pow_lt hm5
              have p11 : 2 ^ (8 + s) < 2 ^ 11 := pow_lt (by omega)
              have p8 : 2 ^ to < 2 ^ 8 := pow_lt (by omega)
              have a1 : o_ishl (nI 15) (nI (4 * m)) = nI (15 * 2 ^ (4 * m)) := q_ishl (by omega) (Nat.lt_trans (mul_pow_lt (show 15 < 2 ^ 4 by decide) (show 4 * m + 4 ≤ 20 by omega)) (by decide))
              have a2 := n_not (a := men) (by omega) (15 * 2 ^ (4 * m))
              have a3 : o_ishl (nI to) (nI (4 * m)) = nI (to * 2 ^ (4 * m)) := q_ishl (by omega) (Nat.lt_trans (mul_pow_lt (show to < 2 ^ 4 by omega) (show 4 * m + 4 ≤ 20 by omega)) (by decide))
              have a4 : o_ishl (nI 1023) (nI (10 * s)) = nI (1023 * 2 ^ (10 * s)) := q_ishl (by omega) (Nat.lt_trans (mul_pow_lt (show 1023 < 2 ^ 10 by decide) (show 10 * s + 10 ≤ 30 by omega)) (by decide))
              have a5 := n_not (a := sl) (by omega) (1023 * 2 ^ (10 * s))
              have a6 : o_ishl (nI l2) (nI 4) = nI (l2 * 2 ^ 4) := q_ishl (by decide) (by omega)
              have a7 : o_ishl (nI (to ||| l2 * 2 ^ 4)) (nI (10 * s)) = nI ((to ||| l2 * 2 ^ 4) * 2 ^ (10 * s)) := q_ishl (by omega) (Nat.lt_trans (mul_pow_lt (show to ||| l2 * 2 ^ 4 < 2 ^ 10 from or_lt (by omega) (by omega)) (show 10 * s + 10 ≤ 30 by omega)) (by decide))
              have a8 : o_ishl (nI 1) (nI m) = nI (2 ^ m) := by rw [q_ishl (by omega) (by omega), Nat.one_mul]
              have a9 : o_ishl (nI 1) (nI (8 + s)) = nI (2 ^ (8 + s)) := by rw [q_ishl (by omega) (by omega), Nat.one_mul]
              have a10 : o_ishl (nI 1) (nI to) = nI (2 ^ to) := by rw [q_ishl (by omega) (by omega), Nat.one_mul]
              have a11 : o_lshl (o_i2l (nI l1)) (nI (6 * to)) = lN (l1 * 2 ^ (6 * to)) := by rw [ol_i2l (by omega), q_lshl _ (by omega)]
              refine ⟨(clr men (15 * 2 ^ (4 * m)) ||| to * 2 ^ (4 * m), clr sl (1023 * 2 ^ (10 * s)) ||| (to ||| l2 * 2 ^ 4) * 2 ^ (10 * s), gone ||| (2 ^ m ||| 2 ^ (8 + s))), wI (wL (wI (wI g 133 i (nI 0)) 134 i (nI ld)) (e + 1) s (lN (kn ||| l1 * 2 ^ (6 * to)))) e s (nI (T 5 s ||| 2 ^ to)), ?_, ⟨j1.ch q4 (fun o h1 h2 => by unfold rD5; omega), j2, j3, j4.set (by omega) hm (by omega) x1, j5.set (by omega) hs (by omega) (by omega) x2 x3, j6.set hm5 hs3 x06 x07, fun t ht => ?_, fun t ht => ?_, fun j hj => ?_, hW2, h0k⟩, qh.tr q4⟩
              · by_cases ub : b = true
                · rw [if_pos ub] at bb el1'
                  rw [← el1'] at xr1
                  by_cases um : (T 5 s).testBit to = true
                  · rw [if_pos um] at mb el2'
                    rw [el2'] at a6 a7 ⊢
                    simp (maxSteps := 4000000) (disch := omega) only [ob_t, ob_n, ob_ite, e_cI, e_cL, e_cR, e_vI, e_vL, e_vR, e_d2, e_d2_a, e_d2_b, e_d2z, e_d2z_a, e_d2z_b, e_d1, e_d1_a, e_GI, e_GI_a, e_GL, e_GL_a, e_GR, e_GR_a, e_AI, e_AI_a, e_AI_b, e_AB, e_AB_a, e_AB_b, e_AZ, e_AZ_a, e_AZ_b, e_AL, e_AL_a, e_AL_b, e_AR, e_AR_a, e_AR_b, e_Len, e_Len_a, e_CI, e_CI_a, e_CI_b, e_CZ, e_CZ_a, e_And, e_kAnd, e_Or, e_kOr, e_Not, e_kNot, e_B, e_kB, e_T, e_kT, e_NN, e_kNN, e_NewA, e_NewA_a, e_NewC, e_kNewC, e_aN, e_aI, e_aI_a, e_aI_b, e_aL, e_aL_a, e_aL_b, e_aR, e_aR_a, e_aR_b, e_Call, e_kCall, e_CallV, e_kCallV, e_SetI, e_kSetI, e_SetL, e_kSetL, e_SetR, e_kSetR, e_Inc, e_Skip, e_Brk, e_Cnt, e_Ret, e_kRet, e_Ret0, e_Seq, e_kSeq0, e_kSeq1, e_kSeq2, e_kSeqR, e_If, e_kIf, e_Do, e_kDo, e_Sup, e_kN0, e_d3, e_k3a, e_k3b, e_k3c, e_P, e_kPa, e_kPb, e_UA, e_kUAa, e_kUAb, e_kUAc, e_UL, e_kULa, e_kULb, e_kULc, e_UF, e_kUFa, e_kUFb, e_Cp, e_kCp, e_Sw, e_kSwa, e_kSwb0, e_kSwb1, e_kSwbR, e_M1, e_kM1, e_MZ, e_kMZ, e_MN, e_kMN, e_Tv, e_kTv, e_Tc, e_kTc, e_lpS, e_kLp, e_kLpB0, e_kLpB1, e_kLpB2, e_kLpBR, e_kLpU, e_dwS, e_kDwB0, e_kDwC, f_II, f_LL, f_RR, f_IL, f_IR, f_LI, f_LR, f_RI, f_RL, o_iadd, o_isub, o_imul, o_iand, o_ior, o_ixor, o_ladd, o_lsub, o_lmul, o_land, o_lor, o_i2b, o_i2s, o_lneg, o_imax, o_imin, r_lt, r_le, r_gt, r_ge, r_eq, r_ne, q_lt, q_le, q_gt, q_ge, q_eq, q_ne, decide_eq_true_eq, idI, and_true, true_and, and_false, false_and, or_true, true_or, or_false, false_or, not_true_eq_false, not_false_eq_true, if_true, if_false, ite_self, Bool.not_true, Bool.not_false, Bool.false_eq_true, Bool.true_eq_false, decide_true, decide_false, ne_eq, reduceIte, Nat.reduceEqDiff, Option.some.injEq, Prod.mk.injEq, eq_self, n_inb, nI_clamp, w_hr, w_hk, w_hl, w_eq, w_ne, wl_hr, wl_hk, wl_hi, wl_eq, wl_ne, fa_lit, fa_litL, nI_add, pk_mul, nI_ltI, nI_leI, nI_eq, b01, b0, b1, Nat.reduceLeDiff, Nat.reduceAdd, Nat.reduceMul, Nat.reduceSub, Nat.lt_irrefl, Nat.reduceLT, f_ss, f_sR, f_sL, lc0, lc1, lc01, stI, stL, rF0, kt, t0, t5, k7, k6, k1, kq, kv, kz, y10, y11, y12, y13, z1, hi1, hd, q_ishr, q_m1, q_m4, q_m6, fm, fs2, fs3, gb1, gb2, k133, k134, c2.symm, xd, sh, xh, xm, vto.1, vfr.1, zs, hld.symm, egt, bb, mb, xr1, xr2, a1, a2, a3, a4, a5, a6, a7, a8, a9, a10, a11, fa_or, fb_orL, j2, j3, met, n1]
                  · rw [if_neg um] at mb el2'
                    rw [← el2'] at xr2
                    simp (maxSteps := 4000000) (disch := omega) only [ob_t, ob_n, ob_ite, e_cI, e_cL, e_cR, e_vI, e_vL, e_vR, e_d2, e_d2_a, e_d2_b, e_d2z, e_d2z_a, e_d2z_b, e_d1, e_d1_a, e_GI, e_GI_a, e_GL, e_GL_a, e_GR, e_GR_a, e_AI, e_AI_a, e_AI_b, e_AB, e_AB_a, e_AB_b, e_AZ, e_AZ_a, e_AZ_b, e_AL, e_AL_a, e_AL_b, e_AR, e_AR_a, e_AR_b, e_Len, e_Len_a, e_CI, e_CI_a, e_CI_b, e_CZ, e_CZ_a, e_And, e_kAnd, e_Or, e_kOr, e_Not, e_kNot, e_B, e_kB, e_T, e_kT, e_NN, e_kNN, e_NewA, e_NewA_a, e_NewC, e_kNewC, e_aN, e_aI, e_aI_a, e_aI_b, e_aL, e_aL_a, e_aL_b, e_aR, e_aR_a, e_aR_b, e_Call, e_kCall, e_CallV, e_kCallV, e_SetI, e_kSetI, e_SetL, e_kSetL, e_SetR, e_kSetR, e_Inc, e_Skip, e_Brk, e_Cnt, e_Ret, e_kRet, e_Ret0, e_Seq, e_kSeq0, e_kSeq1, e_kSeq2, e_kSeqR, e_If, e_kIf, e_Do, e_kDo, e_Sup, e_kN0, e_d3, e_k3a, e_k3b, e_k3c, e_P, e_kPa, e_kPb, e_UA, e_kUAa, e_kUAb, e_kUAc, e_UL, e_kULa, e_kULb, e_kULc, e_UF, e_kUFa, e_kUFb, e_Cp, e_kCp, e_Sw, e_kSwa, e_kSwb0, e_kSwb1, e_kSwbR, e_M1, e_kM1, e_MZ, e_kMZ, e_MN, e_kMN, e_Tv, e_kTv, e_Tc, e_kTc, e_lpS, e_kLp, e_kLpB0, e_kLpB1, e_kLpB2, e_kLpBR, e_kLpU, e_dwS, e_kDwB0, e_kDwC, f_II, f_LL, f_RR, f_IL, f_IR, f_LI, f_LR, f_RI, f_RL, o_iadd, o_isub, o_imul, o_iand, o_ior, o_ixor, o_ladd, o_lsub, o_lmul, o_land, o_lor, o_i2b, o_i2s, o_lneg, o_imax, o_imin, r_lt, r_le, r_gt, r_ge, r_eq, r_ne, q_lt, q_le, q_gt, q_ge, q_eq, q_ne, decide_eq_true_eq, idI, and_true, true_and, and_false, false_and, or_true, true_or, or_false, false_or, not_true_eq_false, not_false_eq_true, if_true, if_false, ite_self, Bool.not_true, Bool.not_false, Bool.false_eq_true, Bool.true_eq_false, decide_true, decide_false, ne_eq, reduceIte, Nat.reduceEqDiff, Option.some.injEq, Prod.mk.injEq, eq_self, n_inb, nI_clamp, w_hr, w_hk, w_hl, w_eq, w_ne, wl_hr, wl_hk, wl_hi, wl_eq, wl_ne, fa_lit, fa_litL, nI_add, pk_mul, nI_ltI, nI_leI, nI_eq, b01, b0, b1, Nat.reduceLeDiff, Nat.reduceAdd, Nat.reduceMul, Nat.reduceSub, Nat.lt_irrefl, Nat.reduceLT, f_ss, f_sR, f_sL, lc0, lc1, lc01, stI, stL, rF0, kt, t0, t5, k7, k6, k1, kq, kv, kz, y10, y11, y12, y13, z1, hi1, hd, q_ishr, q_m1, q_m4, q_m6, fm, fs2, fs3, gb1, gb2, k133, k134, c2.symm, xd, sh, xh, xm, vto.1, vfr.1, zs, hld.symm, egt, bb, mb, xr1, xr2, a1, a2, a3, a4, a5, a6, a7, a8, a9, a10, a11, fa_or, fb_orL, j2, j3, met, n1]
                · rw [if_neg ub] at bb el1'
                  have el1'' := el1'.symm
                  by_cases um : (T 5 s).testBit to = true
                  · rw [if_pos um] at mb el2'
                    rw [el2'] at a6 a7 ⊢
                    simp (maxSteps := 4000000) (disch := omega) only [ob_t, ob_n, ob_ite, e_cI, e_cL, e_cR, e_vI, e_vL, e_vR, e_d2, e_d2_a, e_d2_b, e_d2z, e_d2z_a, e_d2z_b, e_d1, e_d1_a, e_GI, e_GI_a, e_GL, e_GL_a, e_GR, e_GR_a, e_AI, e_AI_a, e_AI_b, e_AB, e_AB_a, e_AB_b, e_AZ, e_AZ_a, e_AZ_b, e_AL, e_AL_a, e_AL_b, e_AR, e_AR_a, e_AR_b, e_Len, e_Len_a, e_CI, e_CI_a, e_CI_b, e_CZ, e_CZ_a, e_And, e_kAnd, e_Or, e_kOr, e_Not, e_kNot, e_B, e_kB, e_T, e_kT, e_NN, e_kNN, e_NewA, e_NewA_a, e_NewC, e_kNewC, e_aN, e_aI, e_aI_a, e_aI_b, e_aL, e_aL_a, e_aL_b, e_aR, e_aR_a, e_aR_b, e_Call, e_kCall, e_CallV, e_kCallV, e_SetI, e_kSetI, e_SetL, e_kSetL, e_SetR, e_kSetR, e_Inc, e_Skip, e_Brk, e_Cnt, e_Ret, e_kRet, e_Ret0, e_Seq, e_kSeq0, e_kSeq1, e_kSeq2, e_kSeqR, e_If, e_kIf, e_Do, e_kDo, e_Sup, e_kN0, e_d3, e_k3a, e_k3b, e_k3c, e_P, e_kPa, e_kPb, e_UA, e_kUAa, e_kUAb, e_kUAc, e_UL, e_kULa, e_kULb, e_kULc, e_UF, e_kUFa, e_kUFb, e_Cp, e_kCp, e_Sw, e_kSwa, e_kSwb0, e_kSwb1, e_kSwbR, e_M1, e_kM1, e_MZ, e_kMZ, e_MN, e_kMN, e_Tv, e_kTv, e_Tc, e_kTc, e_lpS, e_kLp, e_kLpB0, e_kLpB1, e_kLpB2, e_kLpBR, e_kLpU, e_dwS, e_kDwB0, e_kDwC, f_II, f_LL, f_RR, f_IL, f_IR, f_LI, f_LR, f_RI, f_RL, o_iadd, o_isub, o_imul, o_iand, o_ior, o_ixor, o_ladd, o_lsub, o_lmul, o_land, o_lor, o_i2b, o_i2s, o_lneg, o_imax, o_imin, r_lt, r_le, r_gt, r_ge, r_eq, r_ne, q_lt, q_le, q_gt, q_ge, q_eq, q_ne, decide_eq_true_eq, idI, and_true, true_and, and_false, false_and, or_true, true_or, or_false, false_or, not_true_eq_false, not_false_eq_true, if_true, if_false, ite_self, Bool.not_true, Bool.not_false, Bool.false_eq_true, Bool.true_eq_false, decide_true, decide_false, ne_eq, reduceIte, Nat.reduceEqDiff, Option.some.injEq, Prod.mk.injEq, eq_self, n_inb, nI_clamp, w_hr, w_hk, w_hl, w_eq, w_ne, wl_hr, wl_hk, wl_hi, wl_eq, wl_ne, fa_lit, fa_litL, nI_add, pk_mul, nI_ltI, nI_leI, nI_eq, b01, b0, b1, Nat.reduceLeDiff, Nat.reduceAdd, Nat.reduceMul, Nat.reduceSub, Nat.lt_irrefl, Nat.reduceLT, f_ss, f_sR, f_sL, lc0, lc1, lc01, stI, stL, rF0, kt, t0, t5, k7, k6, k1, kq, kv, kz, y10, y11, y12, y13, z1, hi1, hd, q_ishr, q_m1, q_m4, q_m6, fm, fs2, fs3, el1'', gb1, gb2, k133, k134, c2.symm, xd, sh, (el1'' ▸ xh), xm, vto.1, vfr.1, zs, (el1'' ▸ hld.symm), egt, bb, mb, xr2, a1, a2, a3, a4, a5, a6, a7, a8, a9, a10, a11, fa_or, fb_orL, j2, j3, met, n1]
                  · rw [if_neg um] at mb el2'
                    rw [← el2'] at xr2
                    simp (maxSteps := 4000000) (disch := omega) only [ob_t, ob_n, ob_ite, e_cI, e_cL, e_cR, e_vI, e_vL, e_vR, e_d2, e_d2_a, e_d2_b, e_d2z, e_d2z_a, e_d2z_b, e_d1, e_d1_a, e_GI, e_GI_a, e_GL, e_GL_a, e_GR, e_GR_a, e_AI, e_AI_a, e_AI_b, e_AB, e_AB_a, e_AB_b, e_AZ, e_AZ_a, e_AZ_b, e_AL, e_AL_a, e_AL_b, e_AR, e_AR_a, e_AR_b, e_Len, e_Len_a, e_CI, e_CI_a, e_CI_b, e_CZ, e_CZ_a, e_And, e_kAnd, e_Or, e_kOr, e_Not, e_kNot, e_B, e_kB, e_T, e_kT, e_NN, e_kNN, e_NewA, e_NewA_a, e_NewC, e_kNewC, e_aN, e_aI, e_aI_a, e_aI_b, e_aL, e_aL_a, e_aL_b, e_aR, e_aR_a, e_aR_b, e_Call, e_kCall, e_CallV, e_kCallV, e_SetI, e_kSetI, e_SetL, e_kSetL, e_SetR, e_kSetR, e_Inc, e_Skip, e_Brk, e_Cnt, e_Ret, e_kRet, e_Ret0, e_Seq, e_kSeq0, e_kSeq1, e_kSeq2, e_kSeqR, e_If, e_kIf, e_Do, e_kDo, e_Sup, e_kN0, e_d3, e_k3a, e_k3b, e_k3c, e_P, e_kPa, e_kPb, e_UA, e_kUAa, e_kUAb, e_kUAc, e_UL, e_kULa, e_kULb, e_kULc, e_UF, e_kUFa, e_kUFb, e_Cp, e_kCp, e_Sw, e_kSwa, e_kSwb0, e_kSwb1, e_kSwbR, e_M1, e_kM1, e_MZ, e_kMZ, e_MN, e_kMN, e_Tv, e_kTv, e_Tc, e_kTc, e_lpS, e_kLp, e_kLpB0, e_kLpB1, e_kLpB2, e_kLpBR, e_kLpU, e_dwS, e_kDwB0, e_kDwC, f_II, f_LL, f_RR, f_IL, f_IR, f_LI, f_LR, f_RI, f_RL, o_iadd, o_isub, o_imul, o_iand, o_ior, o_ixor, o_ladd, o_lsub, o_lmul, o_land, o_lor, o_i2b, o_i2s, o_lneg, o_imax, o_imin, r_lt, r_le, r_gt, r_ge, r_eq, r_ne, q_lt, q_le, q_gt, q_ge, q_eq, q_ne, decide_eq_true_eq, idI, and_true, true_and, and_false, false_and, or_true, true_or, or_false, false_or, not_true_eq_false, not_false_eq_true, if_true, if_false, ite_self, Bool.not_true, Bool.not_false, Bool.false_eq_true, Bool.true_eq_false, decide_true, decide_false, ne_eq, reduceIte, Nat.reduceEqDiff, Option.some.injEq, Prod.mk.injEq, eq_self, n_inb, nI_clamp, w_hr, w_hk, w_hl, w_eq, w_ne, wl_hr, wl_hk, wl_hi, wl_eq, wl_ne, fa_lit, fa_litL, nI_add, pk_mul, nI_ltI, nI_leI, nI_eq, b01, b0, b1, Nat.reduceLeDiff, Nat.reduceAdd, Nat.reduceMul, Nat.reduceSub, Nat.lt_irrefl, Nat.reduceLT, f_ss, f_sR, f_sL, lc0, lc1, lc01, stI, stL, rF0, kt, t0, t5, k7, k6, k1, kq, kv, kz, y10, y11, y12, y13, z1, hi1, hd, q_ishr, q_m1, q_m4, q_m6, fm, fs2, fs3, el1'', gb1, gb2, k133, k134, c2.symm, xd, sh, (el1'' ▸ xh), xm, vto.1, vfr.1, zs, (el1'' ▸ hld.symm), egt, bb, mb, xr2, a1, a2, a3, a4, a5, a6, a7, a8, a9, a10, a11, fa_or, fb_orL, j2, j3, met, n1]
              · rw [x5 t]
                by_cases u : t = s
                · subst u
                  rw [if_pos rfl, w_eq]
                · rw [if_neg u, w_ne (by omega), wl_hi, w_ne (by omega), w_ne (by omega)]
                  exact j7 t ht
              · by_cases u : t = s
                · subst u
                  refine ⟨kn ||| l1 * 2 ^ (6 * to), ?_, n2.set (x := to) (by omega) (by omega) (fun y hy => ?_) rfl⟩
                  · rw [w_hl, wl_eq]
                  · rw [x4]
                    by_cases u2 : y = to
                    · subst u2; rw [if_pos rfl, if_pos rfl]
                    · rw [if_neg (by omega), if_neg u2]
                · obtain ⟨n', n3, n4⟩ := j8 t ht
                  refine ⟨n', ?_, n4.1, fun x hx => ?_⟩
                  · rw [w_hl, wl_ne (by omega), w_hl, w_hl]; exact n3
                  · rw [x4, if_neg (by omega)]; exact n4.2 x hx
              · rw [x6 j, w_ne (by omega), wl_hi]
                by_cases u : j = i
                · subst u
                  rw [if_pos rfl, w_ne (by omega), w_eq]
                · rw [if_neg u, w_ne (by omega), w_ne (by omega)]
                  exact j9 j hj
        · rw [if_pos c2] at hh
          rw [hh, if_neg (by decide)] at est
          rw [est]
          refine ⟨(men, sl, gone), wI g 133 i (nI 3), ?_, J0.w hW he (by decide), qh.tr (Ch.w (D := rD5 e) (Or.inl rfl) g i _)⟩
          have c2' : ¬ T 2 s = T 1 m := fun q => c2 q.symm
          simp (maxSteps := 4000000) (disch := omega) only [ob_t, ob_n, ob_ite, e_cI, e_cL, e_cR, e_vI, e_vL, e_vR, e_d2, e_d2_a, e_d2_b, e_d2z, e_d2z_a, e_d2z_b, e_d1, e_d1_a, e_GI, e_GI_a, e_GL, e_GL_a, e_GR, e_GR_a, e_AI, e_AI_a, e_AI_b, e_AB, e_AB_a, e_AB_b, e_AZ, e_AZ_a, e_AZ_b, e_AL, e_AL_a, e_AL_b, e_AR, e_AR_a, e_AR_b, e_Len, e_Len_a, e_CI, e_CI_a, e_CI_b, e_CZ, e_CZ_a, e_And, e_kAnd, e_Or, e_kOr, e_Not, e_kNot, e_B, e_kB, e_T, e_kT, e_NN, e_kNN, e_NewA, e_NewA_a, e_NewC, e_kNewC, e_aN, e_aI, e_aI_a, e_aI_b, e_aL, e_aL_a, e_aL_b, e_aR, e_aR_a, e_aR_b, e_Call, e_kCall, e_CallV, e_kCallV, e_SetI, e_kSetI, e_SetL, e_kSetL, e_SetR, e_kSetR, e_Inc, e_Skip, e_Brk, e_Cnt, e_Ret, e_kRet, e_Ret0, e_Seq, e_kSeq0, e_kSeq1, e_kSeq2, e_kSeqR, e_If, e_kIf, e_Do, e_kDo, e_Sup, e_kN0, e_d3, e_k3a, e_k3b, e_k3c, e_P, e_kPa, e_kPb, e_UA, e_kUAa, e_kUAb, e_kUAc, e_UL, e_kULa, e_kULb, e_kULc, e_UF, e_kUFa, e_kUFb, e_Cp, e_kCp, e_Sw, e_kSwa, e_kSwb0, e_kSwb1, e_kSwbR, e_M1, e_kM1, e_MZ, e_kMZ, e_MN, e_kMN, e_Tv, e_kTv, e_Tc, e_kTc, e_lpS, e_kLp, e_kLpB0, e_kLpB1, e_kLpB2, e_kLpBR, e_kLpU, e_dwS, e_kDwB0, e_kDwC, f_II, f_LL, f_RR, f_IL, f_IR, f_LI, f_LR, f_RI, f_RL, o_iadd, o_isub, o_imul, o_iand, o_ior, o_ixor, o_ladd, o_lsub, o_lmul, o_land, o_lor, o_i2b, o_i2s, o_lneg, o_imax, o_imin, r_lt, r_le, r_gt, r_ge, r_eq, r_ne, q_lt, q_le, q_gt, q_ge, q_eq, q_ne, decide_eq_true_eq, idI, and_true, true_and, and_false, false_and, or_true, true_or, or_false, false_or, not_true_eq_false, not_false_eq_true, if_true, if_false, ite_self, Bool.not_true, Bool.not_false, Bool.false_eq_true, Bool.true_eq_false, decide_true, decide_false, ne_eq, reduceIte, Nat.reduceEqDiff, Option.some.injEq, Prod.mk.injEq, eq_self, n_inb, nI_clamp, w_hr, w_hk, w_hl, w_eq, w_ne, wl_hr, wl_hk, wl_hi, wl_eq, wl_ne, fa_lit, fa_litL, nI_add, pk_mul, nI_ltI, nI_leI, nI_eq, b01, b0, b1, Nat.reduceLeDiff, Nat.reduceAdd, Nat.reduceMul, Nat.reduceSub, Nat.lt_irrefl, Nat.reduceLT, f_ss, f_sR, f_sL, lc0, lc1, lc01, stI, stL, rF0, kt, t0, t5, kq, y10, y11, y12, y13, z1, hi1, hd, q_ishr, q_m1, q_m4, q_m6, fm, fs2, fs3, gb1, gb2, k133, c2']
    · have est : stepS P T d i = T := if_neg z1
      rw [est]
      refine ⟨(men, sl, gone), g, ?_, J0, qh⟩
      simp (maxSteps := 4000000) (disch := omega) only [ob_t, ob_n, ob_ite, e_cI, e_cL, e_cR, e_vI, e_vL, e_vR, e_d2, e_d2_a, e_d2_b, e_d2z, e_d2z_a, e_d2z_b, e_d1, e_d1_a, e_GI, e_GI_a, e_GL, e_GL_a, e_GR, e_GR_a, e_AI, e_AI_a, e_AI_b, e_AB, e_AB_a, e_AB_b, e_AZ, e_AZ_a, e_AZ_b, e_AL, e_AL_a, e_AL_b, e_AR, e_AR_a, e_AR_b, e_Len, e_Len_a, e_CI, e_CI_a, e_CI_b, e_CZ, e_CZ_a, e_And, e_kAnd, e_Or, e_kOr, e_Not, e_kNot, e_B, e_kB, e_T, e_kT, e_NN, e_kNN, e_NewA, e_NewA_a, e_NewC, e_kNewC, e_aN, e_aI, e_aI_a, e_aI_b, e_aL, e_aL_a, e_aL_b, e_aR, e_aR_a, e_aR_b, e_Call, e_kCall, e_CallV, e_kCallV, e_SetI, e_kSetI, e_SetL, e_kSetL, e_SetR, e_kSetR, e_Inc, e_Skip, e_Brk, e_Cnt, e_Ret, e_kRet, e_Ret0, e_Seq, e_kSeq0, e_kSeq1, e_kSeq2, e_kSeqR, e_If, e_kIf, e_Do, e_kDo, e_Sup, e_kN0, e_d3, e_k3a, e_k3b, e_k3c, e_P, e_kPa, e_kPb, e_UA, e_kUAa, e_kUAb, e_kUAc, e_UL, e_kULa, e_kULb, e_kULc, e_UF, e_kUFa, e_kUFb, e_Cp, e_kCp, e_Sw, e_kSwa, e_kSwb0, e_kSwb1, e_kSwbR, e_M1, e_kM1, e_MZ, e_kMZ, e_MN, e_kMN, e_Tv, e_kTv, e_Tc, e_kTc, e_lpS, e_kLp, e_kLpB0, e_kLpB1, e_kLpB2, e_kLpBR, e_kLpU, e_dwS, e_kDwB0, e_kDwC, f_II, f_LL, f_RR, f_IL, f_IR, f_LI, f_LR, f_RI, f_RL, o_iadd, o_isub, o_imul, o_iand, o_ior, o_ixor, o_ladd, o_lsub, o_lmul, o_land, o_lor, o_i2b, o_i2s, o_lneg, o_imax, o_imin, r_lt, r_le, r_gt, r_ge, r_eq, r_ne, q_lt, q_le, q_gt, q_ge, q_eq, q_ne, decide_eq_true_eq, idI, and_true, true_and, and_false, false_and, or_true, true_or, or_false, false_or, not_true_eq_false, not_false_eq_true, if_true, if_false, ite_self, Bool.not_true, Bool.not_false, Bool.false_eq_true, Bool.true_eq_false, decide_true, decide_false, ne_eq, reduceIte, Nat.reduceEqDiff, Option.some.injEq, Prod.mk.injEq, eq_self, n_inb, nI_clamp, w_hr, w_hk, w_hl, w_eq, w_ne, wl_hr, wl_hk, wl_hi, wl_eq, wl_ne, fa_lit, fa_litL, nI_add, pk_mul, nI_ltI, nI_leI, nI_eq, b01, b0, b1, Nat.reduceLeDiff, Nat.reduceAdd, Nat.reduceMul, Nat.reduceSub, Nat.lt_irrefl, Nat.reduceLT, f_ss, f_sR, f_sL, lc0, lc1, lc01, stI, stL, rF0, kt, t0, t5, kq, y10, y11, y12, y13, z1, hi1, hd]
  · obtain ⟨J, -⟩ := hI
    obtain ⟨⟨kt, t0, t1, t2, t3, t4, t5, t6, t7⟩, -⟩ := J.1.v
    refine lp_out ?_
    simp (maxSteps := 4000000) (disch := omega) only [ob_t, ob_n, ob_ite, e_cI, e_cL, e_cR, e_vI, e_vL, e_vR, e_d2, e_d2_a, e_d2_b, e_d2z, e_d2z_a, e_d2z_b, e_d1, e_d1_a, e_GI, e_GI_a, e_GL, e_GL_a, e_GR, e_GR_a, e_AI, e_AI_a, e_AI_b, e_AB, e_AB_a, e_AB_b, e_AZ, e_AZ_a, e_AZ_b, e_AL, e_AL_a, e_AL_b, e_AR, e_AR_a, e_AR_b, e_Len, e_Len_a, e_CI, e_CI_a, e_CI_b, e_CZ, e_CZ_a, e_And, e_kAnd, e_Or, e_kOr, e_Not, e_kNot, e_B, e_kB, e_T, e_kT, e_NN, e_kNN, e_NewA, e_NewA_a, e_NewC, e_kNewC, e_aN, e_aI, e_aI_a, e_aI_b, e_aL, e_aL_a, e_aL_b, e_aR, e_aR_a, e_aR_b, e_Call, e_kCall, e_CallV, e_kCallV, e_SetI, e_kSetI, e_SetL, e_kSetL, e_SetR, e_kSetR, e_Inc, e_Skip, e_Brk, e_Cnt, e_Ret, e_kRet, e_Ret0, e_Seq, e_kSeq0, e_kSeq1, e_kSeq2, e_kSeqR, e_If, e_kIf, e_Do, e_kDo, e_Sup, e_kN0, e_d3, e_k3a, e_k3b, e_k3c, e_P, e_kPa, e_kPb, e_UA, e_kUAa, e_kUAb, e_kUAc, e_UL, e_kULa, e_kULb, e_kULc, e_UF, e_kUFa, e_kUFb, e_Cp, e_kCp, e_Sw, e_kSwa, e_kSwb0, e_kSwb1, e_kSwbR, e_M1, e_kM1, e_MZ, e_kMZ, e_MN, e_kMN, e_Tv, e_kTv, e_Tc, e_kTc, e_lpS, e_kLp, e_kLpB0, e_kLpB1, e_kLpB2, e_kLpBR, e_kLpU, e_dwS, e_kDwB0, e_kDwC, f_II, f_LL, f_RR, f_IL, f_IR, f_LI, f_LR, f_RI, f_RL, o_iadd, o_isub, o_imul, o_iand, o_ior, o_ixor, o_ladd, o_lsub, o_lmul, o_land, o_lor, o_i2b, o_i2s, o_lneg, o_imax, o_imin, r_lt, r_le, r_gt, r_ge, r_eq, r_ne, q_lt, q_le, q_gt, q_ge, q_eq, q_ne, decide_eq_true_eq, idI, and_true, true_and, and_false, false_and, or_true, true_or, or_false, false_or, not_true_eq_false, not_false_eq_true, if_true, if_false, ite_self, Bool.not_true, Bool.not_false, Bool.false_eq_true, Bool.true_eq_false, decide_true, decide_false, ne_eq, reduceIte, Nat.reduceEqDiff, Option.some.injEq, Prod.mk.injEq, eq_self, n_inb, nI_clamp, w_hr, w_hk, w_hl, w_eq, w_ne, wl_hr, wl_hk, wl_hi, wl_eq, wl_ne, fa_lit, fa_litL, nI_add, pk_mul, nI_ltI, nI_leI, nI_eq, b01, b0, b1, Nat.reduceLeDiff, Nat.reduceAdd, Nat.reduceMul, Nat.reduceSub, Nat.lt_irrefl, Nat.reduceLT, f_ss, f_sR, f_sL, lc0, lc1, lc01, stI, stL, rF0, kt, t0, t5]
end
