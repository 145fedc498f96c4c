set_option maxRecDepth 100000
set_option maxHeartbeats 1000000
/-! the class's Alone: what is made ready; a state is left -/
def PR (h : St) (a : Nat) (P : PT) (s : Nat) : Prop := (∀ b, 1 ≤ b → b ≤ 8 → hi h (a + 5) b = nI (wt P s (lbN P s (b - 1))) ∧ hi h (a + 6) b = nI (pop (lbN P s (b - 1)))) ∧ ∀ x, x < P 0 4 → hi h (a + 7) x = nI (doors P x 0)
def SNa (h : St) (a : Nat) (sn : Nat → Nat) : Prop := ∀ x, x < 8 → hi h (a + 1) x = nI (sn x) + -nI 1
def MWa (h : St) (a : Nat) (mw : Nat → Nat) : Prop := ∀ x, x < 8 → hi h (a + 2) x = nI (mw x) + -nI 1
theorem n_maxm {a w : Nat} (ha : a < 2 ^ 20) (hw : w < 2 ^ 20) : (if nI a + -nI 1 < nI w then nI w else nI a + -nI 1) = nI (max a (w + 1)) + -nI 1 := by
  by_cases z : a = 0
  · subst z
    rw [if_pos (by
      rw [fa_lt, nI_toInt (by omega), show (nI 0 + -nI 1 : Int32).toInt = -1 by decide]
      omega), show max 0 (w + 1) = w + 1 by omega]
    exact (pk_m1 w).symm
  · rw [n_pred (by omega)]
    by_cases y : a - 1 < w
    · rw [if_pos (nI_lt y (by omega)), show max a (w + 1) = w + 1 by omega]
      exact (pk_m1 w).symm
    · rw [if_neg (nI_nlt (by omega) (by omega)), show max a (w + 1) = a by omega, n_pred (by omega)]
section
variable {h : St} {a p s t k : Nat} {P : PT} {X : BQ}
theorem x_prepare (hA : AS h a) (hG : PG h p P) (hs : s < P 0 7) (hd : p + 16 ≤ a ∨ a + 13 ≤ p) : ∃ g, DX0_prepare (sI (sR (sR fr0 0 a) 1 p) 2 (nI s)) h = some ((), g) ∧ PR g a P s ∧ (∀ e, e < 256 → hi g (a + 8) e = nI 0) ∧ Ch (fun o => o = a + 5 ∨ o = a + 6 ∨ o = a + 7 ∨ o = a + 8) h g := by
  have hW := hG.w
  have hb := hW.all
  have hq := hW.sl hs
  have h64 := pw6 hW hs
  obtain ⟨g1, a1, b1, -, c1⟩ := x_fillI (nI 0) hA.k8 (by decide)
  have c1' : Ch (fun o => o = a + 5 ∨ o = a + 6 ∨ o = a + 7 ∨ o = a + 8) h g1 := c1.mono (fun o ho => by have : o = a + 8 := ho; omega)
  have hG1 := hG.ch c1' (fun j hj => by omega)
  have e0 := x_leftAtFirst hG1.s hG1.r hW hs
  obtain ⟨g2, L1, b2, c2, d2⟩ : ∃ g, LX0_prepare_1 (sI (sI (sI (sR (sR fr0 0 a) 1 p) 2 (nI s)) 3 (nI (lf0 P s))) 4 (nI 1)) g1 = some (.inl 0, sI (sI (sI (sR (sR fr0 0 a) 1 p) 2 (nI s)) 3 (nI (lbN P s 8))) 4 (nI (8 + 1)), g) ∧ (∀ b, 1 ≤ b → b < 8 + 1 → hi g (a + 5) b = nI (wt P s (lbN P s (b - 1))) ∧ hi g (a + 6) b = nI (pop (lbN P s (b - 1)))) ∧ Ch (fun o => o = a + 5 ∨ o = a + 6 ∨ o = a + 7 ∨ o = a + 8) h g ∧ ∀ e, hi g (a + 8) e = hi g1 (a + 8) e := by
    unfold LX0_prepare_1
    refine loop_g (fun k => sI (sI (sI (sR (sR fr0 0 a) 1 p) 2 (nI s)) 3 (nI (lbN P s k))) 4 (nI (k + 1))) (fun k g => (∀ b, 1 ≤ b → b < k + 1 → hi g (a + 5) b = nI (wt P s (lbN P s (b - 1))) ∧ hi g (a + 6) b = nI (pop (lbN P s (b - 1)))) ∧ Ch (fun o => o = a + 5 ∨ o = a + 6 ∨ o = a + 7 ∨ o = a + 8) h g ∧ ∀ e, hi g (a + 8) e = hi g1 (a + 8) e) 8 rfl ⟨fun b h1 h2 => by omega, c1', fun _ => rfl⟩ (fun k g hk hI => ?_) (fun g hI => ?_)
    · obtain ⟨hB, hc, h8⟩ := hI
      have hA := hA.to hc.1
      have hGg := hG.ch hc (fun j hj => by omega)
      have hl := lbN_lt hW hs k
      have e1 := x_weightOf hGg.s hGg.r hW hs (l := lbN P s k) (by omega) (fun i _ hb => bit_lt hl hb)
      have k5 := hA.k5
      have k6 := hA.k6
      have e2 : DX11_put (sI (sI (sR fr0 0 (a + 5)) 1 (nI (k + 1))) 2 (nI (wt P s (lbN P s k)))) g = some ((), wI g (a + 5) (k + 1) (nI (wt P s (lbN P s k)))) := x_put (by rw [k5]) (hA.ne 5) (by rw [k5]; show k + 1 < 9; omega) (by rw [k5]; decide)
      obtain ⟨g4, hg4⟩ : ∃ x, x = wI g (a + 5) (k + 1) (nI (wt P s (lbN P s k))) := ⟨_, rfl⟩
      have hA4 : AS g4 a := by rw [hg4]; exact hA.to ⟨rfl, rfl, rfl, rfl⟩
      have k64 := hA4.k6
      have e3 : DX11_put (sI (sI (sR fr0 0 (a + 6)) 1 (nI (k + 1))) 2 (nI (pop (lbN P s k)))) g4 = some ((), wI g4 (a + 6) (k + 1) (nI (pop (lbN P s k)))) := x_put (by rw [k64]) (hA.ne 6) (by rw [k64]; show k + 1 < 9; omega) (by rw [k64]; decide)
      obtain ⟨g5, hg5⟩ : ∃ x, x = wI g4 (a + 6) (k + 1) (nI (pop (lbN P s k))) := ⟨_, rfl⟩
      have c5 : Ch (fun o => o = a + 5 ∨ o = a + 6 ∨ o = a + 7 ∨ o = a + 8) g g5 := by
        rw [hg5, hg4]
        exact (Ch.w (D := fun o => o = a + 5 ∨ o = a + 6 ∨ o = a + 7 ∨ o = a + 8) (by omega) _ _ _).tr (Ch.w (by omega) _ _ _)
      have q5 := hc.tr c5
      have hG5 := hG.ch q5 (fun j hj => by omega)
      have e4 := x_leftByLaw hG5.s hG5.r hW hs (l := lbN P s k) (law := P 0 2) (by omega) (fun i _ hb => bit_lt hl hb) hb.2.1
      have f2 : hi g5 p 2 = nI (P 0 2) := hG5.r.sc (k := 2) (by decide)
      have kp := hGg.s.k
      have hk8 : k + 1 ≤ 8 := by omega
      refine ⟨g5, ?_, fun b h1 h2 => ?_, q5, fun e => ?_⟩
      · rw [hg5, hg4] at e4 f2
        rw [hg4] at e3
        rw [hg5, hg4]
        have hl6 : lbN P s k < 256 := by omega
        simp (disch := omega) only [ob_t, ob_n, ob_ite, e_cI, e_cL, e_cR, e_vI, e_vL, e_vR, e_d2, e_d2_a, e_d2_b, e_d2z, e_d2z_a, e_d2z_b, e_d1, e_d1_a, e_GI, e_GI_a, e_GL, e_GL_a, e_GR, e_GR_a, e_AI, e_AI_a, e_AI_b, e_AB, e_AB_a, e_AB_b, e_AZ, e_AZ_a, e_AZ_b, e_AL, e_AL_a, e_AL_b, e_AR, e_AR_a, e_AR_b, e_Len, e_Len_a, e_CI, e_CI_a, e_CI_b, e_CZ, e_CZ_a, e_And, e_kAnd, e_Or, e_kOr, e_Not, e_kNot, e_B, e_kB, e_T, e_kT, e_NN, e_kNN, e_NewA, e_NewA_a, e_NewC, e_kNewC, e_aN, e_aI, e_aI_a, e_aI_b, e_aL, e_aL_a, e_aL_b, e_aR, e_aR_a, e_aR_b, e_Call, e_kCall, e_CallV, e_kCallV, e_SetI, e_kSetI, e_SetL, e_kSetL, e_SetR, e_kSetR, e_Inc, e_Skip, e_Brk, e_Cnt, e_Ret, e_kRet, e_Ret0, e_Seq, e_kSeq0, e_kSeq1, e_kSeq2, e_kSeqR, e_If, e_kIf, e_Do, e_kDo, e_Sup, e_kN0, e_d3, e_k3a, e_k3b, e_k3c, e_P, e_kPa, e_kPb, e_UA, e_kUAa, e_kUAb, e_kUAc, e_UL, e_kULa, e_kULb, e_kULc, e_UF, e_kUFa, e_kUFb, e_Cp, e_kCp, e_Sw, e_kSwa, e_kSwb0, e_kSwb1, e_kSwbR, e_M1, e_kM1, e_MZ, e_kMZ, e_MN, e_kMN, e_Tv, e_kTv, e_Tc, e_kTc, e_lpS, e_kLp, e_kLpB0, e_kLpB1, e_kLpB2, e_kLpBR, e_kLpU, e_dwS, e_kDwB0, e_kDwC, f_II, f_LL, f_RR, f_IL, f_IR, f_LI, f_LR, f_RI, f_RL, o_iadd, o_isub, o_imul, o_iand, o_ior, o_ixor, o_ladd, o_lsub, o_lmul, o_land, o_lor, o_ishl, o_ishr, o_iushr, o_lshl, o_lshr, o_lcmp, o_i2l, o_l2i, o_i2b, o_i2s, o_lneg, o_ineg, o_imax, o_imin, o_idiv, o_irem, o_ldiv, o_lrem, r_lt, r_le, r_gt, r_ge, r_eq, r_ne, q_lt, q_le, q_gt, q_ge, q_eq, q_ne, decide_eq_true_eq, idI, and_true, true_and, and_false, false_and, or_true, true_or, or_false, false_or, not_true_eq_false, not_false_eq_true, if_true, if_false, ite_self, Bool.not_true, Bool.not_false, Bool.false_eq_true, Bool.true_eq_false, decide_true, decide_false, ne_eq, reduceIte, Nat.reduceEqDiff, Option.some.injEq, Prod.mk.injEq, eq_self, fa_lit, nI_add, pk_mul, nI_ltI, nI_leI, nI_eq, b01, b0, b1, x_hasBit, Nat.reduceLeDiff, Nat.reduceAdd, Nat.reduceMul, Nat.reduceSub, Nat.lt_irrefl, Nat.reduceLT, n_inb, nI_clamp, w_hr, w_hk, w_hl, w_eq, w_ne, wl_hr, wl_hk, wl_hi, wl_eq, wl_ne, hA.k, hA.k1, hA.k2, hA.k3, hA.k4, hA.k5, hA.k6, hA.k7, hA.k8, hA.k9, hA.k10, hA.k11, hA.k12, hA.r0, hA.r1, hA.r2, hA.r3, hA.r4, hA.r5, hA.r6, hA.r7, hA.r8, hA.r10, hA.r11, hA.r12, f_ss, f_sR, stI, fI, hk8, kp, e1, e2, x_bitCount, e3, f2, e4, lbN]
      · by_cases z : b = k + 1
        · subst z
          rw [hg5, w_ne (by omega), hg4, w_eq, w_eq]
          exact ⟨rfl, rfl⟩
        · rw [hg5, w_ne (by omega), hg4, w_ne (by omega), w_ne (by omega), w_ne (by omega)]
          exact hB b h1 (by omega)
      · rw [hg5, w_ne (by omega), hg4, w_ne (by omega)]; exact h8 e
    · obtain ⟨hB, hc, -⟩ := hI
      have hA := hA.to hc.1
      simp (disch := omega) only [ob_t, ob_n, ob_ite, e_cI, e_cL, e_cR, e_vI, e_vL, e_vR, e_d2, e_d2_a, e_d2_b, e_d2z, e_d2z_a, e_d2z_b, e_d1, e_d1_a, e_GI, e_GI_a, e_GL, e_GL_a, e_GR, e_GR_a, e_AI, e_AI_a, e_AI_b, e_AB, e_AB_a, e_AB_b, e_AZ, e_AZ_a, e_AZ_b, e_AL, e_AL_a, e_AL_b, e_AR, e_AR_a, e_AR_b, e_Len, e_Len_a, e_CI, e_CI_a, e_CI_b, e_CZ, e_CZ_a, e_And, e_kAnd, e_Or, e_kOr, e_Not, e_kNot, e_B, e_kB, e_T, e_kT, e_NN, e_kNN, e_NewA, e_NewA_a, e_NewC, e_kNewC, e_aN, e_aI, e_aI_a, e_aI_b, e_aL, e_aL_a, e_aL_b, e_aR, e_aR_a, e_aR_b, e_Call, e_kCall, e_CallV, e_kCallV, e_SetI, e_kSetI, e_SetL, e_kSetL, e_SetR, e_kSetR, e_Inc, e_Skip, e_Brk, e_Cnt, e_Ret, e_kRet, e_Ret0, e_Seq, e_kSeq0, e_kSeq1, e_kSeq2, e_kSeqR, e_If, e_kIf, e_Do, e_kDo, e_Sup, e_kN0, e_d3, e_k3a, e_k3b, e_k3c, e_P, e_kPa, e_kPb, e_UA, e_kUAa, e_kUAb, e_kUAc, e_UL, e_kULa, e_kULb, e_kULc, e_UF, e_kUFa, e_kUFb, e_Cp, e_kCp, e_Sw, e_kSwa, e_kSwb0, e_kSwb1, e_kSwbR, e_M1, e_kM1, e_MZ, e_kMZ, e_MN, e_kMN, e_Tv, e_kTv, e_Tc, e_kTc, e_lpS, e_kLp, e_kLpB0, e_kLpB1, e_kLpB2, e_kLpBR, e_kLpU, e_dwS, e_kDwB0, e_kDwC, f_II, f_LL, f_RR, f_IL, f_IR, f_LI, f_LR, f_RI, f_RL, o_iadd, o_isub, o_imul, o_iand, o_ior, o_ixor, o_ladd, o_lsub, o_lmul, o_land, o_lor, o_ishl, o_ishr, o_iushr, o_lshl, o_lshr, o_lcmp, o_i2l, o_l2i, o_i2b, o_i2s, o_lneg, o_ineg, o_imax, o_imin, o_idiv, o_irem, o_ldiv, o_lrem, r_lt, r_le, r_gt, r_ge, r_eq, r_ne, q_lt, q_le, q_gt, q_ge, q_eq, q_ne, decide_eq_true_eq, idI, and_true, true_and, and_false, false_and, or_true, true_or, or_false, false_or, not_true_eq_false, not_false_eq_true, if_true, if_false, ite_self, Bool.not_true, Bool.not_false, Bool.false_eq_true, Bool.true_eq_false, decide_true, decide_false, ne_eq, reduceIte, Nat.reduceEqDiff, Option.some.injEq, Prod.mk.injEq, eq_self, fa_lit, nI_add, pk_mul, nI_ltI, nI_leI, nI_eq, b01, b0, b1, x_hasBit, Nat.reduceLeDiff, Nat.reduceAdd, Nat.reduceMul, Nat.reduceSub, Nat.lt_irrefl, Nat.reduceLT, n_inb, nI_clamp, w_hr, w_hk, w_hl, w_eq, w_ne, wl_hr, wl_hk, wl_hi, wl_eq, wl_ne, hA.k, hA.k1, hA.k2, hA.k3, hA.k4, hA.k5, hA.k6, hA.k7, hA.k8, hA.k9, hA.k10, hA.k11, hA.k12, hA.r0, hA.r1, hA.r2, hA.r3, hA.r4, hA.r5, hA.r6, hA.r7, hA.r8, hA.r10, hA.r11, hA.r12, f_ss, f_sR, stI, fI, Nat.reduceAdd]
  obtain ⟨g3, L2, b3, c3⟩ : ∃ g, LX0_prepare_2 (sI (sI (sI (sR (sR fr0 0 a) 1 p) 2 (nI s)) 3 (nI (lbN P s 8))) 4 (nI 0)) g2 = some (.inl 0, sI (sI (sI (sR (sR fr0 0 a) 1 p) 2 (nI s)) 3 (nI (lbN P s 8))) 4 (nI (P 0 4)), g) ∧ (∀ x, x < P 0 4 → hi g (a + 7) x = nI (doors P x 0)) ∧ Ch (fun o => o = a + 7) g2 g := by
    unfold LX0_prepare_2
    refine loop_g (fun k => sI (sI (sI (sR (sR fr0 0 a) 1 p) 2 (nI s)) 3 (nI (lbN P s 8))) 4 (nI k)) (fun k g => (∀ x, x < k → hi g (a + 7) x = nI (doors P x 0)) ∧ Ch (fun o => o = a + 7) g2 g) (P 0 4) rfl ⟨fun x hx => absurd hx (Nat.not_lt_zero x), Ch.rf _ _⟩ (fun k g hk hI => ?_) (fun g hI => ?_)
    · obtain ⟨hB, hc⟩ := hI
      have q : Ch (fun o => o = a + 5 ∨ o = a + 6 ∨ o = a + 7 ∨ o = a + 8) h g := c2.tr (hc.mono (fun o ho => by omega))
      have hA := hA.to q.1
      have hGg := hG.ch q (fun j hj => by omega)
      have kp := hGg.s.k
      have e1 := hGg.r.sc (k := 4) (by decide)
      have e2 := x_doors0 hGg (a := k) (by omega)
      have k7 := hA.k7
      have e3 : DX11_put (sI (sI (sR fr0 0 (a + 7)) 1 (nI k)) 2 (nI (doors P k 0))) g = some ((), wI g (a + 7) k (nI (doors P k 0))) := x_put (by rw [k7]) (hA.ne 7) (by rw [k7]; show k < 8; omega) (by rw [k7]; decide)
      refine ⟨wI g (a + 7) k (nI (doors P k 0)), ?_, fun x hx => ?_, hc.tr (Ch.w (D := fun o => o = a + 7) (r := a + 7) rfl _ _ _)⟩
      · simp (disch := omega) only [ob_t, ob_n, ob_ite, e_cI, e_cL, e_cR, e_vI, e_vL, e_vR, e_d2, e_d2_a, e_d2_b, e_d2z, e_d2z_a, e_d2z_b, e_d1, e_d1_a, e_GI, e_GI_a, e_GL, e_GL_a, e_GR, e_GR_a, e_AI, e_AI_a, e_AI_b, e_AB, e_AB_a, e_AB_b, e_AZ, e_AZ_a, e_AZ_b, e_AL, e_AL_a, e_AL_b, e_AR, e_AR_a, e_AR_b, e_Len, e_Len_a, e_CI, e_CI_a, e_CI_b, e_CZ, e_CZ_a, e_And, e_kAnd, e_Or, e_kOr, e_Not, e_kNot, e_B, e_kB, e_T, e_kT, e_NN, e_kNN, e_NewA, e_NewA_a, e_NewC, e_kNewC, e_aN, e_aI, e_aI_a, e_aI_b, e_aL, e_aL_a, e_aL_b, e_aR, e_aR_a, e_aR_b, e_Call, e_kCall, e_CallV, e_kCallV, e_SetI, e_kSetI, e_SetL, e_kSetL, e_SetR, e_kSetR, e_Inc, e_Skip, e_Brk, e_Cnt, e_Ret, e_kRet, e_Ret0, e_Seq, e_kSeq0, e_kSeq1, e_kSeq2, e_kSeqR, e_If, e_kIf, e_Do, e_kDo, e_Sup, e_kN0, e_d3, e_k3a, e_k3b, e_k3c, e_P, e_kPa, e_kPb, e_UA, e_kUAa, e_kUAb, e_kUAc, e_UL, e_kULa, e_kULb, e_kULc, e_UF, e_kUFa, e_kUFb, e_Cp, e_kCp, e_Sw, e_kSwa, e_kSwb0, e_kSwb1, e_kSwbR, e_M1, e_kM1, e_MZ, e_kMZ, e_MN, e_kMN, e_Tv, e_kTv, e_Tc, e_kTc, e_lpS, e_kLp, e_kLpB0, e_kLpB1, e_kLpB2, e_kLpBR, e_kLpU, e_dwS, e_kDwB0, e_kDwC, f_II, f_LL, f_RR, f_IL, f_IR, f_LI, f_LR, f_RI, f_RL, o_iadd, o_isub, o_imul, o_iand, o_ior, o_ixor, o_ladd, o_lsub, o_lmul, o_land, o_lor, o_ishl, o_ishr, o_iushr, o_lshl, o_lshr, o_lcmp, o_i2l, o_l2i, o_i2b, o_i2s, o_lneg, o_ineg, o_imax, o_imin, o_idiv, o_irem, o_ldiv, o_lrem, r_lt, r_le, r_gt, r_ge, r_eq, r_ne, q_lt, q_le, q_gt, q_ge, q_eq, q_ne, decide_eq_true_eq, idI, and_true, true_and, and_false, false_and, or_true, true_or, or_false, false_or, not_true_eq_false, not_false_eq_true, if_true, if_false, ite_self, Bool.not_true, Bool.not_false, Bool.false_eq_true, Bool.true_eq_false, decide_true, decide_false, ne_eq, reduceIte, Nat.reduceEqDiff, Option.some.injEq, Prod.mk.injEq, eq_self, fa_lit, nI_add, pk_mul, nI_ltI, nI_leI, nI_eq, b01, b0, b1, x_hasBit, Nat.reduceLeDiff, Nat.reduceAdd, Nat.reduceMul, Nat.reduceSub, Nat.lt_irrefl, Nat.reduceLT, n_inb, nI_clamp, w_hr, w_hk, w_hl, w_eq, w_ne, wl_hr, wl_hk, wl_hi, wl_eq, wl_ne, hA.k, hA.k1, hA.k2, hA.k3, hA.k4, hA.k5, hA.k6, hA.k7, hA.k8, hA.k9, hA.k10, hA.k11, hA.k12, hA.r0, hA.r1, hA.r2, hA.r3, hA.r4, hA.r5, hA.r6, hA.r7, hA.r8, hA.r10, hA.r11, hA.r12, f_ss, f_sR, stI, fI, kp, e1, e2, e3, hk]
      · by_cases z : x = k
        · subst z; exact w_eq _ _ _ _
        · rw [w_ne (by omega)]; exact hB x (by omega)
    · obtain ⟨hB, hc⟩ := hI
      have q : Ch (fun o => o = a + 5 ∨ o = a + 6 ∨ o = a + 7 ∨ o = a + 8) h g := c2.tr (hc.mono (fun o ho => by omega))
      have hA := hA.to q.1
      have hGg := hG.ch q (fun j hj => by omega)
      have kp := hGg.s.k
      have e1 := hGg.r.sc (k := 4) (by decide)
      simp (disch := omega) only [ob_t, ob_n, ob_ite, e_cI, e_cL, e_cR, e_vI, e_vL, e_vR, e_d2, e_d2_a, e_d2_b, e_d2z, e_d2z_a, e_d2z_b, e_d1, e_d1_a, e_GI, e_GI_a, e_GL, e_GL_a, e_GR, e_GR_a, e_AI, e_AI_a, e_AI_b, e_AB, e_AB_a, e_AB_b, e_AZ, e_AZ_a, e_AZ_b, e_AL, e_AL_a, e_AL_b, e_AR, e_AR_a, e_AR_b, e_Len, e_Len_a, e_CI, e_CI_a, e_CI_b, e_CZ, e_CZ_a, e_And, e_kAnd, e_Or, e_kOr, e_Not, e_kNot, e_B, e_kB, e_T, e_kT, e_NN, e_kNN, e_NewA, e_NewA_a, e_NewC, e_kNewC, e_aN, e_aI, e_aI_a, e_aI_b, e_aL, e_aL_a, e_aL_b, e_aR, e_aR_a, e_aR_b, e_Call, e_kCall, e_CallV, e_kCallV, e_SetI, e_kSetI, e_SetL, e_kSetL, e_SetR, e_kSetR, e_Inc, e_Skip, e_Brk, e_Cnt, e_Ret, e_kRet, e_Ret0, e_Seq, e_kSeq0, e_kSeq1, e_kSeq2, e_kSeqR, e_If, e_kIf, e_Do, e_kDo, e_Sup, e_kN0, e_d3, e_k3a, e_k3b, e_k3c, e_P, e_kPa, e_kPb, e_UA, e_kUAa, e_kUAb, e_kUAc, e_UL, e_kULa, e_kULb, e_kULc, e_UF, e_kUFa, e_kUFb, e_Cp, e_kCp, e_Sw, e_kSwa, e_kSwb0, e_kSwb1, e_kSwbR, e_M1, e_kM1, e_MZ, e_kMZ, e_MN, e_kMN, e_Tv, e_kTv, e_Tc, e_kTc, e_lpS, e_kLp, e_kLpB0, e_kLpB1, e_kLpB2, e_kLpBR, e_kLpU, e_dwS, e_kDwB0, e_kDwC, f_II, f_LL, f_RR, f_IL, f_IR, f_LI, f_LR, f_RI, f_RL, o_iadd, o_isub, o_imul, o_iand, o_ior, o_ixor, o_ladd, o_lsub, o_lmul, o_land, o_lor, o_ishl, o_ishr, o_iushr, o_lshl, o_lshr, o_lcmp, o_i2l, o_l2i, o_i2b, o_i2s, o_lneg, o_ineg, o_imax, o_imin, o_idiv, o_irem, o_ldiv, o_lrem, r_lt, r_le, r_gt, r_ge, r_eq, r_ne, q_lt, q_le, q_gt, q_ge, q_eq, q_ne, decide_eq_true_eq, idI, and_true, true_and, and_false, false_and, or_true, true_or, or_false, false_or, not_true_eq_false, not_false_eq_true, if_true, if_false, ite_self, Bool.not_true, Bool.not_false, Bool.false_eq_true, Bool.true_eq_false, decide_true, decide_false, ne_eq, reduceIte, Nat.reduceEqDiff, Option.some.injEq, Prod.mk.injEq, eq_self, fa_lit, nI_add, pk_mul, nI_ltI, nI_leI, nI_eq, b01, b0, b1, x_hasBit, Nat.reduceLeDiff, Nat.reduceAdd, Nat.reduceMul, Nat.reduceSub, Nat.lt_irrefl, Nat.reduceLT, n_inb, nI_clamp, w_hr, w_hk, w_hl, w_eq, w_ne, wl_hr, wl_hk, wl_hi, wl_eq, wl_ne, hA.k, hA.k1, hA.k2, hA.k3, hA.k4, hA.k5, hA.k6, hA.k7, hA.k8, hA.k9, hA.k10, hA.k11, hA.k12, hA.r0, hA.r1, hA.r2, hA.r3, hA.r4, hA.r5, hA.r6, hA.r7, hA.r8, hA.r10, hA.r11, hA.r12, f_ss, f_sR, stI, fI, kp, e1]
  refine ⟨g3, ?_, ⟨fun b h1 h2 => ?_, b3⟩, fun e he => ?_, c2.tr (c3.mono (fun o ho => by omega))⟩
  · have hr1 : hr g1 = hr h := c1.1.1
    have hk1 : hk g1 = hk h := c1.1.2.1
    have kp : hk h p = (5, 0) := hG.s.k
    simp (disch := omega) only [ob_t, ob_n, ob_ite, e_cI, e_cL, e_cR, e_vI, e_vL, e_vR, e_d2, e_d2_a, e_d2_b, e_d2z, e_d2z_a, e_d2z_b, e_d1, e_d1_a, e_GI, e_GI_a, e_GL, e_GL_a, e_GR, e_GR_a, e_AI, e_AI_a, e_AI_b, e_AB, e_AB_a, e_AB_b, e_AZ, e_AZ_a, e_AZ_b, e_AL, e_AL_a, e_AL_b, e_AR, e_AR_a, e_AR_b, e_Len, e_Len_a, e_CI, e_CI_a, e_CI_b, e_CZ, e_CZ_a, e_And, e_kAnd, e_Or, e_kOr, e_Not, e_kNot, e_B, e_kB, e_T, e_kT, e_NN, e_kNN, e_NewA, e_NewA_a, e_NewC, e_kNewC, e_aN, e_aI, e_aI_a, e_aI_b, e_aL, e_aL_a, e_aL_b, e_aR, e_aR_a, e_aR_b, e_Call, e_kCall, e_CallV, e_kCallV, e_SetI, e_kSetI, e_SetL, e_kSetL, e_SetR, e_kSetR, e_Inc, e_Skip, e_Brk, e_Cnt, e_Ret, e_kRet, e_Ret0, e_Seq, e_kSeq0, e_kSeq1, e_kSeq2, e_kSeqR, e_If, e_kIf, e_Do, e_kDo, e_Sup, e_kN0, e_d3, e_k3a, e_k3b, e_k3c, e_P, e_kPa, e_kPb, e_UA, e_kUAa, e_kUAb, e_kUAc, e_UL, e_kULa, e_kULb, e_kULc, e_UF, e_kUFa, e_kUFb, e_Cp, e_kCp, e_Sw, e_kSwa, e_kSwb0, e_kSwb1, e_kSwbR, e_M1, e_kM1, e_MZ, e_kMZ, e_MN, e_kMN, e_Tv, e_kTv, e_Tc, e_kTc, e_lpS, e_kLp, e_kLpB0, e_kLpB1, e_kLpB2, e_kLpBR, e_kLpU, e_dwS, e_kDwB0, e_kDwC, f_II, f_LL, f_RR, f_IL, f_IR, f_LI, f_LR, f_RI, f_RL, o_iadd, o_isub, o_imul, o_iand, o_ior, o_ixor, o_ladd, o_lsub, o_lmul, o_land, o_lor, o_ishl, o_ishr, o_iushr, o_lshl, o_lshr, o_lcmp, o_i2l, o_l2i, o_i2b, o_i2s, o_lneg, o_ineg, o_imax, o_imin, o_idiv, o_irem, o_ldiv, o_lrem, r_lt, r_le, r_gt, r_ge, r_eq, r_ne, q_lt, q_le, q_gt, q_ge, q_eq, q_ne, decide_eq_true_eq, idI, and_true, true_and, and_false, false_and, or_true, true_or, or_false, false_or, not_true_eq_false, not_false_eq_true, if_true, if_false, ite_self, Bool.not_true, Bool.not_false, Bool.false_eq_true, Bool.true_eq_false, decide_true, decide_false, ne_eq, reduceIte, Nat.reduceEqDiff, Option.some.injEq, Prod.mk.injEq, eq_self, fa_lit, nI_add, pk_mul, nI_ltI, nI_leI, nI_eq, b01, b0, b1, x_hasBit, Nat.reduceLeDiff, Nat.reduceAdd, Nat.reduceMul, Nat.reduceSub, Nat.lt_irrefl, Nat.reduceLT, n_inb, nI_clamp, w_hr, w_hk, w_hl, w_eq, w_ne, wl_hr, wl_hk, wl_hi, wl_eq, wl_ne, hA.k, hA.k1, hA.k2, hA.k3, hA.k4, hA.k5, hA.k6, hA.k7, hA.k8, hA.k9, hA.k10, hA.k11, hA.k12, hA.r0, hA.r1, hA.r2, hA.r3, hA.r4, hA.r5, hA.r6, hA.r7, hA.r8, hA.r10, hA.r11, hA.r12, f_ss, f_sR, stI, fI, DX0_prepare, BX0_prepare, a1, kp, e0, L1, L2, hr1, hk1]
  · rw [(c3.2 _ (by omega)).1, (c3.2 _ (by omega)).1]; exact b2 b h1 (by omega)
  · rw [(c3.2 _ (by omega)).1, d2]; exact b1 e he
end
