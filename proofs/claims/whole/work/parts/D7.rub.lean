set_option maxRecDepth 100000
set_option maxHeartbeats 1000000
/-! calls: rub -/
section
variable {L : Nat} {xs : Nat → Int32} {h g : St} {P P' : PT}
def rubP (P : PT) (s i : Nat) : PT := up (up (up P 14 (P 9 2) (s + 1)) 15 (P 9 2) (i + 1)) 9 2 (P 9 2 + 1)
theorem rubP_lo (P : PT) (s i : Nat) {j : Nat} (k : Nat) (q : j < 9 ∨ (10 ≤ j ∧ j ≤ 13) ∨ (j = 9 ∧ k ≠ 2) ∨ (14 ≤ j ∧ k ≠ P 9 2)) : rubP P s i j k = P j k := by
  unfold rubP
  rw [up_o _ _ (by omega), up_o _ _ (by omega), up_o _ _ (by omega)]
theorem rubP_2 (P : PT) (s i : Nat) : rubP P s i 9 2 = P 9 2 + 1 := up_eq _ _ _ _
theorem rubP_14 (P : PT) (s i : Nat) : rubP P s i 14 (P 9 2) = s + 1 := by
  unfold rubP
  rw [up_o _ _ (by omega), up_o _ _ (by omega), up_eq]
theorem rubP_15 (P : PT) (s i : Nat) : rubP P s i 15 (P 9 2) = i + 1 := by
  unfold rubP
  rw [up_o _ _ (by omega), up_eq]
theorem op_rub (v w : Int32) : OpI L xs (DX11_rub (sI (sI (sR fr0 0 oX) 1 v) 2 w)) (DX12_rub (sI (sI (sR fr0 0 oM) 1 v) 2 w)) := by
  intro h P H
  have hO := H.co
  have hP := H.ps
  have hM := H.ms
  have hcc := o_is
  have hW := H.w
  have hb := H.w.all
  have h92 : P 9 2 ≤ 20 := H.w.2.2.2.2.2.2.2.2.2.1
  have eo : ∀ x : Int32, o_i2l x = x.toInt64 := fun _ => rfl
  have c1 := G_slate H.pg v
  have m1 := m_isSlate H.thr.mg v
  have y2 := H.pg.2.1.cs (k := 2) (by decide)
  by_cases z1 : nI 0 ≤ v ∧ v < nI (P 0 7)
  · rw [if_pos z1] at c1 m1
    obtain ⟨s, hs, rfl⟩ := n_of (by omega) z1
    have c2 := G_word H.pg hs w
    have hq := H.w.sl hs
    have m3 := H.thr.mg.words hs
    have e2 := n_rng w (n := P 7 s) (by omega)
    have e4 : (nI (P 7 s)).toInt64 = lN (P 7 s) := nI_l (by omega)
    by_cases z2 : nI 0 ≤ w ∧ w < nI (P 7 s)
    · rw [if_pos z2] at c2
      obtain ⟨i, hi1, rfl⟩ := n_of (by omega) z2
      have e3 : DX12_in (sL (sL (sL fr0 0 (nI i).toInt64) 2 (lN 0)) 4 (lN (P 7 s) - lN 1)) (wI h oM 0 (nI 0)) = some (nI 1, wI h oM 0 (nI 0)) := by
        rw [m_in, if_pos (by rw [e2]; exact z2)]
      by_cases z3 : P 9 2 = 20
      · have v2 := H.mg.2.1.2.1 8 (by decide)
        rw [show hsP P 8 = P 9 2 by rfl, show 9 * 0 + 8 = 8 by rfl, z3] at v2
        rw [z3] at y2
        refine op_no (r := -nI 5) H ?_ ?_
        · simp (disch := omega) only [ob_t, ob_n, ob_ite, e_cI, e_cL, e_cR, e_vI, e_vL, e_vR, e_d2, e_d2_a, e_d2_b, e_d2z, e_d2z_a, e_d2z_b, e_d1, e_d1_a, e_GI, e_GI_a, e_GL, e_GL_a, e_GR, e_GR_a, e_AI, e_AI_a, e_AI_b, e_AB, e_AB_a, e_AB_b, e_AZ, e_AZ_a, e_AZ_b, e_AL, e_AL_a, e_AL_b, e_AR, e_AR_a, e_AR_b, e_Len, e_Len_a, e_CI, e_CI_a, e_CI_b, e_CZ, e_CZ_a, e_And, e_kAnd, e_Or, e_kOr, e_Not, e_kNot, e_B, e_kB, e_T, e_kT, e_NN, e_kNN, e_NewA, e_NewA_a, e_NewC, e_kNewC, e_aN, e_aI, e_aI_a, e_aI_b, e_aL, e_aL_a, e_aL_b, e_aR, e_aR_a, e_aR_b, e_Call, e_kCall, e_CallV, e_kCallV, e_SetI, e_kSetI, e_SetL, e_kSetL, e_SetR, e_kSetR, e_Inc, e_Skip, e_Brk, e_Cnt, e_Ret, e_kRet, e_Ret0, e_Seq, e_kSeq0, e_kSeq1, e_kSeq2, e_kSeqR, e_If, e_kIf, e_Do, e_kDo, e_Sup, e_kN0, e_d3, e_k3a, e_k3b, e_k3c, e_P, e_kPa, e_kPb, e_UA, e_kUAa, e_kUAb, e_kUAc, e_UL, e_kULa, e_kULb, e_kULc, e_UF, e_kUFa, e_kUFb, e_Cp, e_kCp, e_Sw, e_kSwa, e_kSwb0, e_kSwb1, e_kSwbR, e_M1, e_kM1, e_MZ, e_kMZ, e_MN, e_kMN, e_Tv, e_kTv, e_Tc, e_kTc, e_lpS, e_kLp, e_kLpB0, e_kLpB1, e_kLpB2, e_kLpBR, e_kLpU, e_dwS, e_kDwB0, e_kDwC, f_II, f_LL, f_RR, f_IL, f_IR, f_LI, f_LR, f_RI, f_RL, o_iadd, o_isub, o_imul, o_iand, o_ior, o_ixor, o_ladd, o_lsub, o_lmul, o_land, o_lor, o_ishl, o_ishr, o_iushr, o_lshl, o_lcmp, o_i2l, o_l2i, o_i2b, o_i2s, o_lneg, o_imax, o_imin, o_idiv, o_irem, o_ldiv, o_lrem, r_lt, r_le, r_gt, r_ge, r_eq, r_ne, q_lt, q_le, q_gt, q_ge, q_eq, q_ne, decide_eq_true_eq, idI, and_true, true_and, and_false, false_and, or_true, true_or, or_false, false_or, not_true_eq_false, not_false_eq_true, if_true, if_false, ite_self, Bool.not_true, Bool.not_false, Bool.false_eq_true, Bool.true_eq_false, decide_true, decide_false, ne_eq, reduceIte, Nat.reduceEqDiff, Option.some.injEq, Prod.mk.injEq, eq_self, fa_lit, nI_add, pk_mul, nI_ltI, nI_leI, nI_eq, b01, b0, b1, x_hasBit, Nat.reduceLeDiff, Nat.reduceAdd, Nat.reduceMul, Nat.reduceSub, Nat.lt_irrefl, Nat.reduceLT, hO.koX, hO.k32, hO.k33, hO.k34, hO.k67, hO.k68, hO.k69, hO.k70, hO.k71, hO.k100, hO.k101, hO.k115, hO.k116, hO.k117, hO.k118, hO.k119, hO.k120, hO.k121, hO.roX_0, hO.roX_1, hO.roX_2, hO.roX_3, hO.roX_4, hO.roX_5, hO.roX_6, hO.roX_7, hO.roX_8, hO.roX_9, hO.roX_10, hO.roX_11, hO.roX_12, hO.roX_13, hO.r32_0, hO.r68_0, hO.r68_1, hO.r68_2, hO.r100_0, hO.r115_2, hO.r115_3, hO.r118_1, hP.k, hP.k9, hP.r8, hP.r9, hP.r10, hP.r11, hP.r12, hP.r13, hP.r14, hP.r15, hP.r16, hP.c3, hP.c4, hP.c5, hP.c6, hP.c7, hP.c8, n_inb, nI_clamp, w_hr, w_hk, w_hl, w_eq, w_ne, wl_hr, wl_hk, wl_hi, wl_eq, wl_ne, f_ss, f_sR, f_sL, lc0, lc1, lc01, DX11_rub, BX11_rub, c1, c2, y2]
        · simp (disch := omega) only [ob_t, ob_n, ob_ite, e_cI, e_cL, e_cR, e_vI, e_vL, e_vR, e_d2, e_d2_a, e_d2_b, e_d2z, e_d2z_a, e_d2z_b, e_d1, e_d1_a, e_GI, e_GI_a, e_GL, e_GL_a, e_GR, e_GR_a, e_AI, e_AI_a, e_AI_b, e_AB, e_AB_a, e_AB_b, e_AZ, e_AZ_a, e_AZ_b, e_AL, e_AL_a, e_AL_b, e_AR, e_AR_a, e_AR_b, e_Len, e_Len_a, e_CI, e_CI_a, e_CI_b, e_CZ, e_CZ_a, e_And, e_kAnd, e_Or, e_kOr, e_Not, e_kNot, e_B, e_kB, e_T, e_kT, e_NN, e_kNN, e_NewA, e_NewA_a, e_NewC, e_kNewC, e_aN, e_aI, e_aI_a, e_aI_b, e_aL, e_aL_a, e_aL_b, e_aR, e_aR_a, e_aR_b, e_Call, e_kCall, e_CallV, e_kCallV, e_SetI, e_kSetI, e_SetL, e_kSetL, e_SetR, e_kSetR, e_Inc, e_Skip, e_Brk, e_Cnt, e_Ret, e_kRet, e_Ret0, e_Seq, e_kSeq0, e_kSeq1, e_kSeq2, e_kSeqR, e_If, e_kIf, e_Do, e_kDo, e_Sup, e_kN0, e_d3, e_k3a, e_k3b, e_k3c, e_P, e_kPa, e_kPb, e_UA, e_kUAa, e_kUAb, e_kUAc, e_UL, e_kULa, e_kULb, e_kULc, e_UF, e_kUFa, e_kUFb, e_Cp, e_kCp, e_Sw, e_kSwa, e_kSwb0, e_kSwb1, e_kSwbR, e_M1, e_kM1, e_MZ, e_kMZ, e_MN, e_kMN, e_Tv, e_kTv, e_Tc, e_kTc, e_lpS, e_kLp, e_kLpB0, e_kLpB1, e_kLpB2, e_kLpBR, e_kLpU, e_dwS, e_kDwB0, e_kDwC, f_II, f_LL, f_RR, f_IL, f_IR, f_LI, f_LR, f_RI, f_RL, and_true, true_and, and_false, false_and, or_true, true_or, or_false, false_or, not_true_eq_false, not_false_eq_true, if_true, if_false, ite_self, Bool.not_true, Bool.not_false, Bool.false_eq_true, Bool.true_eq_false, decide_true, decide_false, ne_eq, reduceIte, Nat.reduceEqDiff, Option.some.injEq, Prod.mk.injEq, eq_self, o_iadd, o_imul, r_lt, r_le, r_gt, r_ge, r_eq, r_ne, q_lt, q_le, q_gt, q_ge, q_eq, q_ne, decide_eq_true_eq, lc0, lc1, lc01, nI_eq, Nat.reduceLeDiff, Nat.reduceLT, b01, b0, b1, hM.k, hM.k1, hM.k2, hM.k3, hM.k4, hM.k5, hM.k6, hM.k7, hM.k8, hM.k9, hM.k10, hM.k11, hM.k12, hM.k13, hM.k14, hM.k15, hM.k16, hM.k17, hM.k18, hM.k19, hM.k20, hM.k21, hM.k22, hM.k23, hM.k24, hM.k25, hM.k26, hM.k27, hM.k28, hM.k29, hM.k30, hM.k31, hM.k32, hM.k33, hM.k34, hM.k35, hM.r1, hM.r2, hM.r3, hM.r4, hM.r5, hM.r16, hM.r17, hM.r18, hM.r19, hM.r20, hM.r21, hM.r22, hM.r23, hM.r24, hM.r25, hM.r26, hM.r31, hM.r32, hM.r33, hM.r34, hM.r35, hM.r36, hM.r37, hM.r38, hM.r39, hM.r40, hM.r41, hM.r42, hM.r43, hM.r44, hM.r47, hM.r48, hM.r49, hM.r50, hM.r54, n_inb, nI_clamp, w_hr, w_hk, w_hl, w_eq, w_ne, wl_hr, wl_hk, wl_hi, wl_eq, wl_ne, fI, DX12_rub, BX12_rub, m1, m3, eo, e4, fa_lit, fa_litL, o_lsub, e3, v2]
      · have ha : P 9 2 < 20 := by omega
        have y3 : (nI 20 ≤ nI (P 9 2)) = False := by rw [nI_leI (by decide) (by omega)]; exact eq_false (by omega)
        have c3 := x_leftAtFirst hP H.pg.2.1 hW hs
        have hlf := lf0_lt hW hs
        have hlf2 : lf0 P s < 2 ^ 31 := Nat.lt_of_lt_of_le hlf (Nat.pow_le_pow_right (by decide) (by omega))
        have c5 := x_hasBit (b := lf0 P s) (i := i) hlf2 (by omega) h
        have c6 := x_addAct hO hP (nI s) (nI i) ha y2
        obtain ⟨h2, hh2⟩ : ∃ x, x = wI (wI (wI h (oP + 14) (P 9 2) (nI s)) (oP + 15) (P 9 2) (nI i)) (oP + 9) 2 (nI (P 9 2 + 1)) := ⟨_, rfl⟩
        rw [← hh2] at c6
        have q2 : Ch (fun o => o = 44 ∨ o = 49 ∨ o = 50) h h2 := by
          rw [hh2]
          exact ((Ch.w (D := fun o => o = 44 ∨ o = 49 ∨ o = 50) (by omega) h _ _).tr (Ch.w (D := fun o => o = 44 ∨ o = 49 ∨ o = 50) (by omega) _ _ _)).tr (Ch.w (D := fun o => o = 44 ∨ o = 49 ∨ o = 50) (by omega) _ _ _)
        obtain ⟨g, c7, q3, s1, s2, s3, s4, s5⟩ := x_stale (H.co.to q2.1) (H.ds.to q2.1) (H.as.to q2.1)
        have hr2 := q2.1.1
        have hk2 := q2.1.2.1
        have hrg := q3.1.1
        have hkg := q3.1.2.1
        have hg : ∀ r, r ≠ 44 → r ≠ 49 → r ≠ 50 → r ≠ 72 → r ≠ 102 → r ≠ 115 → ∀ k, hi g r k = hi h r k := fun r r0 ra rb r1 r2 r3 k => by
          rw [s5 r r1 r2 r3 k, (q2.2 r (by omega)).1]
        have hG : MG g oM P := H.mg.same (q2.1.tr q3.1) (fun r r1 r2 j => hg r (by omega) (by omega) (by omega) (by omega) (by omega) (by omega) j)
        have hG1 := hG.same (g := wI g oM 0 (nI 0)) ⟨rfl, rfl, rfl, rfl⟩ (fun r r1 r2 j => w_ne (by omega) _ _)
        obtain ⟨g3, l1, hL, q4⟩ := m_lays hG1 (fun _ _ => 0)
        have q4' : CM oM g g3 := (CM.wm g 0 _ (by decide)).tr q4
        have hM3 : MS g3 oM := hG.1.to q4'.1.1
        have v2 : hi g3 (oM + 7) 8 = nI (P 9 2) := by
          rw [q4'.at (by omega)]
          exact hG.2.1.2.1 8 (by decide)
        have l2 := m_adds hM3 (-nI 1) (nI s) (nI i) (nI 0) ha v2
        obtain ⟨g4, hg4⟩ : ∃ x, x = wI (wI (wI (wI (wI g3 (oM + 15) (4 * P 9 2) (-nI 1)) (oM + 15) (4 * P 9 2 + 1) (nI s)) (oM + 15) (4 * P 9 2 + 2) (nI i)) (oM + 15) (4 * P 9 2 + 3) (nI 0)) (oM + 7) 8 (nI (P 9 2 + 1)) := ⟨_, rfl⟩
        rw [← hg4] at l2
        have q5 : Ch (fun o => o = 129 ∨ o = 137) g3 g4 := by
          rw [hg4]
          exact ((((Ch.w (D := fun o => o = 129 ∨ o = 137) (by omega) g3 _ _).tr (Ch.w (D := fun o => o = 129 ∨ o = 137) (by omega) _ _ _)).tr (Ch.w (D := fun o => o = 129 ∨ o = 137) (by omega) _ _ _)).tr (Ch.w (D := fun o => o = 129 ∨ o = 137) (by omega) _ _ _)).tr (Ch.w (D := fun o => o = 129 ∨ o = 137) (by omega) _ _ _)
        have g43 : ∀ r, r ≠ 129 → r ≠ 137 → (r < 122 ∨ (122 < r ∧ r < 139)) → ∀ k, hi g4 r k = hi g r k := fun r r1 r2 r3 k => by
          rw [(q5.2 r (by omega)).1, q4'.at (by omega)]
        have g4h : ∀ r, r ≠ 44 → r ≠ 49 → r ≠ 50 → r ≠ 72 → r ≠ 102 → r ≠ 115 → r ≠ 129 → r ≠ 137 → (r < 122 ∨ (122 < r ∧ r < 139)) → ∀ k, hi g4 r k = hi h r k := fun r r0 ra rb r1 r2 r3 r4 r5 r6 k => by
          rw [g43 r r4 r5 r6, hg r r0 ra rb r1 r2 r3]
        have g42 : ∀ r, r ≠ 72 → r ≠ 102 → r ≠ 115 → r < 122 → ∀ k, hi g4 r k = hi h2 r k := fun r r1 r2 r3 r6 k => by
          rw [g43 r (by omega) (by omega) (by omega), s5 r r1 r2 r3]
        have H4 : Inv L xs g4 (rubP P s i) := by
          have e15 : rubP P s i 15 (P 9 2) = i + 1 := rubP_15 P s i
          have h91 : P 9 1 = P 9 0 + cnA P (P 9 2) := H.mg.2.1.2.2.2.2.2.2.2.2.2
          have e91 : rubP P s i 9 1 = P 9 1 := rubP_lo P s i 1 (by omega)
          have hRP := H.pg.2.1
          refine H.act (P' := rubP P s i) ha (Nat.pos_of_ne_zero (fun z => by have := hW.2.2.2.2.2.2.2.2.2.2.2.2.2.1 z; omega)) (fun j k hj => rubP_lo P s i k (by omega)) (rubP_lo P s i 0 (by omega)) (rubP_2 P s i) ?_ (fun j k h1 h2 h3 => rubP_lo P s i k (by omega)) (fun j k h1 h2 => rubP_lo P s i k (by omega)) (fun k h1 h2 => absurd h2 (by rw [e91]; omega)) (Or.inr ?_) ?_ (fun k hk1 => ?_) (Or.inl ⟨?_, ?_⟩) ?_ ?_ ?_ ⟨fun j k hin => ?_, fun k hk1 => ?_⟩ (fun r r1 r2 r3 k => ?_) (fun k hk1 => ?_) ?_ (fun k hk1 => ?_) (fun t ht => ?_) (fun z => absurd z (by omega))
          · rw [e91, h91]
            show _ = P 9 0 + (if rubP P s i 15 (P 9 2) = 0 then _ else cnA (rubP P s i) (P 9 2))
            rw [if_neg (by omega), cnA_cg (P 9 2) (fun j hj => rubP_lo P s i j (by omega))]
          · rw [rubP_14, rubP_15, show s + 1 - 1 = s by omega]
            omega
          · exact (((q2.mono (fun o ho => by unfold chg; omega)).tr (q3.mono (fun o ho => by unfold stD at ho; unfold chg; omega))).tr (q4'.1.mono (fun o ho => by unfold mD at ho; unfold chg; omega))).tr (q5.mono (fun o ho => by unfold chg; omega))
          · rw [(q5.2 oM (by omega)).1, q4'.2 k hk1]
            exact hg _ (by omega) (by omega) (by omega) (by omega) (by omega) (by omega) k
          · rw [g43 _ (by omega) (by omega) (by omega)]; exact s1
          · obtain ⟨S, hS⟩ := H.fr.rc
            exact ⟨S, fun j k hjk => by
              have := hjk.1
              rw [g4h _ (by omega) (by omega) (by omega) (by omega) (by omega) (by omega) (by omega) (by omega) (by omega)]
              exact hS j k hjk⟩
          · rw [g43 _ (by omega) (by omega) (by omega)]; exact s2
          · rw [g43 _ (by omega) (by omega) (by omega)]; exact s3
          · rw [g43 _ (by omega) (by omega) (by omega)]; exact s4
          · by_cases j9 : j < 9
            · rw [rubP_lo P s i k (by omega), g4h _ (by omega) (by omega) (by omega) (by omega) (by omega) (by omega) (by omega) (by omega) (by omega)]
              exact hRP.1 j k (hin.lo (fun k => rubP_lo P s i k (by omega)) (fun k => rubP_lo P s i k (by omega)) j9)
            · by_cases e9 : j = 9
              · subst e9
                rw [g42 _ (by omega) (by omega) (by omega) (by omega), hh2]
                by_cases ek : k = 2
                · subst ek
                  rw [w_eq, rubP_2]
                · rw [w_ne (by omega), w_ne (by omega), w_ne (by omega), rubP_lo P s i k (by omega)]
                  exact hRP.cs hin.k3
              · have hu := hin.up (by omega)
                rw [rubP_lo P s i k (by omega), g4h _ (by omega) (by omega) (by omega) (by omega) (by omega) (by omega) (by omega) (by omega) (by omega)]
                exact hRP.1 j k (by unfold PIn; omega)
          · rw [rubP_2] at hk1
            rw [g42 _ (by omega) (by omega) (by omega) (by omega), g42 _ (by omega) (by omega) (by omega) (by omega), hh2]
            by_cases ek : k = P 9 2
            · subst ek
              rw [rubP_14, rubP_15, w_ne (by omega), w_ne (by omega), w_eq, w_ne (by omega), w_eq]
              exact ⟨(pk_m1 s).symm, (pk_m1 i).symm⟩
            · rw [rubP_lo P s i k (by omega), rubP_lo P s i k (by omega), w_ne (by omega), w_ne (by omega), w_ne (by omega), w_ne (by omega), w_ne (by omega), w_ne (by omega)]
              exact hRP.2 k (by omega)
          · exact g4h _ (by omega) (by omega) (by omega) (by omega) (by omega) (by omega) (by omega) (by omega) (by omega) k
          · rw [hg4, w_ne (by omega), w_ne (by omega), w_ne (by omega), w_ne (by omega), w_ne (by omega), q4'.at (by omega)]
            exact hg _ (by omega) (by omega) (by omega) (by omega) (by omega) (by omega) k
          · rw [hg4, w_eq]
          · rw [hg4, w_ne (by omega), w_ne (by omega), w_ne (by omega), w_ne (by omega), w_ne (by omega), q4'.at (by omega)]
            exact hg _ (by omega) (by omega) (by omega) (by omega) (by omega) (by omega) k
          · unfold acP
            rw [rubP_15, rubP_14, if_neg (by omega), hg4]
            match t, ht with
            | 0, _ => rw [w_ne (by omega), w_ne (by omega), w_ne (by omega), w_ne (by omega), if_pos rfl]; exact w_eq _ _ _ _
            | 1, _ => rw [w_ne (by omega), w_ne (by omega), w_ne (by omega), w_eq, if_neg (by decide), if_pos rfl]; exact (pk_m1' s).symm
            | 2, _ => rw [w_ne (by omega), w_ne (by omega), w_eq, if_neg (by decide), if_neg (by decide)]; exact (pk_m1' i).symm
        have l3 : hi g3 (oM + 18) s = nI (lf0 P s) := (hL.2.2.2.2 s hs).2
        have l4 := n_shr (lf0 P s) (i := i) hlf2 (by omega)
        have hrm := q4'.hr
        have hkm := q4'.hk
        have hGm := hG1
        have m1 := m_isSlate hG1 (nI s)
        rw [if_pos z1] at m1
        have m3 := hG1.words hs
        have e3 : DX12_in (sL (sL (sL fr0 0 (nI i).toInt64) 2 (lN 0)) 4 (lN (P 7 s) - lN 1)) (wI g oM 0 (nI 0)) = some (nI 1, wI g oM 0 (nI 0)) := by
          rw [m_in, if_pos (by rw [e2]; exact z2)]
        have v2g : hi g (oM + 7) 8 = nI (P 9 2) := hG.2.1.2.1 8 (by decide)
        have y4 : (nI (P 9 2) = nI 20) = False := by rw [nI_eq (by omega) (by decide)]; exact eq_false (by omega)
        refine ⟨if (lf0 P s).testBit i = true then nI 1 else nI 0, g, g4, rubP P s i, ?_, ?_, H4⟩
        · by_cases tb : (lf0 P s).testBit i = true
          · rw [if_pos tb] at c5
            rw [if_pos tb]
            simp (disch := omega) only [ob_t, ob_n, ob_ite, e_cI, e_cL, e_cR, e_vI, e_vL, e_vR, e_d2, e_d2_a, e_d2_b, e_d2z, e_d2z_a, e_d2z_b, e_d1, e_d1_a, e_GI, e_GI_a, e_GL, e_GL_a, e_GR, e_GR_a, e_AI, e_AI_a, e_AI_b, e_AB, e_AB_a, e_AB_b, e_AZ, e_AZ_a, e_AZ_b, e_AL, e_AL_a, e_AL_b, e_AR, e_AR_a, e_AR_b, e_Len, e_Len_a, e_CI, e_CI_a, e_CI_b, e_CZ, e_CZ_a, e_And, e_kAnd, e_Or, e_kOr, e_Not, e_kNot, e_B, e_kB, e_T, e_kT, e_NN, e_kNN, e_NewA, e_NewA_a, e_NewC, e_kNewC, e_aN, e_aI, e_aI_a, e_aI_b, e_aL, e_aL_a, e_aL_b, e_aR, e_aR_a, e_aR_b, e_Call, e_kCall, e_CallV, e_kCallV, e_SetI, e_kSetI, e_SetL, e_kSetL, e_SetR, e_kSetR, e_Inc, e_Skip, e_Brk, e_Cnt, e_Ret, e_kRet, e_Ret0, e_Seq, e_kSeq0, e_kSeq1, e_kSeq2, e_kSeqR, e_If, e_kIf, e_Do, e_kDo, e_Sup, e_kN0, e_d3, e_k3a, e_k3b, e_k3c, e_P, e_kPa, e_kPb, e_UA, e_kUAa, e_kUAb, e_kUAc, e_UL, e_kULa, e_kULb, e_kULc, e_UF, e_kUFa, e_kUFb, e_Cp, e_kCp, e_Sw, e_kSwa, e_kSwb0, e_kSwb1, e_kSwbR, e_M1, e_kM1, e_MZ, e_kMZ, e_MN, e_kMN, e_Tv, e_kTv, e_Tc, e_kTc, e_lpS, e_kLp, e_kLpB0, e_kLpB1, e_kLpB2, e_kLpBR, e_kLpU, e_dwS, e_kDwB0, e_kDwC, f_II, f_LL, f_RR, f_IL, f_IR, f_LI, f_LR, f_RI, f_RL, o_iadd, o_isub, o_imul, o_iand, o_ior, o_ixor, o_ladd, o_lsub, o_lmul, o_land, o_lor, o_ishl, o_ishr, o_iushr, o_lshl, o_lcmp, o_i2l, o_l2i, o_i2b, o_i2s, o_lneg, o_imax, o_imin, o_idiv, o_irem, o_ldiv, o_lrem, r_lt, r_le, r_gt, r_ge, r_eq, r_ne, q_lt, q_le, q_gt, q_ge, q_eq, q_ne, decide_eq_true_eq, idI, and_true, true_and, and_false, false_and, or_true, true_or, or_false, false_or, not_true_eq_false, not_false_eq_true, if_true, if_false, ite_self, Bool.not_true, Bool.not_false, Bool.false_eq_true, Bool.true_eq_false, decide_true, decide_false, ne_eq, reduceIte, Nat.reduceEqDiff, Option.some.injEq, Prod.mk.injEq, eq_self, fa_lit, nI_add, pk_mul, nI_ltI, nI_leI, nI_eq, b01, b0, b1, x_hasBit, Nat.reduceLeDiff, Nat.reduceAdd, Nat.reduceMul, Nat.reduceSub, Nat.lt_irrefl, Nat.reduceLT, hO.koX, hO.k32, hO.k33, hO.k34, hO.k67, hO.k68, hO.k69, hO.k70, hO.k71, hO.k100, hO.k101, hO.k115, hO.k116, hO.k117, hO.k118, hO.k119, hO.k120, hO.k121, hO.roX_0, hO.roX_1, hO.roX_2, hO.roX_3, hO.roX_4, hO.roX_5, hO.roX_6, hO.roX_7, hO.roX_8, hO.roX_9, hO.roX_10, hO.roX_11, hO.roX_12, hO.roX_13, hO.r32_0, hO.r68_0, hO.r68_1, hO.r68_2, hO.r100_0, hO.r115_2, hO.r115_3, hO.r118_1, hP.k, hP.k9, hP.r8, hP.r9, hP.r10, hP.r11, hP.r12, hP.r13, hP.r14, hP.r15, hP.r16, hP.c3, hP.c4, hP.c5, hP.c6, hP.c7, hP.c8, n_inb, nI_clamp, w_hr, w_hk, w_hl, w_eq, w_ne, wl_hr, wl_hk, wl_hi, wl_eq, wl_ne, f_ss, f_sR, f_sL, lc0, lc1, lc01, DX11_rub, BX11_rub, c1, c2, c3, c5, y2, y3, c6, c7, hr2, hk2, hrg, hkg, tb]
          · rw [if_neg tb] at c5
            rw [if_neg tb]
            simp (disch := omega) only [ob_t, ob_n, ob_ite, e_cI, e_cL, e_cR, e_vI, e_vL, e_vR, e_d2, e_d2_a, e_d2_b, e_d2z, e_d2z_a, e_d2z_b, e_d1, e_d1_a, e_GI, e_GI_a, e_GL, e_GL_a, e_GR, e_GR_a, e_AI, e_AI_a, e_AI_b, e_AB, e_AB_a, e_AB_b, e_AZ, e_AZ_a, e_AZ_b, e_AL, e_AL_a, e_AL_b, e_AR, e_AR_a, e_AR_b, e_Len, e_Len_a, e_CI, e_CI_a, e_CI_b, e_CZ, e_CZ_a, e_And, e_kAnd, e_Or, e_kOr, e_Not, e_kNot, e_B, e_kB, e_T, e_kT, e_NN, e_kNN, e_NewA, e_NewA_a, e_NewC, e_kNewC, e_aN, e_aI, e_aI_a, e_aI_b, e_aL, e_aL_a, e_aL_b, e_aR, e_aR_a, e_aR_b, e_Call, e_kCall, e_CallV, e_kCallV, e_SetI, e_kSetI, e_SetL, e_kSetL, e_SetR, e_kSetR, e_Inc, e_Skip, e_Brk, e_Cnt, e_Ret, e_kRet, e_Ret0, e_Seq, e_kSeq0, e_kSeq1, e_kSeq2, e_kSeqR, e_If, e_kIf, e_Do, e_kDo, e_Sup, e_kN0, e_d3, e_k3a, e_k3b, e_k3c, e_P, e_kPa, e_kPb, e_UA, e_kUAa, e_kUAb, e_kUAc, e_UL, e_kULa, e_kULb, e_kULc, e_UF, e_kUFa, e_kUFb, e_Cp, e_kCp, e_Sw, e_kSwa, e_kSwb0, e_kSwb1, e_kSwbR, e_M1, e_kM1, e_MZ, e_kMZ, e_MN, e_kMN, e_Tv, e_kTv, e_Tc, e_kTc, e_lpS, e_kLp, e_kLpB0, e_kLpB1, e_kLpB2, e_kLpBR, e_kLpU, e_dwS, e_kDwB0, e_kDwC, f_II, f_LL, f_RR, f_IL, f_IR, f_LI, f_LR, f_RI, f_RL, o_iadd, o_isub, o_imul, o_iand, o_ior, o_ixor, o_ladd, o_lsub, o_lmul, o_land, o_lor, o_ishl, o_ishr, o_iushr, o_lshl, o_lcmp, o_i2l, o_l2i, o_i2b, o_i2s, o_lneg, o_imax, o_imin, o_idiv, o_irem, o_ldiv, o_lrem, r_lt, r_le, r_gt, r_ge, r_eq, r_ne, q_lt, q_le, q_gt, q_ge, q_eq, q_ne, decide_eq_true_eq, idI, and_true, true_and, and_false, false_and, or_true, true_or, or_false, false_or, not_true_eq_false, not_false_eq_true, if_true, if_false, ite_self, Bool.not_true, Bool.not_false, Bool.false_eq_true, Bool.true_eq_false, decide_true, decide_false, ne_eq, reduceIte, Nat.reduceEqDiff, Option.some.injEq, Prod.mk.injEq, eq_self, fa_lit, nI_add, pk_mul, nI_ltI, nI_leI, nI_eq, b01, b0, b1, x_hasBit, Nat.reduceLeDiff, Nat.reduceAdd, Nat.reduceMul, Nat.reduceSub, Nat.lt_irrefl, Nat.reduceLT, hO.koX, hO.k32, hO.k33, hO.k34, hO.k67, hO.k68, hO.k69, hO.k70, hO.k71, hO.k100, hO.k101, hO.k115, hO.k116, hO.k117, hO.k118, hO.k119, hO.k120, hO.k121, hO.roX_0, hO.roX_1, hO.roX_2, hO.roX_3, hO.roX_4, hO.roX_5, hO.roX_6, hO.roX_7, hO.roX_8, hO.roX_9, hO.roX_10, hO.roX_11, hO.roX_12, hO.roX_13, hO.r32_0, hO.r68_0, hO.r68_1, hO.r68_2, hO.r100_0, hO.r115_2, hO.r115_3, hO.r118_1, hP.k, hP.k9, hP.r8, hP.r9, hP.r10, hP.r11, hP.r12, hP.r13, hP.r14, hP.r15, hP.r16, hP.c3, hP.c4, hP.c5, hP.c6, hP.c7, hP.c8, n_inb, nI_clamp, w_hr, w_hk, w_hl, w_eq, w_ne, wl_hr, wl_hk, wl_hi, wl_eq, wl_ne, f_ss, f_sR, f_sL, lc0, lc1, lc01, DX11_rub, BX11_rub, c1, c2, c3, c5, y2, y3, c6, c7, hr2, hk2, hrg, hkg, tb]
        · have hM := hG.1
          simp (disch := omega) only [ob_t, ob_n, ob_ite, e_cI, e_cL, e_cR, e_vI, e_vL, e_vR, e_d2, e_d2_a, e_d2_b, e_d2z, e_d2z_a, e_d2z_b, e_d1, e_d1_a, e_GI, e_GI_a, e_GL, e_GL_a, e_GR, e_GR_a, e_AI, e_AI_a, e_AI_b, e_AB, e_AB_a, e_AB_b, e_AZ, e_AZ_a, e_AZ_b, e_AL, e_AL_a, e_AL_b, e_AR, e_AR_a, e_AR_b, e_Len, e_Len_a, e_CI, e_CI_a, e_CI_b, e_CZ, e_CZ_a, e_And, e_kAnd, e_Or, e_kOr, e_Not, e_kNot, e_B, e_kB, e_T, e_kT, e_NN, e_kNN, e_NewA, e_NewA_a, e_NewC, e_kNewC, e_aN, e_aI, e_aI_a, e_aI_b, e_aL, e_aL_a, e_aL_b, e_aR, e_aR_a, e_aR_b, e_Call, e_kCall, e_CallV, e_kCallV, e_SetI, e_kSetI, e_SetL, e_kSetL, e_SetR, e_kSetR, e_Inc, e_Skip, e_Brk, e_Cnt, e_Ret, e_kRet, e_Ret0, e_Seq, e_kSeq0, e_kSeq1, e_kSeq2, e_kSeqR, e_If, e_kIf, e_Do, e_kDo, e_Sup, e_kN0, e_d3, e_k3a, e_k3b, e_k3c, e_P, e_kPa, e_kPb, e_UA, e_kUAa, e_kUAb, e_kUAc, e_UL, e_kULa, e_kULb, e_kULc, e_UF, e_kUFa, e_kUFb, e_Cp, e_kCp, e_Sw, e_kSwa, e_kSwb0, e_kSwb1, e_kSwbR, e_M1, e_kM1, e_MZ, e_kMZ, e_MN, e_kMN, e_Tv, e_kTv, e_Tc, e_kTc, e_lpS, e_kLp, e_kLpB0, e_kLpB1, e_kLpB2, e_kLpBR, e_kLpU, e_dwS, e_kDwB0, e_kDwC, f_II, f_LL, f_RR, f_IL, f_IR, f_LI, f_LR, f_RI, f_RL, and_true, true_and, and_false, false_and, or_true, true_or, or_false, false_or, not_true_eq_false, not_false_eq_true, if_true, if_false, ite_self, Bool.not_true, Bool.not_false, Bool.false_eq_true, Bool.true_eq_false, decide_true, decide_false, ne_eq, reduceIte, Nat.reduceEqDiff, Option.some.injEq, Prod.mk.injEq, eq_self, o_iadd, o_imul, r_lt, r_le, r_gt, r_ge, r_eq, r_ne, q_lt, q_le, q_gt, q_ge, q_eq, q_ne, decide_eq_true_eq, lc0, lc1, lc01, nI_eq, Nat.reduceLeDiff, Nat.reduceLT, b01, b0, b1, hM.k, hM.k1, hM.k2, hM.k3, hM.k4, hM.k5, hM.k6, hM.k7, hM.k8, hM.k9, hM.k10, hM.k11, hM.k12, hM.k13, hM.k14, hM.k15, hM.k16, hM.k17, hM.k18, hM.k19, hM.k20, hM.k21, hM.k22, hM.k23, hM.k24, hM.k25, hM.k26, hM.k27, hM.k28, hM.k29, hM.k30, hM.k31, hM.k32, hM.k33, hM.k34, hM.k35, hM.r1, hM.r2, hM.r3, hM.r4, hM.r5, hM.r16, hM.r17, hM.r18, hM.r19, hM.r20, hM.r21, hM.r22, hM.r23, hM.r24, hM.r25, hM.r26, hM.r31, hM.r32, hM.r33, hM.r34, hM.r35, hM.r36, hM.r37, hM.r38, hM.r39, hM.r40, hM.r41, hM.r42, hM.r43, hM.r44, hM.r47, hM.r48, hM.r49, hM.r50, hM.r54, n_inb, nI_clamp, w_hr, w_hk, w_hl, w_eq, w_ne, wl_hr, wl_hk, wl_hi, wl_eq, wl_ne, fI, DX12_rub, BX12_rub, m1, m3, eo, e4, fa_lit, fa_litL, o_lsub, e3, v2g, y4, l1, hrm, hkm, l3, l4, l2, o_ishr, o_iand, f_ss, f_sR, f_sL]
    · rw [if_neg z2] at c2
      have e3 : DX12_in (sL (sL (sL fr0 0 w.toInt64) 2 (lN 0)) 4 (lN (P 7 s) - lN 1)) (wI h oM 0 (nI 0)) = some (nI 0, wI h oM 0 (nI 0)) := by
        rw [m_in, if_neg (by rw [e2]; exact z2)]
      refine op_no (r := -nI 2) H ?_ ?_
      · simp (disch := omega) only [ob_t, ob_n, ob_ite, e_cI, e_cL, e_cR, e_vI, e_vL, e_vR, e_d2, e_d2_a, e_d2_b, e_d2z, e_d2z_a, e_d2z_b, e_d1, e_d1_a, e_GI, e_GI_a, e_GL, e_GL_a, e_GR, e_GR_a, e_AI, e_AI_a, e_AI_b, e_AB, e_AB_a, e_AB_b, e_AZ, e_AZ_a, e_AZ_b, e_AL, e_AL_a, e_AL_b, e_AR, e_AR_a, e_AR_b, e_Len, e_Len_a, e_CI, e_CI_a, e_CI_b, e_CZ, e_CZ_a, e_And, e_kAnd, e_Or, e_kOr, e_Not, e_kNot, e_B, e_kB, e_T, e_kT, e_NN, e_kNN, e_NewA, e_NewA_a, e_NewC, e_kNewC, e_aN, e_aI, e_aI_a, e_aI_b, e_aL, e_aL_a, e_aL_b, e_aR, e_aR_a, e_aR_b, e_Call, e_kCall, e_CallV, e_kCallV, e_SetI, e_kSetI, e_SetL, e_kSetL, e_SetR, e_kSetR, e_Inc, e_Skip, e_Brk, e_Cnt, e_Ret, e_kRet, e_Ret0, e_Seq, e_kSeq0, e_kSeq1, e_kSeq2, e_kSeqR, e_If, e_kIf, e_Do, e_kDo, e_Sup, e_kN0, e_d3, e_k3a, e_k3b, e_k3c, e_P, e_kPa, e_kPb, e_UA, e_kUAa, e_kUAb, e_kUAc, e_UL, e_kULa, e_kULb, e_kULc, e_UF, e_kUFa, e_kUFb, e_Cp, e_kCp, e_Sw, e_kSwa, e_kSwb0, e_kSwb1, e_kSwbR, e_M1, e_kM1, e_MZ, e_kMZ, e_MN, e_kMN, e_Tv, e_kTv, e_Tc, e_kTc, e_lpS, e_kLp, e_kLpB0, e_kLpB1, e_kLpB2, e_kLpBR, e_kLpU, e_dwS, e_kDwB0, e_kDwC, f_II, f_LL, f_RR, f_IL, f_IR, f_LI, f_LR, f_RI, f_RL, o_iadd, o_isub, o_imul, o_iand, o_ior, o_ixor, o_ladd, o_lsub, o_lmul, o_land, o_lor, o_ishl, o_ishr, o_iushr, o_lshl, o_lcmp, o_i2l, o_l2i, o_i2b, o_i2s, o_lneg, o_imax, o_imin, o_idiv, o_irem, o_ldiv, o_lrem, r_lt, r_le, r_gt, r_ge, r_eq, r_ne, q_lt, q_le, q_gt, q_ge, q_eq, q_ne, decide_eq_true_eq, idI, and_true, true_and, and_false, false_and, or_true, true_or, or_false, false_or, not_true_eq_false, not_false_eq_true, if_true, if_false, ite_self, Bool.not_true, Bool.not_false, Bool.false_eq_true, Bool.true_eq_false, decide_true, decide_false, ne_eq, reduceIte, Nat.reduceEqDiff, Option.some.injEq, Prod.mk.injEq, eq_self, fa_lit, nI_add, pk_mul, nI_ltI, nI_leI, nI_eq, b01, b0, b1, x_hasBit, Nat.reduceLeDiff, Nat.reduceAdd, Nat.reduceMul, Nat.reduceSub, Nat.lt_irrefl, Nat.reduceLT, hO.koX, hO.k32, hO.k33, hO.k34, hO.k67, hO.k68, hO.k69, hO.k70, hO.k71, hO.k100, hO.k101, hO.k115, hO.k116, hO.k117, hO.k118, hO.k119, hO.k120, hO.k121, hO.roX_0, hO.roX_1, hO.roX_2, hO.roX_3, hO.roX_4, hO.roX_5, hO.roX_6, hO.roX_7, hO.roX_8, hO.roX_9, hO.roX_10, hO.roX_11, hO.roX_12, hO.roX_13, hO.r32_0, hO.r68_0, hO.r68_1, hO.r68_2, hO.r100_0, hO.r115_2, hO.r115_3, hO.r118_1, hP.k, hP.k9, hP.r8, hP.r9, hP.r10, hP.r11, hP.r12, hP.r13, hP.r14, hP.r15, hP.r16, hP.c3, hP.c4, hP.c5, hP.c6, hP.c7, hP.c8, n_inb, nI_clamp, w_hr, w_hk, w_hl, w_eq, w_ne, wl_hr, wl_hk, wl_hi, wl_eq, wl_ne, f_ss, f_sR, f_sL, lc0, lc1, lc01, DX11_rub, BX11_rub, c1, c2]
      · simp (disch := omega) only [ob_t, ob_n, ob_ite, e_cI, e_cL, e_cR, e_vI, e_vL, e_vR, e_d2, e_d2_a, e_d2_b, e_d2z, e_d2z_a, e_d2z_b, e_d1, e_d1_a, e_GI, e_GI_a, e_GL, e_GL_a, e_GR, e_GR_a, e_AI, e_AI_a, e_AI_b, e_AB, e_AB_a, e_AB_b, e_AZ, e_AZ_a, e_AZ_b, e_AL, e_AL_a, e_AL_b, e_AR, e_AR_a, e_AR_b, e_Len, e_Len_a, e_CI, e_CI_a, e_CI_b, e_CZ, e_CZ_a, e_And, e_kAnd, e_Or, e_kOr, e_Not, e_kNot, e_B, e_kB, e_T, e_kT, e_NN, e_kNN, e_NewA, e_NewA_a, e_NewC, e_kNewC, e_aN, e_aI, e_aI_a, e_aI_b, e_aL, e_aL_a, e_aL_b, e_aR, e_aR_a, e_aR_b, e_Call, e_kCall, e_CallV, e_kCallV, e_SetI, e_kSetI, e_SetL, e_kSetL, e_SetR, e_kSetR, e_Inc, e_Skip, e_Brk, e_Cnt, e_Ret, e_kRet, e_Ret0, e_Seq, e_kSeq0, e_kSeq1, e_kSeq2, e_kSeqR, e_If, e_kIf, e_Do, e_kDo, e_Sup, e_kN0, e_d3, e_k3a, e_k3b, e_k3c, e_P, e_kPa, e_kPb, e_UA, e_kUAa, e_kUAb, e_kUAc, e_UL, e_kULa, e_kULb, e_kULc, e_UF, e_kUFa, e_kUFb, e_Cp, e_kCp, e_Sw, e_kSwa, e_kSwb0, e_kSwb1, e_kSwbR, e_M1, e_kM1, e_MZ, e_kMZ, e_MN, e_kMN, e_Tv, e_kTv, e_Tc, e_kTc, e_lpS, e_kLp, e_kLpB0, e_kLpB1, e_kLpB2, e_kLpBR, e_kLpU, e_dwS, e_kDwB0, e_kDwC, f_II, f_LL, f_RR, f_IL, f_IR, f_LI, f_LR, f_RI, f_RL, and_true, true_and, and_false, false_and, or_true, true_or, or_false, false_or, not_true_eq_false, not_false_eq_true, if_true, if_false, ite_self, Bool.not_true, Bool.not_false, Bool.false_eq_true, Bool.true_eq_false, decide_true, decide_false, ne_eq, reduceIte, Nat.reduceEqDiff, Option.some.injEq, Prod.mk.injEq, eq_self, o_iadd, o_imul, r_lt, r_le, r_gt, r_ge, r_eq, r_ne, q_lt, q_le, q_gt, q_ge, q_eq, q_ne, decide_eq_true_eq, lc0, lc1, lc01, nI_eq, Nat.reduceLeDiff, Nat.reduceLT, b01, b0, b1, hM.k, hM.k1, hM.k2, hM.k3, hM.k4, hM.k5, hM.k6, hM.k7, hM.k8, hM.k9, hM.k10, hM.k11, hM.k12, hM.k13, hM.k14, hM.k15, hM.k16, hM.k17, hM.k18, hM.k19, hM.k20, hM.k21, hM.k22, hM.k23, hM.k24, hM.k25, hM.k26, hM.k27, hM.k28, hM.k29, hM.k30, hM.k31, hM.k32, hM.k33, hM.k34, hM.k35, hM.r1, hM.r2, hM.r3, hM.r4, hM.r5, hM.r16, hM.r17, hM.r18, hM.r19, hM.r20, hM.r21, hM.r22, hM.r23, hM.r24, hM.r25, hM.r26, hM.r31, hM.r32, hM.r33, hM.r34, hM.r35, hM.r36, hM.r37, hM.r38, hM.r39, hM.r40, hM.r41, hM.r42, hM.r43, hM.r44, hM.r47, hM.r48, hM.r49, hM.r50, hM.r54, n_inb, nI_clamp, w_hr, w_hk, w_hl, w_eq, w_ne, wl_hr, wl_hk, wl_hi, wl_eq, wl_ne, fI, DX12_rub, BX12_rub, m1, m3, eo, e4, fa_lit, fa_litL, o_lsub, e3]
  · rw [if_neg z1] at c1 m1
    refine op_no (r := -nI 2) H ?_ ?_
    · simp (disch := omega) only [ob_t, ob_n, ob_ite, e_cI, e_cL, e_cR, e_vI, e_vL, e_vR, e_d2, e_d2_a, e_d2_b, e_d2z, e_d2z_a, e_d2z_b, e_d1, e_d1_a, e_GI, e_GI_a, e_GL, e_GL_a, e_GR, e_GR_a, e_AI, e_AI_a, e_AI_b, e_AB, e_AB_a, e_AB_b, e_AZ, e_AZ_a, e_AZ_b, e_AL, e_AL_a, e_AL_b, e_AR, e_AR_a, e_AR_b, e_Len, e_Len_a, e_CI, e_CI_a, e_CI_b, e_CZ, e_CZ_a, e_And, e_kAnd, e_Or, e_kOr, e_Not, e_kNot, e_B, e_kB, e_T, e_kT, e_NN, e_kNN, e_NewA, e_NewA_a, e_NewC, e_kNewC, e_aN, e_aI, e_aI_a, e_aI_b, e_aL, e_aL_a, e_aL_b, e_aR, e_aR_a, e_aR_b, e_Call, e_kCall, e_CallV, e_kCallV, e_SetI, e_kSetI, e_SetL, e_kSetL, e_SetR, e_kSetR, e_Inc, e_Skip, e_Brk, e_Cnt, e_Ret, e_kRet, e_Ret0, e_Seq, e_kSeq0, e_kSeq1, e_kSeq2, e_kSeqR, e_If, e_kIf, e_Do, e_kDo, e_Sup, e_kN0, e_d3, e_k3a, e_k3b, e_k3c, e_P, e_kPa, e_kPb, e_UA, e_kUAa, e_kUAb, e_kUAc, e_UL, e_kULa, e_kULb, e_kULc, e_UF, e_kUFa, e_kUFb, e_Cp, e_kCp, e_Sw, e_kSwa, e_kSwb0, e_kSwb1, e_kSwbR, e_M1, e_kM1, e_MZ, e_kMZ, e_MN, e_kMN, e_Tv, e_kTv, e_Tc, e_kTc, e_lpS, e_kLp, e_kLpB0, e_kLpB1, e_kLpB2, e_kLpBR, e_kLpU, e_dwS, e_kDwB0, e_kDwC, f_II, f_LL, f_RR, f_IL, f_IR, f_LI, f_LR, f_RI, f_RL, o_iadd, o_isub, o_imul, o_iand, o_ior, o_ixor, o_ladd, o_lsub, o_lmul, o_land, o_lor, o_ishl, o_ishr, o_iushr, o_lshl, o_lcmp, o_i2l, o_l2i, o_i2b, o_i2s, o_lneg, o_imax, o_imin, o_idiv, o_irem, o_ldiv, o_lrem, r_lt, r_le, r_gt, r_ge, r_eq, r_ne, q_lt, q_le, q_gt, q_ge, q_eq, q_ne, decide_eq_true_eq, idI, and_true, true_and, and_false, false_and, or_true, true_or, or_false, false_or, not_true_eq_false, not_false_eq_true, if_true, if_false, ite_self, Bool.not_true, Bool.not_false, Bool.false_eq_true, Bool.true_eq_false, decide_true, decide_false, ne_eq, reduceIte, Nat.reduceEqDiff, Option.some.injEq, Prod.mk.injEq, eq_self, fa_lit, nI_add, pk_mul, nI_ltI, nI_leI, nI_eq, b01, b0, b1, x_hasBit, Nat.reduceLeDiff, Nat.reduceAdd, Nat.reduceMul, Nat.reduceSub, Nat.lt_irrefl, Nat.reduceLT, hO.koX, hO.k32, hO.k33, hO.k34, hO.k67, hO.k68, hO.k69, hO.k70, hO.k71, hO.k100, hO.k101, hO.k115, hO.k116, hO.k117, hO.k118, hO.k119, hO.k120, hO.k121, hO.roX_0, hO.roX_1, hO.roX_2, hO.roX_3, hO.roX_4, hO.roX_5, hO.roX_6, hO.roX_7, hO.roX_8, hO.roX_9, hO.roX_10, hO.roX_11, hO.roX_12, hO.roX_13, hO.r32_0, hO.r68_0, hO.r68_1, hO.r68_2, hO.r100_0, hO.r115_2, hO.r115_3, hO.r118_1, hP.k, hP.k9, hP.r8, hP.r9, hP.r10, hP.r11, hP.r12, hP.r13, hP.r14, hP.r15, hP.r16, hP.c3, hP.c4, hP.c5, hP.c6, hP.c7, hP.c8, n_inb, nI_clamp, w_hr, w_hk, w_hl, w_eq, w_ne, wl_hr, wl_hk, wl_hi, wl_eq, wl_ne, f_ss, f_sR, f_sL, lc0, lc1, lc01, DX11_rub, BX11_rub, c1]
    · simp (disch := omega) only [ob_t, ob_n, ob_ite, e_cI, e_cL, e_cR, e_vI, e_vL, e_vR, e_d2, e_d2_a, e_d2_b, e_d2z, e_d2z_a, e_d2z_b, e_d1, e_d1_a, e_GI, e_GI_a, e_GL, e_GL_a, e_GR, e_GR_a, e_AI, e_AI_a, e_AI_b, e_AB, e_AB_a, e_AB_b, e_AZ, e_AZ_a, e_AZ_b, e_AL, e_AL_a, e_AL_b, e_AR, e_AR_a, e_AR_b, e_Len, e_Len_a, e_CI, e_CI_a, e_CI_b, e_CZ, e_CZ_a, e_And, e_kAnd, e_Or, e_kOr, e_Not, e_kNot, e_B, e_kB, e_T, e_kT, e_NN, e_kNN, e_NewA, e_NewA_a, e_NewC, e_kNewC, e_aN, e_aI, e_aI_a, e_aI_b, e_aL, e_aL_a, e_aL_b, e_aR, e_aR_a, e_aR_b, e_Call, e_kCall, e_CallV, e_kCallV, e_SetI, e_kSetI, e_SetL, e_kSetL, e_SetR, e_kSetR, e_Inc, e_Skip, e_Brk, e_Cnt, e_Ret, e_kRet, e_Ret0, e_Seq, e_kSeq0, e_kSeq1, e_kSeq2, e_kSeqR, e_If, e_kIf, e_Do, e_kDo, e_Sup, e_kN0, e_d3, e_k3a, e_k3b, e_k3c, e_P, e_kPa, e_kPb, e_UA, e_kUAa, e_kUAb, e_kUAc, e_UL, e_kULa, e_kULb, e_kULc, e_UF, e_kUFa, e_kUFb, e_Cp, e_kCp, e_Sw, e_kSwa, e_kSwb0, e_kSwb1, e_kSwbR, e_M1, e_kM1, e_MZ, e_kMZ, e_MN, e_kMN, e_Tv, e_kTv, e_Tc, e_kTc, e_lpS, e_kLp, e_kLpB0, e_kLpB1, e_kLpB2, e_kLpBR, e_kLpU, e_dwS, e_kDwB0, e_kDwC, f_II, f_LL, f_RR, f_IL, f_IR, f_LI, f_LR, f_RI, f_RL, o_iadd, o_isub, o_imul, o_iand, o_ior, o_ixor, o_ladd, o_lsub, o_lmul, o_land, o_lor, o_ishl, o_ishr, o_iushr, o_lshl, o_lcmp, o_i2l, o_l2i, o_i2b, o_i2s, o_lneg, o_imax, o_imin, o_idiv, o_irem, o_ldiv, o_lrem, r_lt, r_le, r_gt, r_ge, r_eq, r_ne, q_lt, q_le, q_gt, q_ge, q_eq, q_ne, decide_eq_true_eq, idI, and_true, true_and, and_false, false_and, or_true, true_or, or_false, false_or, not_true_eq_false, not_false_eq_true, if_true, if_false, ite_self, Bool.not_true, Bool.not_false, Bool.false_eq_true, Bool.true_eq_false, decide_true, decide_false, ne_eq, reduceIte, Nat.reduceEqDiff, Option.some.injEq, Prod.mk.injEq, eq_self, fa_lit, nI_add, pk_mul, nI_ltI, nI_leI, nI_eq, b01, b0, b1, x_hasBit, Nat.reduceLeDiff, Nat.reduceAdd, Nat.reduceMul, Nat.reduceSub, Nat.lt_irrefl, Nat.reduceLT, n_inb, nI_clamp, w_hr, w_hk, w_hl, w_eq, w_ne, wl_hr, wl_hk, wl_hi, wl_eq, wl_ne, hM.k, hM.k1, hM.k2, hM.k3, hM.k4, hM.k5, hM.k6, hM.k7, hM.k8, hM.k9, hM.k10, hM.k11, hM.k12, hM.k13, hM.k14, hM.k15, hM.k16, hM.k17, hM.k18, hM.k19, hM.k20, hM.k21, hM.k22, hM.k23, hM.k24, hM.k25, hM.k26, hM.k27, hM.k28, hM.k29, hM.k30, hM.k31, hM.k32, hM.k33, hM.k34, hM.k35, hM.r1, hM.r2, hM.r3, hM.r4, hM.r5, hM.r16, hM.r17, hM.r18, hM.r19, hM.r20, hM.r21, hM.r22, hM.r23, hM.r24, hM.r25, hM.r26, hM.r31, hM.r32, hM.r33, hM.r34, hM.r35, hM.r36, hM.r37, hM.r38, hM.r39, hM.r40, hM.r41, hM.r42, hM.r43, hM.r44, hM.r47, hM.r48, hM.r49, hM.r50, hM.r54, stI, fI, fZ, fL, stL, f_ss, f_sL, f_sR, lc0, lc1, lc01, DX12_rub, BX12_rub, m1]
end
