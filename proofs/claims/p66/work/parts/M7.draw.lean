set_option maxRecDepth 100000
set_option maxHeartbeats 4000000
/-! the law draws a PORT: slates, carries, on -/
section
variable {L : Nat} {xs : Nat → Int32} {h h1 g : St} {ts us : List (Nat × Nat)} {P P' Q : PT} {tf : Nat → Nat} {u : Nat} {l : List Nat}
theorem x_p5 {d l H W K S : Nat} (hH : H < 8) (hW : W < 12) (hK : K < 6) (hS : S < 4) (hS0 : 0 < S → 0 < H) (J : PJ L xs h ts P Q (tv d l H K S 0)) (N : PN P d l H W K 0 0) : ∃ (g : St) (ts' : List (Nat × Nat)) (P' : PT), LL_port__5 (sI (sI (sR (sR (sR (sR (sR (sR (sR (sR (sR (sR fr0 0 31) 1 1) 2 122) 3 123) 4 124) 5 125) 6 126) 7 127) 8 128) 9 129) 10 (nI W)) 11 (nI 0)) h = some (.inl 0, sI (sI (sR (sR (sR (sR (sR (sR (sR (sR (sR (sR fr0 0 31) 1 1) 2 122) 3 123) 4 124) 5 125) 6 126) 7 127) 8 128) 9 129) 10 (nI W)) 11 (nI S), g) ∧ PJ L xs g ts' P' Q (tv d l H K S 0) ∧ PN P' d l H W K S 0 ∧ Ch pE h g := by
  suffices hh : ∃ g, LL_port__5 (sI (sI (sR (sR (sR (sR (sR (sR (sR (sR (sR (sR fr0 0 31) 1 1) 2 122) 3 123) 4 124) 5 125) 6 126) 7 127) 8 128) 9 129) 10 (nI W)) 11 (nI 0)) h = some (.inl 0, sI (sI (sR (sR (sR (sR (sR (sR (sR (sR (sR (sR fr0 0 31) 1 1) 2 122) 3 123) 4 124) 5 125) 6 126) 7 127) 8 128) 9 129) 10 (nI W)) 11 (nI S), g) ∧ ∃ (ts' : List (Nat × Nat)) (P' : PT), PJ L xs g ts' P' Q (tv d l H K S 0) ∧ PN P' d l H W K S 0 ∧ Ch pE h g ∧ ∀ b, b < S → P' 7 b ≤ 6 by
    obtain ⟨g, a, ts', P', b1, b2, b3, -⟩ := hh
    exact ⟨g, ts', P', a, b1, b2, b3⟩
  unfold LL_port__5
  refine loop_g (fun k => sI (sI (sR (sR (sR (sR (sR (sR (sR (sR (sR (sR fr0 0 31) 1 1) 2 122) 3 123) 4 124) 5 125) 6 126) 7 127) 8 128) 9 129) 10 (nI W)) 11 (nI k)) (fun k g => ∃ (ts' : List (Nat × Nat)) (P' : PT), PJ L xs g ts' P' Q (tv d l H K S 0) ∧ PN P' d l H W K k 0 ∧ Ch pE h g ∧ ∀ b, b < k → P' 7 b ≤ 6) S rfl ⟨ts, P, J, N, Ch.rf _ _, fun b hb => absurd hb (Nat.not_lt_zero _)⟩ (fun k g hk1 hI => ?_) (fun g hI => ?_)
  · obtain ⟨ts1, P1, J1, N1, c1, hw6⟩ := hI
    obtain ⟨n1, n2, n4, n5, n6, n7, n9, n92, n0⟩ := N1
    obtain ⟨⟨i0, sc, th, at_, au⟩, tx, ln, p0, le, ⟨vf, v1, v2⟩, ⟨zf, z1, z2⟩, ⟨wf, w1, w2⟩, ⟨qf, q1, q2⟩, ⟨ff, f1, f2⟩⟩ := J1
    have H2 := hS0 (by omega)
    obtain ⟨c, ec⟩ : ∃ c, c = dw L xs (31 + k) 1073741824 := ⟨_, rfl⟩
    have hc : c < 1073741824 := by rw [ec]; exact dw_lt _ _ _ (by decide)
    have dr := x_draw sc (k := 31 + k) (n := 1073741824) (by omega) (by decide) (by decide)
    rw [← ec] at dr
    obtain ⟨a, ea⟩ : ∃ a, a = c % H := ⟨_, rfl⟩
    have ha : a < H := by rw [ea]; exact Nat.mod_lt _ (by omega)
    obtain ⟨m, em⟩ : ∃ m, m = 1 + c / 2 ^ 4 % 6 := ⟨_, rfl⟩
    have hm : 1 ≤ m ∧ m ≤ 6 := by omega
    have m1 : o_irem (nI c) (nI H) = nI a := by rw [ea]; exact q_irem (by omega) (by omega) (by omega)
    have m2 : o_ishr (nI c) (nI 4) = nI (c / 2 ^ 4) := q_ishr (by decide) (by omega)
    have c5 : c / 2 ^ 4 < 2 ^ 31 := Nat.lt_of_le_of_lt (Nat.div_le_self _ _) (by omega)
    have m3 : nI 1 + o_irem (nI (c / 2 ^ 4)) (nI 6) = nI m := by rw [q_irem c5 (by decide) (by decide), nI_add, em]
    have t2 : hi g 124 2 = nI H := at_.2 2 (by decide)
    have t4 : hi g 124 4 = nI S := at_.2 4 (by decide)
    have kt := at_.1
    have kf := f1.1
    have kw := w1.1
    have zH : (H = 0) = False := eq_false (by omega)
    obtain ⟨h2, eh⟩ : ∃ z, z = wI (wI g 129 k (nI a)) 127 (7 * k) (nI m) := ⟨_, rfl⟩
    have cw : Ch aD g h2 := by rw [eh]; exact (Ch.w (D := aD) (by unfold aD; omega) _ _ _).tr (Ch.w (D := aD) (by unfold aD; omega) _ _ _)
    have F2 : AR h2 129 6 (fuN ff k a) := by rw [eh]; exact (f1.w k a).o (by decide) _ _
    have W2 : AR h2 127 21 (fuN wf (7 * k) m) := by rw [eh]; exact (w1.o (by decide) _ _).w _ _
    have le2 : (tBs ts1).length ≤ 28 + 15 * H + 9 * W + 24 * K + 60 * k := by unfold lb at le; omega
    have wbl' := wbl
    have da := (dgs_l a).2 (by omega)
    obtain ⟨g3, b3, T3, I3, c3⟩ := x_lsay (j := 10) (i0.lw (lw_ch cw (fun o ho z => by unfold aD at z; omega))) (tx.ch cw (fun o ho z => by unfold aD at z; omega)) (by decide) (by omega)
    have b3' : DL_say (sL (sR (sR fr0 0 31) 1 122) 2 (lN 8317129764385062912)) h2 = some ((), g3) := b3
    have l3 : (tBs ts1 ++ tB (0, 10)).length ≤ 28 + 15 * H + 9 * W + 24 * K + 60 * k + 6 := by rw [List.length_append, tB_0]; omega
    obtain ⟨g4, b4, T4, I4, c4⟩ := x_lwn (j := 8) (v := a) I3 T3 (by decide) (by omega) (by omega)
    have b4' : DL_say_ (sI (sL (sR (sR fr0 0 31) 1 122) 2 (lN 7022237718977445888)) 4 (nI a)) g3 = some ((), g4) := b4
    have l4 : (tBs ts1 ++ tB (0, 10) ++ tB (0, 8) ++ tB (1, a)).length ≤ 28 + 15 * H + 9 * W + 24 * K + 60 * k + 11 := by
      rw [List.length_append, List.length_append, tB_0, tB_1]
      omega
    have F3 := F2.ch c3 (by unfold pD; omega)
    have W4 := (W2.ch c3 (by unfold pD; omega)).ch c4 (by unfold pD; omega)
    obtain ⟨g5, ws, wf', b5, e1, e2, T5, I5, c5', W5, e3, e4⟩ := x_p4 (W := W) (c := c) (m := m) (s := k) (by omega) hm.2 hc I4 T4 W4 (if_pos rfl) (by omega)
    have tlw := tl_ws ws
    have l5 : (tBs ts1 ++ tB (0, 10) ++ tB (0, 8) ++ tB (1, a) ++ tBs (wsT ws)).length ≤ 28 + 15 * H + 9 * W + 24 * K + 60 * k + 59 := by
      rw [List.length_append]
      omega
    obtain ⟨g6, b6, T6, I6, c6⟩ := x_ldone I5 T5 (by omega)
    have F6 := ((F3.ch c4 (by unfold pD; omega)).ch c5' (by unfold wD; omega)).ch c6 (by unfold pD; omega)
    have W6 := W5.ch c6 (by unfold pD; omega)
    have pm : 2 ^ m < 2 ^ 7 := pow_lt (by omega)
    have pm1 : 2 ^ 1 ≤ 2 ^ m := Nat.pow_le_pow_right (by decide) hm.1
    have s1 : o_ishl (nI 1) (nI m) = nI (2 ^ m) := by rw [q_ishl (by omega) (by omega), Nat.one_mul]
    have s2 : nI (2 ^ m) - nI 1 = nI (2 ^ m - 1) := pk_sub (by omega)
    obtain ⟨g7, eg⟩ : ∃ z, z = wI g6 129 (3 + k) (nI (2 ^ m - 1)) := ⟨_, rfl⟩
    have c67 : Ch aD g6 g7 := by rw [eg]; exact Ch.w (D := aD) (by unfold aD; omega) _ _ _
    have pc : ∀ o, pD o → cE o := fun o z => Or.inl z
    have ac : ∀ o, aD o → cE o := fun o z => Or.inr z
    have cg : Ch cE g g7 := (((((cw.mono ac).tr (c3.mono pc)).tr (c4.mono pc)).tr (c5'.mono (fun o z => by unfold wD at z; unfold cE; omega))).tr (c6.mono pc)).tr (c67.mono ac)
    have cx : Ch (fun o => o ≠ 125 ∧ o ≠ 126 ∧ o ≠ 128) g g7 := by
      have q : ∀ o, pD o → o ≠ 125 ∧ o ≠ 126 ∧ o ≠ 128 := fun o z => by unfold pD at z; omega
      rw [eh] at c3
      rw [eg]
      exact ((((((Ch.w (D := fun o => o ≠ 125 ∧ o ≠ 126 ∧ o ≠ 128) (r := 129) (by omega) _ _ _).tr (Ch.w (D := fun o => o ≠ 125 ∧ o ≠ 126 ∧ o ≠ 128) (r := 127) (by omega) _ _ _)).tr (c3.mono q)).tr (c4.mono q)).tr (c5'.mono (fun o z => by unfold wD at z; omega))).tr (c6.mono q)).tr (Ch.w (D := fun o => o ≠ 125 ∧ o ≠ 126 ∧ o ≠ 128) (r := 129) (by omega) _ _ _)
    have AA : AJ g7 (up (up (up (wsP (P1 0 7) 0 ws (up P1 6 (P1 0 7) a)) 7 (P1 0 7) ws.length) 0 7 (P1 0 7 + 1)) 0 0 (P1 0 0 + 1)) := by
      have F7 : AR g7 129 6 (fuN (fuN ff k a) (3 + k) (2 ^ m - 1)) := by rw [eg]; exact F6.w _ _
      have W7 : AR g7 127 21 wf' := by rw [eg]; exact W6.o (by decide) _ _
      refine ⟨⟨vf, v1.ch cx (by omega), fun b hb => ?_, fun b hb => ?_⟩, ⟨zf, z1.ch cx (by omega), fun b hb => ?_⟩, ⟨wf', W7, fun b hb => ?_⟩, ⟨qf, q1.ch cx (by omega), fun b hb => ?_⟩, ⟨_, F7, fun b hb => ?_⟩⟩
      · have := v2.1 b (by simpa [up, wsP_o] using hb)
        simpa [up, wsP_o] using this
      · rw [v2.2 b hb]
        have e5 : (up (up (up (wsP (P1 0 7) 0 ws (up P1 6 (P1 0 7) a)) 7 (P1 0 7) ws.length) 0 7 (P1 0 7 + 1)) 0 0 (P1 0 0 + 1)) 0 5 = P1 0 5 := by simp [up, wsP_o]
        unfold doors
        rw [e5]
        exact (doN_c b 0 _ (fun w hw => by simp [up, wsP_o])).symm
      · have := z2 b (by simpa [up, wsP_o] using hb)
        simpa [up, wsP_o] using this
      · have hb2 : b < k + 1 := by simpa [up, n7] using hb
        by_cases y1 : b = k
        · subst y1
          refine ⟨?_, fun i hi1 => ?_⟩
          · rw [e4 _ (by omega)]
            simp [fuN, up, n7, e1]
          · have hi2 : i < m := by
              rw [← e1]
              simpa [up, n7] using hi1
            rw [e3 i hi2]
            have : wsP b 0 ws (up P1 6 b a) 8 (6 * b + i) = ws.getD i 0 := by
              rw [wsP_8, if_pos (by omega), show 6 * b + i - (6 * b + 0) = i by omega]
            simpa [up, n7] using this.symm
        · obtain ⟨u1, u2⟩ := w2 b (by omega)
          have e70 : (up (up (up (wsP (P1 0 7) 0 ws (up P1 6 (P1 0 7) a)) 7 (P1 0 7) ws.length) 0 7 (P1 0 7 + 1)) 0 0 (P1 0 0 + 1)) 7 b = P1 7 b := by simp [up, wsP_o, n7, y1]
          refine ⟨?_, fun i hi1 => ?_⟩
          · rw [e4 _ (by omega), e70, ← u1]
            exact if_neg (by omega)
          · rw [e70] at hi1
            have h6 : P1 7 b ≤ 6 := hw6 b (by omega)
            have := u2 i hi1
            rw [e4 _ (by omega)]
            have t8 : wsP k 0 ws (up P1 6 k a) 8 (6 * b + i) = P1 8 (6 * b + i) := by
              rw [wsP_8, if_neg (by omega)]
              simp [up]
            have t9 : (up (up (up (wsP (P1 0 7) 0 ws (up P1 6 (P1 0 7) a)) 7 (P1 0 7) ws.length) 0 7 (P1 0 7 + 1)) 0 0 (P1 0 0 + 1)) 8 (6 * b + i) = P1 8 (6 * b + i) := by
              rw [← t8]
              simp [up, n7]
            rw [t9, ← this]
            exact if_neg (by omega)
      · have := q2 b (by simpa [up, wsP_o] using hb)
        simpa [up, wsP_o] using this
      · have hb2 : b < k + 1 := by simpa [up, n7] using hb
        by_cases y1 : b = k
        · subst y1
          have : ¬ b = 3 + b := by omega
          simp [fuN, up, n7, wsP_o, e1, this]
        · obtain ⟨u1, u2⟩ := f2 b (by omega)
          have x1 : ¬ b = 3 + k := by omega
          have x2 : ¬ 3 + b = k := by omega
          simp [fuN, up, n7, wsP_o, y1, x1, x2, u1, u2]
    have Tt : TXS g7 (tBs (ts1 ++ ((0, 10) :: (0, 8) :: (1, a) :: (wsT ws ++ [(2, 0)])))) := by
      have := T6.ch c67 (fun o ho z => by unfold aD at z; omega)
      simp only [tBs_c, tBs_n, tBs_a, List.append_nil, ← List.append_assoc]
      exact this
    have hlen : (tBs ((0, 10) :: (0, 8) :: (1, a) :: (wsT ws ++ [(2, 0)]))).length ≤ 60 := by
      simp only [tBs_c, tBs_n, tBs_a, List.length_append, List.length_nil, tB_0, tB_1, tB_2]
      omega
    have hws : ws ≠ [] := fun z => by
      rw [z] at e1
      have : (0 : Nat) = m := e1
      omega
    have J2 := PJ.fin ⟨⟨i0, sc, th, at_, au⟩, tx, ln, p0, le, ⟨vf, v1, v2⟩, ⟨zf, z1, z2⟩, ⟨wf, w1, w2⟩, ⟨qf, q1, q2⟩, ⟨ff, f1, f2⟩⟩ cg (I6.lw (lw_ch c67 (fun o ho z => by unfold aD at z; omega))) Tt (ln_slate p0 (by omega) (by omega) (by omega) hws (by omega) e2) (by simp [up]) (by simp [up, wsP_o]) (by simp [lb, up, wsP_o]; omega) AA
    refine ⟨g7, ?_, _, _, J2, ?_, c1.tr (cg.mono (fun o z => by unfold cE at z; unfold pE; omega)), fun b hb => ?_⟩
    · have kf3 := F3.1
      have kf6 := F6.1
      have kw6 := W6.1
      have r3 : hi g3 129 k = nI a := by rw [F3.2 k (by omega)]; exact congrArg nI (if_pos rfl)
      have r6 : hi g6 127 (7 * k) = nI m := by rw [W6.2 _ (by omega), e4 _ (by omega)]; exact congrArg nI (if_pos rfl)
      rw [eh] at b3'
      simp (maxSteps := 4000000) (disch := omega) only [ob_t, ob_n, ob_ite, e_cI, e_cL, e_cR, e_vI, e_vL, e_vR, e_d2, e_d2_a, e_d2_b, e_d2z, e_d2z_a, e_d2z_b, e_d1, e_d1_a, e_GI, e_GI_a, e_GL, e_GL_a, e_GR, e_GR_a, e_AI, e_AI_a, e_AI_b, e_AB, e_AB_a, e_AB_b, e_AZ, e_AZ_a, e_AZ_b, e_AL, e_AL_a, e_AL_b, e_AR, e_AR_a, e_AR_b, e_Len, e_Len_a, e_CI, e_CI_a, e_CI_b, e_CZ, e_CZ_a, e_And, e_kAnd, e_Or, e_kOr, e_Not, e_kNot, e_B, e_kB, e_T, e_kT, e_NN, e_kNN, e_NewA, e_NewA_a, e_NewC, e_kNewC, e_aN, e_aI, e_aI_a, e_aI_b, e_aL, e_aL_a, e_aL_b, e_aR, e_aR_a, e_aR_b, e_Call, e_kCall, e_CallV, e_kCallV, e_SetI, e_kSetI, e_SetL, e_kSetL, e_SetR, e_kSetR, e_Inc, e_Skip, e_Brk, e_Cnt, e_Ret, e_kRet, e_Ret0, e_Seq, e_kSeq0, e_kSeq1, e_kSeq2, e_kSeqR, e_If, e_kIf, e_Do, e_kDo, e_Sup, e_kN0, e_d3, e_k3a, e_k3b, e_k3c, e_P, e_kPa, e_kPb, e_UA, e_kUAa, e_kUAb, e_kUAc, e_UL, e_kULa, e_kULb, e_kULc, e_UF, e_kUFa, e_kUFb, e_Cp, e_kCp, e_Sw, e_kSwa, e_kSwb0, e_kSwb1, e_kSwbR, e_M1, e_kM1, e_MZ, e_kMZ, e_MN, e_kMN, e_Tv, e_kTv, e_Tc, e_kTc, e_lpS, e_kLp, e_kLpB0, e_kLpB1, e_kLpB2, e_kLpBR, e_kLpU, e_dwS, e_kDwB0, e_kDwC, f_II, f_LL, f_RR, f_IL, f_IR, f_LI, f_LR, f_RI, f_RL, o_iadd, o_isub, o_imul, o_iand, o_ior, o_ixor, o_ladd, o_lsub, o_lmul, o_land, o_lor, o_i2b, o_i2s, o_lneg, o_imax, o_imin, r_lt, r_le, r_gt, r_ge, r_eq, r_ne, q_lt, q_le, q_gt, q_ge, q_eq, q_ne, decide_eq_true_eq, idI, and_true, true_and, and_false, false_and, or_true, true_or, or_false, false_or, not_true_eq_false, not_false_eq_true, if_true, if_false, ite_self, Bool.not_true, Bool.not_false, Bool.false_eq_true, Bool.true_eq_false, decide_true, decide_false, ne_eq, reduceIte, Nat.reduceEqDiff, Option.some.injEq, Prod.mk.injEq, eq_self, n_inb, nI_clamp, w_hr, w_hk, w_hl, w_eq, w_ne, wl_hr, wl_hk, wl_hi, wl_eq, wl_ne, fa_lit, fa_litL, nI_add, pk_mul, nI_ltI, nI_leI, nI_eq, b01, b0, b1, Nat.reduceLeDiff, Nat.reduceAdd, Nat.reduceMul, Nat.reduceSub, Nat.lt_irrefl, Nat.reduceLT, f_ss, f_sR, f_sL, lc0, lc1, lc01, stI, stL, kt, t2, t4, hk1, dr, kf, kw, m1, m2, m3, zH, b3', kf3, r3, b4', b5, b6, kf6, kw6, r6, s1, s2, eg]
    · simp [PN, up, wsP_o, n1, n2, n4, n5, n6, n7, n9, n92, n0]
      omega
    · by_cases y : b = k
      · have : (up (up (up (wsP (P1 0 7) 0 ws (up P1 6 (P1 0 7) a)) 7 (P1 0 7) ws.length) 0 7 (P1 0 7 + 1)) 0 0 (P1 0 0 + 1)) 7 b = ws.length := by simp [up, n7, y]
        omega
      · have e70 : (up (up (up (wsP (P1 0 7) 0 ws (up P1 6 (P1 0 7) a)) 7 (P1 0 7) ws.length) 0 7 (P1 0 7 + 1)) 0 0 (P1 0 0 + 1)) 7 b = P1 7 b := by simp [up, wsP_o, n7, y]
        have := hw6 b (by omega)
        omega
  · obtain ⟨ts1, P1, ⟨⟨i0, sc, th, at_, au⟩, -⟩, -⟩ := hI
    have t3 : hi g 124 4 = nI S := at_.2 4 (by decide)
    have kt := at_.1
    refine lp_out ?_
    simp (maxSteps := 4000000) (disch := omega) only [ob_t, ob_n, ob_ite, e_cI, e_cL, e_cR, e_vI, e_vL, e_vR, e_d2, e_d2_a, e_d2_b, e_d2z, e_d2z_a, e_d2z_b, e_d1, e_d1_a, e_GI, e_GI_a, e_GL, e_GL_a, e_GR, e_GR_a, e_AI, e_AI_a, e_AI_b, e_AB, e_AB_a, e_AB_b, e_AZ, e_AZ_a, e_AZ_b, e_AL, e_AL_a, e_AL_b, e_AR, e_AR_a, e_AR_b, e_Len, e_Len_a, e_CI, e_CI_a, e_CI_b, e_CZ, e_CZ_a, e_And, e_kAnd, e_Or, e_kOr, e_Not, e_kNot, e_B, e_kB, e_T, e_kT, e_NN, e_kNN, e_NewA, e_NewA_a, e_NewC, e_kNewC, e_aN, e_aI, e_aI_a, e_aI_b, e_aL, e_aL_a, e_aL_b, e_aR, e_aR_a, e_aR_b, e_Call, e_kCall, e_CallV, e_kCallV, e_SetI, e_kSetI, e_SetL, e_kSetL, e_SetR, e_kSetR, e_Inc, e_Skip, e_Brk, e_Cnt, e_Ret, e_kRet, e_Ret0, e_Seq, e_kSeq0, e_kSeq1, e_kSeq2, e_kSeqR, e_If, e_kIf, e_Do, e_kDo, e_Sup, e_kN0, e_d3, e_k3a, e_k3b, e_k3c, e_P, e_kPa, e_kPb, e_UA, e_kUAa, e_kUAb, e_kUAc, e_UL, e_kULa, e_kULb, e_kULc, e_UF, e_kUFa, e_kUFb, e_Cp, e_kCp, e_Sw, e_kSwa, e_kSwb0, e_kSwb1, e_kSwbR, e_M1, e_kM1, e_MZ, e_kMZ, e_MN, e_kMN, e_Tv, e_kTv, e_Tc, e_kTc, e_lpS, e_kLp, e_kLpB0, e_kLpB1, e_kLpB2, e_kLpBR, e_kLpU, e_dwS, e_kDwB0, e_kDwC, f_II, f_LL, f_RR, f_IL, f_IR, f_LI, f_LR, f_RI, f_RL, o_iadd, o_isub, o_imul, o_iand, o_ior, o_ixor, o_ladd, o_lsub, o_lmul, o_land, o_lor, o_i2b, o_i2s, o_lneg, o_imax, o_imin, r_lt, r_le, r_gt, r_ge, r_eq, r_ne, q_lt, q_le, q_gt, q_ge, q_eq, q_ne, decide_eq_true_eq, idI, and_true, true_and, and_false, false_and, or_true, true_or, or_false, false_or, not_true_eq_false, not_false_eq_true, if_true, if_false, ite_self, Bool.not_true, Bool.not_false, Bool.false_eq_true, Bool.true_eq_false, decide_true, decide_false, ne_eq, reduceIte, Nat.reduceEqDiff, Option.some.injEq, Prod.mk.injEq, eq_self, n_inb, nI_clamp, w_hr, w_hk, w_hl, w_eq, w_ne, wl_hr, wl_hk, wl_hi, wl_eq, wl_ne, fa_lit, fa_litL, nI_add, pk_mul, nI_ltI, nI_leI, nI_eq, b01, b0, b1, Nat.reduceLeDiff, Nat.reduceAdd, Nat.reduceMul, Nat.reduceSub, Nat.lt_irrefl, Nat.reduceLT, f_ss, f_sR, f_sL, lc0, lc1, lc01, stI, stL, kt, t3]
theorem x_p6 {d l H W K S C : Nat} (hH : H < 8) (hW : W < 12) (hK : K < 6) (hS : S < 4) (hC : C < 13) (hC0 : 0 < C → 0 < K ∧ 0 < S ∧ 0 < H) (J : PJ L xs h ts P Q (tv d l H K S C)) (N : PN P d l H W K S 0) : ∃ (g : St) (ts' : List (Nat × Nat)) (P' : PT), LL_port__6 (sI (sI (sR (sR (sR (sR (sR (sR (sR (sR (sR (sR fr0 0 31) 1 1) 2 122) 3 123) 4 124) 5 125) 6 126) 7 127) 8 128) 9 129) 10 (nI W)) 11 (nI 0)) h = some (.inl 0, sI (sI (sR (sR (sR (sR (sR (sR (sR (sR (sR (sR fr0 0 31) 1 1) 2 122) 3 123) 4 124) 5 125) 6 126) 7 127) 8 128) 9 129) 10 (nI W)) 11 (nI C), g) ∧ PJ L xs g ts' P' Q (tv d l H K S C) ∧ PN P' d l H W K S C ∧ Ch pE h g := by
  suffices hh : ∃ g, LL_port__6 (sI (sI (sR (sR (sR (sR (sR (sR (sR (sR (sR (sR fr0 0 31) 1 1) 2 122) 3 123) 4 124) 5 125) 6 126) 7 127) 8 128) 9 129) 10 (nI W)) 11 (nI 0)) h = some (.inl 0, sI (sI (sR (sR (sR (sR (sR (sR (sR (sR (sR (sR fr0 0 31) 1 1) 2 122) 3 123) 4 124) 5 125) 6 126) 7 127) 8 128) 9 129) 10 (nI W)) 11 (nI C), g) ∧ ∃ (ts' : List (Nat × Nat)) (P' : PT), PJ L xs g ts' P' Q (tv d l H K S C) ∧ PN P' d l H W K S C ∧ Ch pE h g by
    obtain ⟨g, a, ts', P', b⟩ := hh
    exact ⟨g, ts', P', a, b⟩
  unfold LL_port__6
  refine loop_g (fun k => sI (sI (sR (sR (sR (sR (sR (sR (sR (sR (sR (sR fr0 0 31) 1 1) 2 122) 3 123) 4 124) 5 125) 6 126) 7 127) 8 128) 9 129) 10 (nI W)) 11 (nI k)) (fun k g => ∃ (ts' : List (Nat × Nat)) (P' : PT), PJ L xs g ts' P' Q (tv d l H K S C) ∧ PN P' d l H W K S k ∧ Ch pE h g) C rfl ⟨ts, P, J, N, Ch.rf _ _⟩ (fun k g hk1 hI => ?_) (fun g hI => ?_)
  · obtain ⟨ts1, P1, J1, N1, c1⟩ := hI
    obtain ⟨n1, n2, n4, n5, n6, n7, n9, n92, n0⟩ := N1
    obtain ⟨⟨i0, sc, th, at_, au⟩, tx, ln, p0, le, ⟨vf, v1, v2⟩, ⟨zf, z1, z2⟩, ⟨wf, w1, w2⟩, ⟨qf, q1, q2⟩, ⟨ff, f1, f2⟩⟩ := J1
    obtain ⟨hK1, hS1, H2⟩ := hC0 (by omega)
    obtain ⟨c, ec⟩ : ∃ c, c = dw L xs (35 + k) 1073741824 := ⟨_, rfl⟩
    have hc : c < 1073741824 := by rw [ec]; exact dw_lt _ _ _ (by decide)
    have dr := x_draw sc (k := 35 + k) (n := 1073741824) (by omega) (by decide) (by decide)
    rw [← ec] at dr
    have cd : ∀ k, c / 2 ^ k < 2 ^ 31 := fun k => Nat.lt_of_le_of_lt (Nat.div_le_self _ _) (by omega)
    obtain ⟨a, ea⟩ : ∃ a, a = c % K := ⟨_, rfl⟩
    have ha : a < K := by rw [ea]; exact Nat.mod_lt _ (by omega)
    obtain ⟨b, eb⟩ : ∃ b, b = c / 2 ^ 4 % S := ⟨_, rfl⟩
    have hb : b < S := by rw [eb]; exact Nat.mod_lt _ (by omega)
    obtain ⟨x, ex⟩ : ∃ x, x = c / 2 ^ 8 % H := ⟨_, rfl⟩
    have hx : x < H := by rw [ex]; exact Nat.mod_lt _ (by omega)
    obtain ⟨y, ey⟩ : ∃ y, y = c / 2 ^ 12 % 12 := ⟨_, rfl⟩
    have hy : y < 12 := by rw [ey]; exact Nat.mod_lt _ (by omega)
    have m1 : o_irem (nI c) (nI K) = nI a := by rw [ea]; exact q_irem (by omega) (by omega) (by omega)
    have m2 : o_ishr (nI c) (nI 4) = nI (c / 2 ^ 4) := q_ishr (by decide) (by omega)
    have m3 : o_ishr (nI c) (nI 8) = nI (c / 2 ^ 8) := q_ishr (by decide) (by omega)
    have m4 : o_ishr (nI c) (nI 12) = nI (c / 2 ^ 12) := q_ishr (by decide) (by omega)
    have m5 : o_irem (nI (c / 2 ^ 4)) (nI S) = nI b := by rw [eb]; exact q_irem (cd _) (by omega) (by omega)
    have m6 : o_irem (nI (c / 2 ^ 8)) (nI H) = nI x := by rw [ex]; exact q_irem (cd _) (by omega) (by omega)
    have m7 : o_irem (nI (c / 2 ^ 12)) (nI 12) = nI y := by rw [ey]; exact q_irem (cd _) (by omega) (by omega)
    have t2 : hi g 124 2 = nI H := at_.2 2 (by decide)
    have t3 : hi g 124 3 = nI K := at_.2 3 (by decide)
    have t4 : hi g 124 4 = nI S := at_.2 4 (by decide)
    have t5 : hi g 124 5 = nI C := at_.2 5 (by decide)
    have kt := at_.1
    have kq := q1.1
    have zH : (H = 0) = False := eq_false (by omega)
    have zK : (K = 0) = False := eq_false (by omega)
    have zS : (S = 0) = False := eq_false (by omega)
    obtain ⟨h2, eh⟩ : ∃ z, z = wI (wI (wI (wI g 128 (4 * k) (nI a)) 128 (4 * k + 1) (nI b)) 128 (4 * k + 2) (nI x)) 128 (4 * k + 3) (nI y) := ⟨_, rfl⟩
    have cw : Ch aD g h2 := by rw [eh]; exact (((Ch.w (D := aD) (by unfold aD; omega) _ _ _).tr (Ch.w (D := aD) (by unfold aD; omega) _ _ _)).tr (Ch.w (D := aD) (by unfold aD; omega) _ _ _)).tr (Ch.w (D := aD) (by unfold aD; omega) _ _ _)
    have cw' : Ch (fun o => o = 128) g h2 := by rw [eh]; exact (((Ch.w (D := fun o => o = 128) rfl _ _ _).tr (Ch.w (D := fun o => o = 128) rfl _ _ _)).tr (Ch.w (D := fun o => o = 128) rfl _ _ _)).tr (Ch.w (D := fun o => o = 128) rfl _ _ _)
    have le2 : (tBs ts1).length ≤ 28 + 15 * H + 9 * W + 24 * K + 60 * S + 22 * k := by unfold lb at le; omega
    have tl := tl_carry a b x y (by omega) (by omega) (by omega)
    obtain ⟨g', bb, T⟩ := x_ln_carry (a := a) (b := b) (c := x) (d := y) (i0.lw (lw_ch cw (fun o ho z => by unfold aD at z; omega))) (tx.ch cw (fun o ho z => by unfold aD at z; omega)) (by omega) (by omega) (by omega) (by omega) (by omega)
    have AA : AJ h2 (up (up (up (up (up (up P1 10 (P1 9 1) a) 11 (P1 9 1) b) 12 (P1 9 1) x) 13 (P1 9 1) y) 9 1 (P1 9 1 + 1)) 0 0 (P1 0 0 + 1)) := by
      refine ⟨⟨vf, v1.ch cw' (by omega), fun j hj => ?_, fun j hj => ?_⟩, ⟨zf, z1.ch cw' (by omega), fun j hj => ?_⟩, ⟨wf, w1.ch cw' (by omega), fun j hj => ?_⟩, ⟨fuN (fuN (fuN (fuN qf (4 * k) a) (4 * k + 1) b) (4 * k + 2) x) (4 * k + 3) y, by rw [eh]; exact (((q1.w _ a).w _ b).w _ x).w _ y, fun j hj => ?_⟩, ⟨ff, f1.ch cw' (by omega), fun j hj => ?_⟩⟩
      · have := v2.1 j (by simpa [up] using hj)
        simpa [up] using this
      · rw [v2.2 j hj]
        exact (doN_c j 0 _ (fun w hw => by simp [up])).symm
      · have := z2 j (by simpa [up] using hj)
        simpa [up] using this
      · have := w2 j (by simpa [up] using hj)
        simpa [up] using this
      · have hj2 : j < k + 1 := by simpa [up, n9] using hj
        by_cases y1 : j = k
        · simp [fuN, up, n9, y1]
        · have := q2 j (by omega)
          have fu : ∀ z, (∀ m, m < 4 → z ≠ 4 * k + m) → fuN (fuN (fuN (fuN qf (4 * k) a) (4 * k + 1) b) (4 * k + 2) x) (4 * k + 3) y z = qf z := fun z hz => by
            have i0 : z ≠ 4 * k := hz 0 (by decide)
            have i1 := hz 1 (by decide)
            have i2 := hz 2 (by decide)
            have i3 := hz 3 (by decide)
            unfold fuN
            rw [if_neg i3, if_neg i2, if_neg i1, if_neg i0]
          rw [fu _ (fun m hm => by omega), fu _ (fun m hm => by omega), fu _ (fun m hm => by omega), fu _ (fun m hm => by omega)]
          simpa [up, n9, y1] using this
      · have := f2 j (by simpa [up] using hj)
        simpa [up] using this
    obtain ⟨J2, c2⟩ := PJ.post ⟨⟨i0, sc, th, at_, au⟩, tx, ln, p0, le, ⟨vf, v1, v2⟩, ⟨zf, z1, z2⟩, ⟨wf, w1, w2⟩, ⟨qf, q1, q2⟩, ⟨ff, f1, f2⟩⟩ cw T (ln_carry p0 (by omega) (by omega) (by omega) (by omega) (by omega) (by omega) (by omega) hy) (by simp [up]) (by simp [up]) (by simp [lb, up]; omega) AA
    refine ⟨g', ?_, _, _, J2, ?_, c1.tr c2⟩
    · rw [eh] at bb
      simp (maxSteps := 4000000) (disch := omega) only [ob_t, ob_n, ob_ite, e_cI, e_cL, e_cR, e_vI, e_vL, e_vR, e_d2, e_d2_a, e_d2_b, e_d2z, e_d2z_a, e_d2z_b, e_d1, e_d1_a, e_GI, e_GI_a, e_GL, e_GL_a, e_GR, e_GR_a, e_AI, e_AI_a, e_AI_b, e_AB, e_AB_a, e_AB_b, e_AZ, e_AZ_a, e_AZ_b, e_AL, e_AL_a, e_AL_b, e_AR, e_AR_a, e_AR_b, e_Len, e_Len_a, e_CI, e_CI_a, e_CI_b, e_CZ, e_CZ_a, e_And, e_kAnd, e_Or, e_kOr, e_Not, e_kNot, e_B, e_kB, e_T, e_kT, e_NN, e_kNN, e_NewA, e_NewA_a, e_NewC, e_kNewC, e_aN, e_aI, e_aI_a, e_aI_b, e_aL, e_aL_a, e_aL_b, e_aR, e_aR_a, e_aR_b, e_Call, e_kCall, e_CallV, e_kCallV, e_SetI, e_kSetI, e_SetL, e_kSetL, e_SetR, e_kSetR, e_Inc, e_Skip, e_Brk, e_Cnt, e_Ret, e_kRet, e_Ret0, e_Seq, e_kSeq0, e_kSeq1, e_kSeq2, e_kSeqR, e_If, e_kIf, e_Do, e_kDo, e_Sup, e_kN0, e_d3, e_k3a, e_k3b, e_k3c, e_P, e_kPa, e_kPb, e_UA, e_kUAa, e_kUAb, e_kUAc, e_UL, e_kULa, e_kULb, e_kULc, e_UF, e_kUFa, e_kUFb, e_Cp, e_kCp, e_Sw, e_kSwa, e_kSwb0, e_kSwb1, e_kSwbR, e_M1, e_kM1, e_MZ, e_kMZ, e_MN, e_kMN, e_Tv, e_kTv, e_Tc, e_kTc, e_lpS, e_kLp, e_kLpB0, e_kLpB1, e_kLpB2, e_kLpBR, e_kLpU, e_dwS, e_kDwB0, e_kDwC, f_II, f_LL, f_RR, f_IL, f_IR, f_LI, f_LR, f_RI, f_RL, o_iadd, o_isub, o_imul, o_iand, o_ior, o_ixor, o_ladd, o_lsub, o_lmul, o_land, o_lor, o_i2b, o_i2s, o_lneg, o_imax, o_imin, r_lt, r_le, r_gt, r_ge, r_eq, r_ne, q_lt, q_le, q_gt, q_ge, q_eq, q_ne, decide_eq_true_eq, idI, and_true, true_and, and_false, false_and, or_true, true_or, or_false, false_or, not_true_eq_false, not_false_eq_true, if_true, if_false, ite_self, Bool.not_true, Bool.not_false, Bool.false_eq_true, Bool.true_eq_false, decide_true, decide_false, ne_eq, reduceIte, Nat.reduceEqDiff, Option.some.injEq, Prod.mk.injEq, eq_self, n_inb, nI_clamp, w_hr, w_hk, w_hl, w_eq, w_ne, wl_hr, wl_hk, wl_hi, wl_eq, wl_ne, fa_lit, fa_litL, nI_add, pk_mul, nI_ltI, nI_leI, nI_eq, b01, b0, b1, Nat.reduceLeDiff, Nat.reduceAdd, Nat.reduceMul, Nat.reduceSub, Nat.lt_irrefl, Nat.reduceLT, f_ss, f_sR, f_sL, lc0, lc1, lc01, stI, stL, kt, t2, t3, t4, t5, hk1, dr, kq, m1, m2, m3, m4, m5, m6, m7, zH, zK, zS, bb]
    · simp [PN, up, n1, n2, n4, n5, n6, n7, n9, n92, n0]
      omega
  · obtain ⟨ts1, P1, ⟨⟨i0, sc, th, at_, au⟩, -⟩, -⟩ := hI
    have t3 : hi g 124 5 = nI C := at_.2 5 (by decide)
    have kt := at_.1
    refine lp_out ?_
    simp (maxSteps := 4000000) (disch := omega) only [ob_t, ob_n, ob_ite, e_cI, e_cL, e_cR, e_vI, e_vL, e_vR, e_d2, e_d2_a, e_d2_b, e_d2z, e_d2z_a, e_d2z_b, e_d1, e_d1_a, e_GI, e_GI_a, e_GL, e_GL_a, e_GR, e_GR_a, e_AI, e_AI_a, e_AI_b, e_AB, e_AB_a, e_AB_b, e_AZ, e_AZ_a, e_AZ_b, e_AL, e_AL_a, e_AL_b, e_AR, e_AR_a, e_AR_b, e_Len, e_Len_a, e_CI, e_CI_a, e_CI_b, e_CZ, e_CZ_a, e_And, e_kAnd, e_Or, e_kOr, e_Not, e_kNot, e_B, e_kB, e_T, e_kT, e_NN, e_kNN, e_NewA, e_NewA_a, e_NewC, e_kNewC, e_aN, e_aI, e_aI_a, e_aI_b, e_aL, e_aL_a, e_aL_b, e_aR, e_aR_a, e_aR_b, e_Call, e_kCall, e_CallV, e_kCallV, e_SetI, e_kSetI, e_SetL, e_kSetL, e_SetR, e_kSetR, e_Inc, e_Skip, e_Brk, e_Cnt, e_Ret, e_kRet, e_Ret0, e_Seq, e_kSeq0, e_kSeq1, e_kSeq2, e_kSeqR, e_If, e_kIf, e_Do, e_kDo, e_Sup, e_kN0, e_d3, e_k3a, e_k3b, e_k3c, e_P, e_kPa, e_kPb, e_UA, e_kUAa, e_kUAb, e_kUAc, e_UL, e_kULa, e_kULb, e_kULc, e_UF, e_kUFa, e_kUFb, e_Cp, e_kCp, e_Sw, e_kSwa, e_kSwb0, e_kSwb1, e_kSwbR, e_M1, e_kM1, e_MZ, e_kMZ, e_MN, e_kMN, e_Tv, e_kTv, e_Tc, e_kTc, e_lpS, e_kLp, e_kLpB0, e_kLpB1, e_kLpB2, e_kLpBR, e_kLpU, e_dwS, e_kDwB0, e_kDwC, f_II, f_LL, f_RR, f_IL, f_IR, f_LI, f_LR, f_RI, f_RL, o_iadd, o_isub, o_imul, o_iand, o_ior, o_ixor, o_ladd, o_lsub, o_lmul, o_land, o_lor, o_i2b, o_i2s, o_lneg, o_imax, o_imin, r_lt, r_le, r_gt, r_ge, r_eq, r_ne, q_lt, q_le, q_gt, q_ge, q_eq, q_ne, decide_eq_true_eq, idI, and_true, true_and, and_false, false_and, or_true, true_or, or_false, false_or, not_true_eq_false, not_false_eq_true, if_true, if_false, ite_self, Bool.not_true, Bool.not_false, Bool.false_eq_true, Bool.true_eq_false, decide_true, decide_false, ne_eq, reduceIte, Nat.reduceEqDiff, Option.some.injEq, Prod.mk.injEq, eq_self, n_inb, nI_clamp, w_hr, w_hk, w_hl, w_eq, w_ne, wl_hr, wl_hk, wl_hi, wl_eq, wl_ne, fa_lit, fa_litL, nI_add, pk_mul, nI_ltI, nI_leI, nI_eq, b01, b0, b1, Nat.reduceLeDiff, Nat.reduceAdd, Nat.reduceMul, Nat.reduceSub, Nat.lt_irrefl, Nat.reduceLT, f_ss, f_sR, f_sL, lc0, lc1, lc01, stI, stL, kt, t3]
end
