set_option maxRecDepth 100000
set_option maxHeartbeats 2000000
/-! the law draws a PORT: ways, carriers -/
theorem mod_ne {x r H : Nat} (hx : x < H) (hr : r < H - 1) : (x + 1 + r) % H ≠ x ∧ (x + 1 + r) % H < H := by
  refine ⟨?_, Nat.mod_lt _ (by omega)⟩
  by_cases z : x + 1 + r < H
  · rw [Nat.mod_eq_of_lt z]; omega
  · rw [Nat.mod_eq_sub_mod (by omega), Nat.mod_eq_of_lt (by omega)]; omega
section
variable {L : Nat} {xs : Nat → Int32} {h h1 g : St} {ts us : List (Nat × Nat)} {P P' Q : PT} {tf : Nat → Nat} {u : Nat} {l : List Nat}
theorem x_p2 {d l H W : Nat} (hH : H < 8) (hW : W < 12) (hW0 : 0 < W → 2 ≤ H) (J : PJ L xs h ts P Q (tv d l H 0 0 0)) (N : PN P d l H 0 0 0 0) : ∃ (g : St) (ts' : List (Nat × Nat)) (P' : PT), LL_port__2 (sI (sI (sR (sR (sR (sR (sR (sR (sR (sR (sR (sR fr0 0 31) 1 1) 2 122) 3 123) 4 124) 5 125) 6 126) 7 127) 8 128) 9 129) 10 (nI W)) 11 (nI 0)) h = some (.inl 0, sI (sI (sR (sR (sR (sR (sR (sR (sR (sR (sR (sR fr0 0 31) 1 1) 2 122) 3 123) 4 124) 5 125) 6 126) 7 127) 8 128) 9 129) 10 (nI W)) 11 (nI W), g) ∧ PJ L xs g ts' P' Q (tv d l H 0 0 0) ∧ PN P' d l H W 0 0 0 ∧ Ch pE h g := by
  suffices hh : ∃ g, LL_port__2 (sI (sI (sR (sR (sR (sR (sR (sR (sR (sR (sR (sR fr0 0 31) 1 1) 2 122) 3 123) 4 124) 5 125) 6 126) 7 127) 8 128) 9 129) 10 (nI W)) 11 (nI 0)) h = some (.inl 0, sI (sI (sR (sR (sR (sR (sR (sR (sR (sR (sR (sR fr0 0 31) 1 1) 2 122) 3 123) 4 124) 5 125) 6 126) 7 127) 8 128) 9 129) 10 (nI W)) 11 (nI W), g) ∧ ∃ (ts' : List (Nat × Nat)) (P' : PT), PJ L xs g ts' P' Q (tv d l H 0 0 0) ∧ PN P' d l H W 0 0 0 ∧ Ch pE h g by
    obtain ⟨g, a, ts', P', b⟩ := hh
    exact ⟨g, ts', P', a, b⟩
  unfold LL_port__2
  refine loop_g (fun k => sI (sI (sR (sR (sR (sR (sR (sR (sR (sR (sR (sR fr0 0 31) 1 1) 2 122) 3 123) 4 124) 5 125) 6 126) 7 127) 8 128) 9 129) 10 (nI W)) 11 (nI k)) (fun k g => ∃ (ts' : List (Nat × Nat)) (P' : PT), PJ L xs g ts' P' Q (tv d l H 0 0 0) ∧ PN P' d l H k 0 0 0 ∧ Ch pE h g) W rfl ⟨ts, P, J, N, Ch.rf _ _⟩ (fun k g hk1 hI => ?_) (fun g hI => ?_)
  · obtain ⟨ts1, P1, J1, N1, c1⟩ := hI
    obtain ⟨n1, n2, n4, n5, n6, n7, n9, n92, n0⟩ := N1
    obtain ⟨⟨i0, sc, th, at_, au⟩, tx, ln, p0, le, ⟨vf, v1, v2⟩, ⟨zf, z1, z2⟩, ⟨wf, w1, w2⟩, ⟨qf, q1, q2⟩, ⟨ff, f1, f2⟩⟩ := J1
    have H2 := hW0 (by omega)
    obtain ⟨c, ec⟩ : ∃ c, c = dw L xs (12 + k) 1048576 := ⟨_, rfl⟩
    have hc : c < 1048576 := by rw [ec]; exact dw_lt _ _ _ (by decide)
    have dr := x_draw sc (k := 12 + k) (n := 1048576) (by omega) (by decide) (by decide)
    rw [← ec] at dr
    obtain ⟨x, ex⟩ : ∃ x, x = c % H := ⟨_, rfl⟩
    have hx : x < H := by rw [ex]; exact Nat.mod_lt _ (by omega)
    obtain ⟨r, er⟩ : ∃ r, r = c / 2 ^ 5 % (H - 1) := ⟨_, rfl⟩
    have hr : r < H - 1 := by rw [er]; exact Nat.mod_lt _ (by omega)
    obtain ⟨y, ey⟩ : ∃ y, y = (x + 1 + r) % H := ⟨_, rfl⟩
    obtain ⟨hne, hy⟩ := mod_ne hx hr
    rw [← ey] at hne hy
    have m1 : o_irem (nI c) (nI H) = nI x := by rw [ex]; exact q_irem (by omega) (by omega) (by omega)
    have m2 : o_ishr (nI c) (nI 5) = nI (c / 2 ^ 5) := q_ishr (by decide) (by omega)
    have c5 : c / 2 ^ 5 < 2 ^ 31 := Nat.lt_of_le_of_lt (Nat.div_le_self _ _) (by omega)
    have m3 : o_irem (nI (c / 2 ^ 5)) (nI (H - 1)) = nI r := by rw [er]; exact q_irem c5 (by omega) (by omega)
    have m4 : o_irem (nI (x + 1 + r)) (nI H) = nI y := by rw [ey]; exact q_irem (by omega) (by omega) (by omega)
    have m5 : nI H - nI 1 = nI (H - 1) := pk_sub (by omega)
    have px : 2 ^ x < 2 ^ 8 := pow_lt (by omega)
    have py : 2 ^ y < 2 ^ 8 := pow_lt (by omega)
    have s1 : o_ishl (nI 1) (nI y) = nI (2 ^ y) := by rw [q_ishl (by omega) (by omega), Nat.one_mul]
    have s2 : o_ishl (nI 1) (nI x) = nI (2 ^ x) := by rw [q_ishl (by omega) (by omega), Nat.one_mul]
    obtain ⟨A, eA⟩ : ∃ A, A = vf (8 + x) ||| 2 ^ y := ⟨_, rfl⟩
    obtain ⟨D, eD⟩ : ∃ D, D = vf (8 + y) ||| 2 ^ x := ⟨_, rfl⟩
    have a1 : hi g 125 (8 + x) = nI (vf (8 + x)) := v1.2 _ (by omega)
    have a2 : hi g 125 (8 + y) = nI (vf (8 + y)) := v1.2 _ (by omega)
    have a3 : nI (vf (8 + x)) ||| nI (2 ^ y) = nI A := by rw [fa_or, eA]
    have a4 : nI (vf (8 + y)) ||| nI (2 ^ x) = nI D := by rw [fa_or, eD]
    have t2 : hi g 124 2 = nI H := at_.2 2 (by decide)
    have kt := at_.1
    have kv := v1.1
    have zH : (H = 0) = False := eq_false (by omega)
    have zH1 : (H - 1 = 0) = False := eq_false (by omega)
    obtain ⟨h2, eh⟩ : ∃ z, z = wI (wI g 125 (8 + x) (nI A)) 125 (8 + y) (nI D) := ⟨_, rfl⟩
    have cw : Ch aD g h2 := by rw [eh]; exact (Ch.w (D := aD) (by unfold aD; omega) _ _ _).tr (Ch.w (D := aD) (by unfold aD; omega) _ _ _)
    have le2 : (tBs ts1).length ≤ 28 + 15 * H + 9 * k := by unfold lb at le; omega
    have tl := tl_way x y (by omega) (by omega)
    obtain ⟨g', b, T⟩ := x_ln_way (a := x) (b := y) (i0.lw (lw_ch cw (fun o ho z => by unfold aD at z; omega))) (tx.ch cw (fun o ho z => by unfold aD at z; omega)) (by omega) (by omega) (by omega)
    have AA : AJ h2 (up (up (up (up P1 2 (P1 0 5) x) 3 (P1 0 5) y) 0 5 (P1 0 5 + 1)) 0 0 (P1 0 0 + 1)) := by
      rw [eh]
      refine ⟨⟨fuN (fuN vf (8 + x) A) (8 + y) D, (v1.w _ A).w _ D, fun b hb => ?_, fun b hb => ?_⟩, ⟨zf, (z1.o (by decide) _ _).o (by decide) _ _, fun b hb => ?_⟩, ⟨wf, (w1.o (by decide) _ _).o (by decide) _ _, fun b hb => ?_⟩, ⟨qf, (q1.o (by decide) _ _).o (by decide) _ _, fun b hb => ?_⟩, ⟨ff, (f1.o (by decide) _ _).o (by decide) _ _, fun b hb => ?_⟩⟩
      · have hb2 : b < H := by simpa [up, n4] using hb
        have := v2.1 b (by omega)
        have e1 : b ≠ 8 + x := by omega
        have e2 : b ≠ 8 + y := by omega
        simp [fuN, up, e1, e2, this]
      · have := v2.2 b hb
        have e : doors (up (up (up (up P1 2 (P1 0 5) x) 3 (P1 0 5) y) 0 5 (P1 0 5 + 1)) 0 0 (P1 0 0 + 1)) b 0 = (doors P1 b 0 ||| if x = b then 2 ^ y else 0) ||| if y = b then 2 ^ x else 0 := by
          have e5 : (up (up (up (up P1 2 (P1 0 5) x) 3 (P1 0 5) y) 0 5 (P1 0 5 + 1)) 0 0 (P1 0 0 + 1)) 0 5 = k + 1 := by simp [up, n5]
          have u : ∀ P' : PT, doN P' b 0 (k + 1) = (doN P' b 0 k ||| if k + 1 ≠ 0 ∧ P' 2 k = b then 2 ^ P' 3 k else 0) ||| if k + 1 ≠ 0 ∧ P' 3 k = b then 2 ^ P' 2 k else 0 := fun _ => rfl
          unfold doors
          rw [e5, n5, u]
          rw [doN_c (P := P1) b 0 k (fun w hw => by
            have : w ≠ k := by omega
            simp [up, this])]
          simp [up]
        rw [e, ← this]
        unfold fuN
        by_cases y1 : b = x
        · subst y1
          rw [if_neg (by omega), if_pos rfl, if_pos rfl, if_neg (by omega), Nat.or_zero, eA]
        · by_cases y2 : b = y
          · subst y2
            rw [if_pos rfl, if_neg (by omega), if_pos rfl, Nat.or_zero, eD]
          · rw [if_neg (by omega), if_neg (by omega), if_neg (by omega), if_neg (by omega), Nat.or_zero, Nat.or_zero]
      · exact absurd hb (by simp [up, n6])
      · exact absurd hb (by simp [up, n7])
      · exact absurd hb (by simp [up, n9])
      · exact absurd hb (by simp [up, n7])
    obtain ⟨J2, c2⟩ := PJ.post ⟨⟨i0, sc, th, at_, au⟩, tx, ln, p0, le, ⟨vf, v1, v2⟩, ⟨zf, z1, z2⟩, ⟨wf, w1, w2⟩, ⟨qf, q1, q2⟩, ⟨ff, f1, f2⟩⟩ cw T (ln_way p0 (by omega) (by omega) (by omega) (by omega) (by omega)) (by simp [up]) (by simp [up]) (by simp [lb, up]; omega) AA
    refine ⟨g', ?_, _, _, J2, ?_, c1.tr c2⟩
    · rw [eh] at b
      simp (maxSteps := 4000000) (disch := omega) only [ob_t, ob_n, ob_ite, e_cI, e_cL, e_cR, e_vI, e_vL, e_vR, e_d2, e_d2_a, e_d2_b, e_d2z, e_d2z_a, e_d2z_b, e_d1, e_d1_a, e_GI, e_GI_a, e_GL, e_GL_a, e_GR, e_GR_a, e_AI, e_AI_a, e_AI_b, e_AB, e_AB_a, e_AB_b, e_AZ, e_AZ_a, e_AZ_b, e_AL, e_AL_a, e_AL_b, e_AR, e_AR_a, e_AR_b, e_Len, e_Len_a, e_CI, e_CI_a, e_CI_b, e_CZ, e_CZ_a, e_And, e_kAnd, e_Or, e_kOr, e_Not, e_kNot, e_B, e_kB, e_T, e_kT, e_NN, e_kNN, e_NewA, e_NewA_a, e_NewC, e_kNewC, e_aN, e_aI, e_aI_a, e_aI_b, e_aL, e_aL_a, e_aL_b, e_aR, e_aR_a, e_aR_b, e_Call, e_kCall, e_CallV, e_kCallV, e_SetI, e_kSetI, e_SetL, e_kSetL, e_SetR, e_kSetR, e_Inc, e_Skip, e_Brk, e_Cnt, e_Ret, e_kRet, e_Ret0, e_Seq, e_kSeq0, e_kSeq1, e_kSeq2, e_kSeqR, e_If, e_kIf, e_Do, e_kDo, e_Sup, e_kN0, e_d3, e_k3a, e_k3b, e_k3c, e_P, e_kPa, e_kPb, e_UA, e_kUAa, e_kUAb, e_kUAc, e_UL, e_kULa, e_kULb, e_kULc, e_UF, e_kUFa, e_kUFb, e_Cp, e_kCp, e_Sw, e_kSwa, e_kSwb0, e_kSwb1, e_kSwbR, e_M1, e_kM1, e_MZ, e_kMZ, e_MN, e_kMN, e_Tv, e_kTv, e_Tc, e_kTc, e_lpS, e_kLp, e_kLpB0, e_kLpB1, e_kLpB2, e_kLpBR, e_kLpU, e_dwS, e_kDwB0, e_kDwC, f_II, f_LL, f_RR, f_IL, f_IR, f_LI, f_LR, f_RI, f_RL, o_iadd, o_isub, o_imul, o_iand, o_ior, o_ixor, o_ladd, o_lsub, o_lmul, o_land, o_lor, o_i2b, o_i2s, o_lneg, o_imax, o_imin, r_lt, r_le, r_gt, r_ge, r_eq, r_ne, q_lt, q_le, q_gt, q_ge, q_eq, q_ne, decide_eq_true_eq, idI, and_true, true_and, and_false, false_and, or_true, true_or, or_false, false_or, not_true_eq_false, not_false_eq_true, if_true, if_false, ite_self, Bool.not_true, Bool.not_false, Bool.false_eq_true, Bool.true_eq_false, decide_true, decide_false, ne_eq, reduceIte, Nat.reduceEqDiff, Option.some.injEq, Prod.mk.injEq, eq_self, n_inb, nI_clamp, w_hr, w_hk, w_hl, w_eq, w_ne, wl_hr, wl_hk, wl_hi, wl_eq, wl_ne, fa_lit, fa_litL, nI_add, pk_mul, nI_ltI, nI_leI, nI_eq, b01, b0, b1, Nat.reduceLeDiff, Nat.reduceAdd, Nat.reduceMul, Nat.reduceSub, Nat.lt_irrefl, Nat.reduceLT, f_ss, f_sR, f_sL, lc0, lc1, lc01, stI, stL, kt, t2, hk1, dr, kv, m1, m2, m3, m4, m5, s1, s2, a1, a2, a3, a4, b, zH, zH1]
    · simp [PN, up, n1, n2, n4, n5, n6, n7, n9, n92, n0]
      omega
  · refine lp_out ?_
    simp (maxSteps := 4000000) (disch := omega) only [ob_t, ob_n, ob_ite, e_cI, e_cL, e_cR, e_vI, e_vL, e_vR, e_d2, e_d2_a, e_d2_b, e_d2z, e_d2z_a, e_d2z_b, e_d1, e_d1_a, e_GI, e_GI_a, e_GL, e_GL_a, e_GR, e_GR_a, e_AI, e_AI_a, e_AI_b, e_AB, e_AB_a, e_AB_b, e_AZ, e_AZ_a, e_AZ_b, e_AL, e_AL_a, e_AL_b, e_AR, e_AR_a, e_AR_b, e_Len, e_Len_a, e_CI, e_CI_a, e_CI_b, e_CZ, e_CZ_a, e_And, e_kAnd, e_Or, e_kOr, e_Not, e_kNot, e_B, e_kB, e_T, e_kT, e_NN, e_kNN, e_NewA, e_NewA_a, e_NewC, e_kNewC, e_aN, e_aI, e_aI_a, e_aI_b, e_aL, e_aL_a, e_aL_b, e_aR, e_aR_a, e_aR_b, e_Call, e_kCall, e_CallV, e_kCallV, e_SetI, e_kSetI, e_SetL, e_kSetL, e_SetR, e_kSetR, e_Inc, e_Skip, e_Brk, e_Cnt, e_Ret, e_kRet, e_Ret0, e_Seq, e_kSeq0, e_kSeq1, e_kSeq2, e_kSeqR, e_If, e_kIf, e_Do, e_kDo, e_Sup, e_kN0, e_d3, e_k3a, e_k3b, e_k3c, e_P, e_kPa, e_kPb, e_UA, e_kUAa, e_kUAb, e_kUAc, e_UL, e_kULa, e_kULb, e_kULc, e_UF, e_kUFa, e_kUFb, e_Cp, e_kCp, e_Sw, e_kSwa, e_kSwb0, e_kSwb1, e_kSwbR, e_M1, e_kM1, e_MZ, e_kMZ, e_MN, e_kMN, e_Tv, e_kTv, e_Tc, e_kTc, e_lpS, e_kLp, e_kLpB0, e_kLpB1, e_kLpB2, e_kLpBR, e_kLpU, e_dwS, e_kDwB0, e_kDwC, f_II, f_LL, f_RR, f_IL, f_IR, f_LI, f_LR, f_RI, f_RL, o_iadd, o_isub, o_imul, o_iand, o_ior, o_ixor, o_ladd, o_lsub, o_lmul, o_land, o_lor, o_i2b, o_i2s, o_lneg, o_imax, o_imin, r_lt, r_le, r_gt, r_ge, r_eq, r_ne, q_lt, q_le, q_gt, q_ge, q_eq, q_ne, decide_eq_true_eq, idI, and_true, true_and, and_false, false_and, or_true, true_or, or_false, false_or, not_true_eq_false, not_false_eq_true, if_true, if_false, ite_self, Bool.not_true, Bool.not_false, Bool.false_eq_true, Bool.true_eq_false, decide_true, decide_false, ne_eq, reduceIte, Nat.reduceEqDiff, Option.some.injEq, Prod.mk.injEq, eq_self, n_inb, nI_clamp, w_hr, w_hk, w_hl, w_eq, w_ne, wl_hr, wl_hk, wl_hi, wl_eq, wl_ne, fa_lit, fa_litL, nI_add, pk_mul, nI_ltI, nI_leI, nI_eq, b01, b0, b1, Nat.reduceLeDiff, Nat.reduceAdd, Nat.reduceMul, Nat.reduceSub, Nat.lt_irrefl, Nat.reduceLT, f_ss, f_sR, f_sL, lc0, lc1, lc01, stI, stL, ]
theorem x_p3 {d l H W K : Nat} (hH : H < 8) (hW : W < 12) (hK : K < 6) (hK0 : 0 < K → 0 < H) (J : PJ L xs h ts P Q (tv d l H K 0 0)) (N : PN P d l H W 0 0 0) : ∃ (g : St) (ts' : List (Nat × Nat)) (P' : PT), LL_port__3 (sI (sI (sR (sR (sR (sR (sR (sR (sR (sR (sR (sR fr0 0 31) 1 1) 2 122) 3 123) 4 124) 5 125) 6 126) 7 127) 8 128) 9 129) 10 (nI W)) 11 (nI 0)) h = some (.inl 0, sI (sI (sR (sR (sR (sR (sR (sR (sR (sR (sR (sR fr0 0 31) 1 1) 2 122) 3 123) 4 124) 5 125) 6 126) 7 127) 8 128) 9 129) 10 (nI W)) 11 (nI K), g) ∧ PJ L xs g ts' P' Q (tv d l H K 0 0) ∧ PN P' d l H W K 0 0 ∧ Ch pE h g := by
  suffices hh : ∃ g, LL_port__3 (sI (sI (sR (sR (sR (sR (sR (sR (sR (sR (sR (sR fr0 0 31) 1 1) 2 122) 3 123) 4 124) 5 125) 6 126) 7 127) 8 128) 9 129) 10 (nI W)) 11 (nI 0)) h = some (.inl 0, sI (sI (sR (sR (sR (sR (sR (sR (sR (sR (sR (sR fr0 0 31) 1 1) 2 122) 3 123) 4 124) 5 125) 6 126) 7 127) 8 128) 9 129) 10 (nI W)) 11 (nI K), g) ∧ ∃ (ts' : List (Nat × Nat)) (P' : PT), PJ L xs g ts' P' Q (tv d l H K 0 0) ∧ PN P' d l H W K 0 0 ∧ Ch pE h g by
    obtain ⟨g, a, ts', P', b⟩ := hh
    exact ⟨g, ts', P', a, b⟩
  unfold LL_port__3
  refine loop_g (fun k => sI (sI (sR (sR (sR (sR (sR (sR (sR (sR (sR (sR fr0 0 31) 1 1) 2 122) 3 123) 4 124) 5 125) 6 126) 7 127) 8 128) 9 129) 10 (nI W)) 11 (nI k)) (fun k g => ∃ (ts' : List (Nat × Nat)) (P' : PT), PJ L xs g ts' P' Q (tv d l H K 0 0) ∧ PN P' d l H W k 0 0 ∧ Ch pE h g) K rfl ⟨ts, P, J, N, Ch.rf _ _⟩ (fun k g hk1 hI => ?_) (fun g hI => ?_)
  · obtain ⟨ts1, P1, J1, N1, c1⟩ := hI
    obtain ⟨n1, n2, n4, n5, n6, n7, n9, n92, n0⟩ := N1
    obtain ⟨⟨i0, sc, th, at_, au⟩, tx, ln, p0, le, ⟨vf, v1, v2⟩, ⟨zf, z1, z2⟩, ⟨wf, w1, w2⟩, ⟨qf, q1, q2⟩, ⟨ff, f1, f2⟩⟩ := J1
    have H2 := hK0 (by omega)
    obtain ⟨c, ec⟩ : ∃ c, c = dw L xs (25 + k) 1048576 := ⟨_, rfl⟩
    have hc : c < 1048576 := by rw [ec]; exact dw_lt _ _ _ (by decide)
    have dr := x_draw sc (k := 25 + k) (n := 1048576) (by omega) (by decide) (by decide)
    rw [← ec] at dr
    obtain ⟨x, ex⟩ : ∃ x, x = c % H := ⟨_, rfl⟩
    have hx : x < H := by rw [ex]; exact Nat.mod_lt _ (by omega)
    obtain ⟨y, ey⟩ : ∃ y, y = c / 2 ^ 5 % 100 := ⟨_, rfl⟩
    have hy : y < 100 := by rw [ey]; exact Nat.mod_lt _ (by omega)
    have m1 : o_irem (nI c) (nI H) = nI x := by rw [ex]; exact q_irem (by omega) (by omega) (by omega)
    have m2 : o_ishr (nI c) (nI 5) = nI (c / 2 ^ 5) := q_ishr (by decide) (by omega)
    have c5 : c / 2 ^ 5 < 2 ^ 31 := Nat.lt_of_le_of_lt (Nat.div_le_self _ _) (by omega)
    have m3 : o_irem (nI (c / 2 ^ 5)) (nI 100) = nI y := by rw [ey]; exact q_irem c5 (by decide) (by decide)
    have t2 : hi g 124 2 = nI H := at_.2 2 (by decide)
    have t3 : hi g 124 3 = nI K := at_.2 3 (by decide)
    have kt := at_.1
    have kz := z1.1
    have zH : (H = 0) = False := eq_false (by omega)
    obtain ⟨h2, eh⟩ : ∃ z, z = wI (wI g 126 (2 * k) (nI x)) 126 (2 * k + 1) (nI y) := ⟨_, rfl⟩
    have cw : Ch aD g h2 := by rw [eh]; exact (Ch.w (D := aD) (by unfold aD; omega) _ _ _).tr (Ch.w (D := aD) (by unfold aD; omega) _ _ _)
    have le2 : (tBs ts1).length ≤ 28 + 15 * H + 9 * W + 24 * k := by unfold lb at le; omega
    have tl := tl_carrier x y (by omega)
    obtain ⟨g', b, T⟩ := x_ln_carrier (a := x) (b := y) (i0.lw (lw_ch cw (fun o ho z => by unfold aD at z; omega))) (tx.ch cw (fun o ho z => by unfold aD at z; omega)) (by omega) (by omega) (by omega)
    have AA : AJ h2 (up (up (up (up P1 4 (P1 0 6) x) 5 (P1 0 6) y) 0 6 (P1 0 6 + 1)) 0 0 (P1 0 0 + 1)) := by
      rw [eh]
      refine ⟨⟨vf, (v1.o (by decide) _ _).o (by decide) _ _, fun b hb => ?_, fun b hb => ?_⟩, ⟨fuN (fuN zf (2 * k) x) (2 * k + 1) y, (z1.w _ x).w _ y, fun b hb => ?_⟩, ⟨wf, (w1.o (by decide) _ _).o (by decide) _ _, fun b hb => ?_⟩, ⟨qf, (q1.o (by decide) _ _).o (by decide) _ _, fun b hb => ?_⟩, ⟨ff, (f1.o (by decide) _ _).o (by decide) _ _, fun b hb => ?_⟩⟩
      · have := v2.1 b (by simpa [up] using hb)
        simpa [up] using this
      · have := v2.2 b hb
        rw [this]
        exact (doN_c b 0 _ (fun w hw => by simp [up])).symm
      · have hb2 : b < k + 1 := by simpa [up, n6] using hb
        by_cases y1 : b = k
        · simp [fuN, up, n6, y1]
        · have := z2 b (by omega)
          have e1 : 2 * b ≠ 2 * k := by omega
          have e2 : 2 * b ≠ 2 * k + 1 := by omega
          have e3 : 2 * b + 1 ≠ 2 * k := by omega
          have e4 : 2 * b + 1 ≠ 2 * k + 1 := by omega
          simp [fuN, up, n6, y1, e1, e2, e3, e4, this]
      · exact absurd hb (by simp [up, n7])
      · exact absurd hb (by simp [up, n9])
      · exact absurd hb (by simp [up, n7])
    obtain ⟨J2, c2⟩ := PJ.post ⟨⟨i0, sc, th, at_, au⟩, tx, ln, p0, le, ⟨vf, v1, v2⟩, ⟨zf, z1, z2⟩, ⟨wf, w1, w2⟩, ⟨qf, q1, q2⟩, ⟨ff, f1, f2⟩⟩ cw T (ln_carrier p0 (by omega) (by omega) (by omega) (by omega)) (by simp [up]) (by simp [up]) (by simp [lb, up]; omega) AA
    refine ⟨g', ?_, _, _, J2, ?_, c1.tr c2⟩
    · rw [eh] at b
      simp (maxSteps := 4000000) (disch := omega) only [ob_t, ob_n, ob_ite, e_cI, e_cL, e_cR, e_vI, e_vL, e_vR, e_d2, e_d2_a, e_d2_b, e_d2z, e_d2z_a, e_d2z_b, e_d1, e_d1_a, e_GI, e_GI_a, e_GL, e_GL_a, e_GR, e_GR_a, e_AI, e_AI_a, e_AI_b, e_AB, e_AB_a, e_AB_b, e_AZ, e_AZ_a, e_AZ_b, e_AL, e_AL_a, e_AL_b, e_AR, e_AR_a, e_AR_b, e_Len, e_Len_a, e_CI, e_CI_a, e_CI_b, e_CZ, e_CZ_a, e_And, e_kAnd, e_Or, e_kOr, e_Not, e_kNot, e_B, e_kB, e_T, e_kT, e_NN, e_kNN, e_NewA, e_NewA_a, e_NewC, e_kNewC, e_aN, e_aI, e_aI_a, e_aI_b, e_aL, e_aL_a, e_aL_b, e_aR, e_aR_a, e_aR_b, e_Call, e_kCall, e_CallV, e_kCallV, e_SetI, e_kSetI, e_SetL, e_kSetL, e_SetR, e_kSetR, e_Inc, e_Skip, e_Brk, e_Cnt, e_Ret, e_kRet, e_Ret0, e_Seq, e_kSeq0, e_kSeq1, e_kSeq2, e_kSeqR, e_If, e_kIf, e_Do, e_kDo, e_Sup, e_kN0, e_d3, e_k3a, e_k3b, e_k3c, e_P, e_kPa, e_kPb, e_UA, e_kUAa, e_kUAb, e_kUAc, e_UL, e_kULa, e_kULb, e_kULc, e_UF, e_kUFa, e_kUFb, e_Cp, e_kCp, e_Sw, e_kSwa, e_kSwb0, e_kSwb1, e_kSwbR, e_M1, e_kM1, e_MZ, e_kMZ, e_MN, e_kMN, e_Tv, e_kTv, e_Tc, e_kTc, e_lpS, e_kLp, e_kLpB0, e_kLpB1, e_kLpB2, e_kLpBR, e_kLpU, e_dwS, e_kDwB0, e_kDwC, f_II, f_LL, f_RR, f_IL, f_IR, f_LI, f_LR, f_RI, f_RL, o_iadd, o_isub, o_imul, o_iand, o_ior, o_ixor, o_ladd, o_lsub, o_lmul, o_land, o_lor, o_i2b, o_i2s, o_lneg, o_imax, o_imin, r_lt, r_le, r_gt, r_ge, r_eq, r_ne, q_lt, q_le, q_gt, q_ge, q_eq, q_ne, decide_eq_true_eq, idI, and_true, true_and, and_false, false_and, or_true, true_or, or_false, false_or, not_true_eq_false, not_false_eq_true, if_true, if_false, ite_self, Bool.not_true, Bool.not_false, Bool.false_eq_true, Bool.true_eq_false, decide_true, decide_false, ne_eq, reduceIte, Nat.reduceEqDiff, Option.some.injEq, Prod.mk.injEq, eq_self, n_inb, nI_clamp, w_hr, w_hk, w_hl, w_eq, w_ne, wl_hr, wl_hk, wl_hi, wl_eq, wl_ne, fa_lit, fa_litL, nI_add, pk_mul, nI_ltI, nI_leI, nI_eq, b01, b0, b1, Nat.reduceLeDiff, Nat.reduceAdd, Nat.reduceMul, Nat.reduceSub, Nat.lt_irrefl, Nat.reduceLT, f_ss, f_sR, f_sL, lc0, lc1, lc01, stI, stL, kt, t2, t3, hk1, dr, kz, m1, m2, m3, b, zH]
    · simp [PN, up, n1, n2, n4, n5, n6, n7, n9, n92, n0]
      omega
  · obtain ⟨ts1, P1, ⟨⟨i0, sc, th, at_, au⟩, -⟩, -⟩ := hI
    have t3 : hi g 124 3 = nI K := at_.2 3 (by decide)
    have kt := at_.1
    refine lp_out ?_
    simp (maxSteps := 4000000) (disch := omega) only [ob_t, ob_n, ob_ite, e_cI, e_cL, e_cR, e_vI, e_vL, e_vR, e_d2, e_d2_a, e_d2_b, e_d2z, e_d2z_a, e_d2z_b, e_d1, e_d1_a, e_GI, e_GI_a, e_GL, e_GL_a, e_GR, e_GR_a, e_AI, e_AI_a, e_AI_b, e_AB, e_AB_a, e_AB_b, e_AZ, e_AZ_a, e_AZ_b, e_AL, e_AL_a, e_AL_b, e_AR, e_AR_a, e_AR_b, e_Len, e_Len_a, e_CI, e_CI_a, e_CI_b, e_CZ, e_CZ_a, e_And, e_kAnd, e_Or, e_kOr, e_Not, e_kNot, e_B, e_kB, e_T, e_kT, e_NN, e_kNN, e_NewA, e_NewA_a, e_NewC, e_kNewC, e_aN, e_aI, e_aI_a, e_aI_b, e_aL, e_aL_a, e_aL_b, e_aR, e_aR_a, e_aR_b, e_Call, e_kCall, e_CallV, e_kCallV, e_SetI, e_kSetI, e_SetL, e_kSetL, e_SetR, e_kSetR, e_Inc, e_Skip, e_Brk, e_Cnt, e_Ret, e_kRet, e_Ret0, e_Seq, e_kSeq0, e_kSeq1, e_kSeq2, e_kSeqR, e_If, e_kIf, e_Do, e_kDo, e_Sup, e_kN0, e_d3, e_k3a, e_k3b, e_k3c, e_P, e_kPa, e_kPb, e_UA, e_kUAa, e_kUAb, e_kUAc, e_UL, e_kULa, e_kULb, e_kULc, e_UF, e_kUFa, e_kUFb, e_Cp, e_kCp, e_Sw, e_kSwa, e_kSwb0, e_kSwb1, e_kSwbR, e_M1, e_kM1, e_MZ, e_kMZ, e_MN, e_kMN, e_Tv, e_kTv, e_Tc, e_kTc, e_lpS, e_kLp, e_kLpB0, e_kLpB1, e_kLpB2, e_kLpBR, e_kLpU, e_dwS, e_kDwB0, e_kDwC, f_II, f_LL, f_RR, f_IL, f_IR, f_LI, f_LR, f_RI, f_RL, o_iadd, o_isub, o_imul, o_iand, o_ior, o_ixor, o_ladd, o_lsub, o_lmul, o_land, o_lor, o_i2b, o_i2s, o_lneg, o_imax, o_imin, r_lt, r_le, r_gt, r_ge, r_eq, r_ne, q_lt, q_le, q_gt, q_ge, q_eq, q_ne, decide_eq_true_eq, idI, and_true, true_and, and_false, false_and, or_true, true_or, or_false, false_or, not_true_eq_false, not_false_eq_true, if_true, if_false, ite_self, Bool.not_true, Bool.not_false, Bool.false_eq_true, Bool.true_eq_false, decide_true, decide_false, ne_eq, reduceIte, Nat.reduceEqDiff, Option.some.injEq, Prod.mk.injEq, eq_self, n_inb, nI_clamp, w_hr, w_hk, w_hl, w_eq, w_ne, wl_hr, wl_hk, wl_hi, wl_eq, wl_ne, fa_lit, fa_litL, nI_add, pk_mul, nI_ltI, nI_leI, nI_eq, b01, b0, b1, Nat.reduceLeDiff, Nat.reduceAdd, Nat.reduceMul, Nat.reduceSub, Nat.lt_irrefl, Nat.reduceLT, f_ss, f_sR, f_sL, lc0, lc1, lc01, stI, stL, kt, t3]
end
