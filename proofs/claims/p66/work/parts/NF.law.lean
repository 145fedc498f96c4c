set_option maxRecDepth 100000
set_option maxHeartbeats 4000000
/-! the law, all of it -/
theorem clr_0 {a : Nat} (ha : a < 2 ^ 31) : clr a 0 = a := by
  refine Nat.eq_of_testBit_eq fun j => ?_
  by_cases y : j < 31
  · rw [clr_bit _ _ y, Nat.zero_testBit, Bool.not_false, Bool.and_true]
  · have p : 2 ^ 31 ≤ 2 ^ j := Nat.pow_le_pow_right (by decide) (by omega)
    have e1 := clr_le a 0
    rw [Nat.testBit_lt_two_pow (by omega), Nat.testBit_lt_two_pow (by omega)]
section
variable {L : Nat} {xs : Nat → Int32} {h g : St} {P C C' : PT} {a b : Nat}
theorem x_rest (I : Inv g g (finP P)) (sc : SCR L xs g) (at_ : AR g 124 8 (tv (P 0 1) (P 0 2) (P 0 4) (P 0 6) (P 0 7) (P 9 1))) (au : AR g 123 1 (fun _ => P 0 3)) (A : AJ g P) (h92 : P 9 2 = 0) (hd1 : 1 ≤ P 0 1) (h9 : P 9 1 ≤ 12) (hn1 : hn g = 130) (hs1 : hs g = 11794) (h67 : hr g 67 2 = 0) : ∃ (f' : Fr) (g' : St), ((dSeq (dSetI 10 (dAI (vR 4) (cI 0))) (dSeq (dSetI 11 (dAI (vR 4) (cI 4))) (dSeq (dSetR 12 (dNewA 0 (cI 13))) (dSeq (dSetR 13 (dNewA 0 (cI 13))) (dSeq (dSetR 14 (dNewA 3 (cI 39))) (dSeq (dSetR 15 (dNewA 0 (cI 16))) (dSeq (dSetR 16 (dNewA 0 (cI 16))) (dSeq (dSetI 17 (cI 0)) (dSeq (dSeq (dSetI 18 (cI 0)) Llaw_6) (dSeq (dSeq (dSetI 18 (cI 0)) Llaw_12) (dSeq (dSetL 18 (d1 o_i2l (d2 o_iand (dCall DL_cell (aI (aR aN 0 (vR 0)) 1 (cI 61))) (cI 1073741823)))) (dSeq (dSetI 20 (d1 o_l2i (vL 18))) (dSeq (dSeq (dSetI 21 (cI 0)) Llaw_13) (dSeq (dDo (dCall DL_run (aR (aR (aR (aR (aR (aR (aR (aR (aR (aR (aR aN 0 (vR 4)) 1 (vR 5)) 2 (vR 6)) 3 (vR 7)) 4 (vR 8)) 5 (vR 9)) 6 (vR 12)) 7 (vR 13)) 8 (vR 14)) 9 (vR 15)) 10 (vR 16)))) (dSeq (dSetI 21 (cI 0)) (dSeq (dSeq (dSetI 22 (cI 0)) Llaw_14) (dSeq (dIf (dOr (dCI r_ne (dCallV 11 DX11_drawn (aI (aI (aR aN 0 (vR 1)) 1 (vI 20)) 2 (cI 0))) (dAI (vR 4) (cI 6))) (dCI r_ne (dCallV 11 DX11_drawn (aI (aI (aR aN 0 (vR 1)) 1 (vI 20)) 2 (cI 1))) (vI 21))) (dRet (cI 0)) dSkip) (dSeq (dSetI 22 (dCallV 11 DX11_dones (aR aN 0 (vR 1)))) (dRet (dB (dAnd (dAnd (dAnd (dAnd (dCZ q_eq (dCallV 11 DX11_image (aI (aR aN 0 (vR 1)) 1 (cI 2)))) (dCI r_eq (dCallV 11 DX11_anew (aR aN 0 (vR 1))) (vI 17))) (dCZ q_eq (dCallV 11 DX11_back (aI (aR aN 0 (vR 1)) 1 (cI 2))))) (dCI r_eq (dCallV 11 DX11_count (aI (aR aN 0 (vR 1)) 1 (cI 8))) (vI 17))) (dCI r_eq (dCallV 11 DX11_dones (aR aN 0 (vR 1))) (vI 22))))))))))))))))))))))) : Sm Int32) (sR (sR (sR (sR (sR (sR (sR (sR (sR (sR fr0 0 1) 1 31) 2 122) 3 123) 4 124) 5 125) 6 126) 7 127) 8 128) 9 129) g = some (.inr (nI 1), f', g') ∧ hn g' ≤ 1000 ∧ hs g' ≤ 100000 := by
  have hW := I.w
  have hb := hW.all
  obtain ⟨Y, eY⟩ : ∃ Y : Sm Int32, Y = (dSeq (dSetL 18 (d1 o_i2l (d2 o_iand (dCall DL_cell (aI (aR aN 0 (vR 0)) 1 (cI 61))) (cI 1073741823)))) (dSeq (dSetI 20 (d1 o_l2i (vL 18))) (dSeq (dSeq (dSetI 21 (cI 0)) Llaw_13) (dSeq (dDo (dCall DL_run (aR (aR (aR (aR (aR (aR (aR (aR (aR (aR (aR aN 0 (vR 4)) 1 (vR 5)) 2 (vR 6)) 3 (vR 7)) 4 (vR 8)) 5 (vR 9)) 6 (vR 12)) 7 (vR 13)) 8 (vR 14)) 9 (vR 15)) 10 (vR 16)))) (dSeq (dSetI 21 (cI 0)) (dSeq (dSeq (dSetI 22 (cI 0)) Llaw_14) (dSeq (dIf (dOr (dCI r_ne (dCallV 11 DX11_drawn (aI (aI (aR aN 0 (vR 1)) 1 (vI 20)) 2 (cI 0))) (dAI (vR 4) (cI 6))) (dCI r_ne (dCallV 11 DX11_drawn (aI (aI (aR aN 0 (vR 1)) 1 (vI 20)) 2 (cI 1))) (vI 21))) (dRet (cI 0)) dSkip) (dSeq (dSetI 22 (dCallV 11 DX11_dones (aR aN 0 (vR 1)))) (dRet (dB (dAnd (dAnd (dAnd (dAnd (dCZ q_eq (dCallV 11 DX11_image (aI (aR aN 0 (vR 1)) 1 (cI 2)))) (dCI r_eq (dCallV 11 DX11_anew (aR aN 0 (vR 1))) (vI 17))) (dCZ q_eq (dCallV 11 DX11_back (aI (aR aN 0 (vR 1)) 1 (cI 2))))) (dCI r_eq (dCallV 11 DX11_count (aI (aR aN 0 (vR 1)) 1 (cI 8))) (vI 17))) (dCI r_eq (dCallV 11 DX11_dones (aR aN 0 (vR 1))) (vI 22))))))))))))) := ⟨_, rfl⟩
  obtain ⟨h5, eh⟩ : ∃ z, z = wN (wN (wN (wN (wN g (13, 13) 13) (13, 13) 13) (16, 39) 39) (13, 16) 16) (13, 16) 16 := ⟨_, rfl⟩
  have e1 : hn (wN g (13, 13) 13) = 131 := by rw [wN_hn, hn1]
  have e2 : hn (wN (wN g (13, 13) 13) (13, 13) 13) = 132 := by rw [wN_hn, e1]
  have e3 : hn (wN (wN (wN g (13, 13) 13) (13, 13) 13) (16, 39) 39) = 133 := by rw [wN_hn, e2]
  have e4 : hn (wN (wN (wN (wN g (13, 13) 13) (13, 13) 13) (16, 39) 39) (13, 16) 16) = 134 := by rw [wN_hn, e3]
  have e5 : hn h5 = 135 := by rw [eh, wN_hn, e4]
  have s5 : hs h5 = 11891 := by rw [eh, wN_hs, wN_hs, wN_hs, wN_hs, wN_hs, hs1]
  have old : ∀ o, o < 130 → hk h5 o = hk g o ∧ (∀ k, hi h5 o k = hi g o k) ∧ (∀ k, hl h5 o k = hl g o k) ∧ ∀ k, hr h5 o k = hr g o k := fun o ho => by
    rw [eh]
    refine ⟨?_, fun k => ?_, fun k => ?_, fun k => ?_⟩
    · rw [wN_hk (by omega), wN_hk (by omega), wN_hk (by omega), wN_hk (by omega), wN_hk (by omega)]
    · rw [wN_hi (by omega), wN_hi (by omega), wN_hi (by omega), wN_hi (by omega), wN_hi (by omega)]
    · rw [wN_hl (by omega), wN_hl (by omega), wN_hl (by omega), wN_hl (by omega), wN_hl (by omega)]
    · rw [wN_hr (by omega), wN_hr (by omega), wN_hr (by omega), wN_hr (by omega), wN_hr (by omega)]
  have k130 : hk h5 130 = (13, 13) := by rw [eh, wN_hk (by omega), wN_hk (by omega), wN_hk (by omega), wN_hk (by omega), ← hn1]; exact wN_hk'
  have k131 : hk h5 131 = (13, 13) := by rw [eh, wN_hk (by omega), wN_hk (by omega), wN_hk (by omega), ← e1]; exact wN_hk'
  have k132 : hk h5 132 = (16, 39) := by rw [eh, wN_hk (by omega), wN_hk (by omega), ← e2]; exact wN_hk'
  have k133 : hk h5 133 = (13, 16) := by rw [eh, wN_hk (by omega), ← e3]; exact wN_hk'
  have k134 : hk h5 134 = (13, 16) := by rw [eh, ← e4]; exact wN_hk'
  have ar : ∀ {r n : Nat} {f : Nat → Nat}, AR g r n f → r < 130 → AR h5 r n f := fun q hr1 => ⟨by rw [(old _ hr1).1]; exact q.1, fun k hk1 => by rw [(old _ hr1).2.1]; exact q.2 k hk1⟩
  obtain ⟨⟨vf, b1, b2, b3⟩, ⟨zf, c1, c2⟩, ⟨wf, d1', d2'⟩, ⟨qf, q1, q2⟩, ⟨ff, f1, f2⟩⟩ := A
  have h4 : P 0 4 ≤ 8 := hb.2.2.2.1
  have lr : LR h5 (finP P) (told (finP P)) := by
    refine ⟨⟨_, ar at_ (by decide), rfl, rfl, rfl, rfl, rfl, rfl, rfl, rfl⟩, ⟨vf, ar b1 (by decide), fun x hx => ⟨b2 x hx, ?_⟩⟩, ⟨zf, ar c1 (by decide), fun x hx => c2 x hx⟩, ⟨wf, ar d1' (by decide), fun x hx => d2' x hx⟩, ⟨qf, ar q1 (by decide), fun x hx => q2 x hx⟩, ⟨ff, ar f1 (by decide), fun s hs2 => ?_⟩, ⟨k130, k131, k132, k133, k134⟩, Nat.le_trans h9 (by decide)⟩
    · have hx2 : x < P 0 4 := hx
      rw [b3 x (by omega)]
      exact (doN_c (P := P) (P' := finP P) x 0 (P 0 5) (fun w hw => ⟨rfl, rfl⟩)).symm
    · obtain ⟨u1, u2⟩ := f2 s hs2
      rw [fsS_told]
      refine ⟨u1, ?_⟩
      have aw := allW_lt hW hs2
      have er : lf0 (finP P) s = clr (allW (finP P) s) (ruN (finP P) s (P 9 2)) := rfl
      rw [er, h92]
      show ff (3 + s) = clr (allW (finP P) s) 0
      rw [clr_0 (by omega)]
      exact u2
  have p0 : 0 < P 0 0 := by
    by_cases z : P 0 0 = 0
    · have := (hW.2.2.2.2.2.2.2.2.2.2.2.2.2.1 z).1
      have e : finP P 0 1 = P 0 1 := rfl
      omega
    · omega
  have H : LW L xs h5 (finP P) (told (finP P)) 135 11891 := by
    refine ⟨I.lw (fun o ho => ?_), ⟨by rw [(old 1 (by decide)).1]; exact sc.1, fun k => by rw [(old 1 (by decide)).2.1]; exact sc.2.1 k, sc.2.2⟩, lr, ar au (by decide), ⟨by omega, by rw [(old 67 (by decide)).2.2.2]; exact h67⟩, by omega, by omega, p0⟩
    obtain ⟨y1, y2, y3, y4⟩ := old o (by omega)
    exact ⟨y1, y2, y3, fun _ => y4⟩
  obtain ⟨D, eD⟩ : ∃ D, D = P 0 1 := ⟨_, rfl⟩
  obtain ⟨S, eS⟩ : ∃ S, S = P 0 7 := ⟨_, rfl⟩
  obtain ⟨n, g1, P1, L1, H1, ⟨w1, w2, w3⟩, w4, w5⟩ := x_l6 (D := D) (S := S) (u := P 0 3) H ⟨eD.symm, eS.symm, rfl⟩ h9 h92
  obtain ⟨g2, L2, H2⟩ := x_l12 (D := D) (S := S) (A := n) H1 w1.symm w2.symm
  obtain ⟨f3, g3, L3, n3, s3⟩ := x_tail (D := D) (S := S) (n := n) H2 w1.symm w2.symm w4.symm
  rw [← eY] at L3
  have S3 : S ≤ 3 := by
    have := H1.1.w.all.2.2.2.2.2.2.1
    omega
  have t0 : hi g 124 0 = nI D := by rw [eD]; exact at_.2 0 (by decide)
  have t4 : hi g 124 4 = nI S := by rw [eS]; exact at_.2 4 (by decide)
  have kt := at_.1
  have eR : ((dSeq (dSetI 10 (dAI (vR 4) (cI 0))) (dSeq (dSetI 11 (dAI (vR 4) (cI 4))) (dSeq (dSetR 12 (dNewA 0 (cI 13))) (dSeq (dSetR 13 (dNewA 0 (cI 13))) (dSeq (dSetR 14 (dNewA 3 (cI 39))) (dSeq (dSetR 15 (dNewA 0 (cI 16))) (dSeq (dSetR 16 (dNewA 0 (cI 16))) (dSeq (dSetI 17 (cI 0)) (dSeq (dSeq (dSetI 18 (cI 0)) Llaw_6) (dSeq (dSeq (dSetI 18 (cI 0)) Llaw_12) (dSeq (dSetL 18 (d1 o_i2l (d2 o_iand (dCall DL_cell (aI (aR aN 0 (vR 0)) 1 (cI 61))) (cI 1073741823)))) (dSeq (dSetI 20 (d1 o_l2i (vL 18))) (dSeq (dSeq (dSetI 21 (cI 0)) Llaw_13) (dSeq (dDo (dCall DL_run (aR (aR (aR (aR (aR (aR (aR (aR (aR (aR (aR aN 0 (vR 4)) 1 (vR 5)) 2 (vR 6)) 3 (vR 7)) 4 (vR 8)) 5 (vR 9)) 6 (vR 12)) 7 (vR 13)) 8 (vR 14)) 9 (vR 15)) 10 (vR 16)))) (dSeq (dSetI 21 (cI 0)) (dSeq (dSeq (dSetI 22 (cI 0)) Llaw_14) (dSeq (dIf (dOr (dCI r_ne (dCallV 11 DX11_drawn (aI (aI (aR aN 0 (vR 1)) 1 (vI 20)) 2 (cI 0))) (dAI (vR 4) (cI 6))) (dCI r_ne (dCallV 11 DX11_drawn (aI (aI (aR aN 0 (vR 1)) 1 (vI 20)) 2 (cI 1))) (vI 21))) (dRet (cI 0)) dSkip) (dSeq (dSetI 22 (dCallV 11 DX11_dones (aR aN 0 (vR 1)))) (dRet (dB (dAnd (dAnd (dAnd (dAnd (dCZ q_eq (dCallV 11 DX11_image (aI (aR aN 0 (vR 1)) 1 (cI 2)))) (dCI r_eq (dCallV 11 DX11_anew (aR aN 0 (vR 1))) (vI 17))) (dCZ q_eq (dCallV 11 DX11_back (aI (aR aN 0 (vR 1)) 1 (cI 2))))) (dCI r_eq (dCallV 11 DX11_count (aI (aR aN 0 (vR 1)) 1 (cI 8))) (vI 17))) (dCI r_eq (dCallV 11 DX11_dones (aR aN 0 (vR 1))) (vI 22))))))))))))))))))))))) : Sm Int32) = (dSeq (dSetI 10 (dAI (vR 4) (cI 0))) (dSeq (dSetI 11 (dAI (vR 4) (cI 4))) (dSeq (dSetR 12 (dNewA 0 (cI 13))) (dSeq (dSetR 13 (dNewA 0 (cI 13))) (dSeq (dSetR 14 (dNewA 3 (cI 39))) (dSeq (dSetR 15 (dNewA 0 (cI 16))) (dSeq (dSetR 16 (dNewA 0 (cI 16))) (dSeq (dSetI 17 (cI 0)) (dSeq (dSeq (dSetI 18 (cI 0)) Llaw_6) (dSeq (dSeq (dSetI 18 (cI 0)) Llaw_12) Y)))))))))) := by
    rw [eY]
  rw [eR]
  refine ⟨f3, g3, ?_, by omega, by omega⟩
  simp (maxSteps := 4000000) (disch := omega) only [ob_t, ob_n, ob_ite, e_cI, e_cL, e_cR, e_vI, e_vL, e_vR, e_d2, e_d2_a, e_d2_b, e_d2z, e_d2z_a, e_d2z_b, e_d1, e_d1_a, e_GI, e_GI_a, e_GL, e_GL_a, e_GR, e_GR_a, e_AI, e_AI_a, e_AI_b, e_AB, e_AB_a, e_AB_b, e_AZ, e_AZ_a, e_AZ_b, e_AL, e_AL_a, e_AL_b, e_AR, e_AR_a, e_AR_b, e_Len, e_Len_a, e_CI, e_CI_a, e_CI_b, e_CZ, e_CZ_a, e_And, e_kAnd, e_Or, e_kOr, e_Not, e_kNot, e_B, e_kB, e_T, e_kT, e_NN, e_kNN, e_NewA, e_NewA_a, e_NewC, e_kNewC, e_aN, e_aI, e_aI_a, e_aI_b, e_aL, e_aL_a, e_aL_b, e_aR, e_aR_a, e_aR_b, e_Call, e_kCall, e_CallV, e_kCallV, e_SetI, e_kSetI, e_SetL, e_kSetL, e_SetR, e_kSetR, e_Inc, e_Skip, e_Brk, e_Cnt, e_Ret, e_kRet, e_Ret0, e_Seq, e_kSeq0, e_kSeq1, e_kSeq2, e_kSeqR, e_If, e_kIf, e_Do, e_kDo, e_Sup, e_kN0, e_d3, e_k3a, e_k3b, e_k3c, e_P, e_kPa, e_kPb, e_UA, e_kUAa, e_kUAb, e_kUAc, e_UL, e_kULa, e_kULb, e_kULc, e_UF, e_kUFa, e_kUFb, e_Cp, e_kCp, e_Sw, e_kSwa, e_kSwb0, e_kSwb1, e_kSwbR, e_M1, e_kM1, e_MZ, e_kMZ, e_MN, e_kMN, e_Tv, e_kTv, e_Tc, e_kTc, e_lpS, e_kLp, e_kLpB0, e_kLpB1, e_kLpB2, e_kLpBR, e_kLpU, e_dwS, e_kDwB0, e_kDwC, f_II, f_LL, f_RR, f_IL, f_IR, f_LI, f_LR, f_RI, f_RL, o_iadd, o_isub, o_imul, o_iand, o_ior, o_ixor, o_ladd, o_lsub, o_lmul, o_land, o_lor, o_i2b, o_i2s, o_lneg, o_imax, o_imin, r_lt, r_le, r_gt, r_ge, r_eq, r_ne, q_lt, q_le, q_gt, q_ge, q_eq, q_ne, decide_eq_true_eq, idI, and_true, true_and, and_false, false_and, or_true, true_or, or_false, false_or, not_true_eq_false, not_false_eq_true, if_true, if_false, ite_self, Bool.not_true, Bool.not_false, Bool.false_eq_true, Bool.true_eq_false, decide_true, decide_false, ne_eq, reduceIte, Nat.reduceEqDiff, Option.some.injEq, Prod.mk.injEq, eq_self, n_inb, nI_clamp, w_hr, w_hk, w_hl, w_eq, w_ne, wl_hr, wl_hk, wl_hi, wl_eq, wl_ne, fa_lit, fa_litL, nI_add, pk_mul, nI_ltI, nI_leI, nI_eq, b01, b0, b1, Nat.reduceLeDiff, Nat.reduceAdd, Nat.reduceMul, Nat.reduceSub, Nat.lt_irrefl, Nat.reduceLT, f_ss, f_sR, f_sL, lc0, lc1, lc01, stI, stL, kt, t0, t4, hn1, e1, e2, e3, e4, ← eh, L1, L2, L3]
theorem pure_law (L : Nat) (xs : Nat → Int32) (hL : L ≤ 260) : ∃ (f' : Fr) (g' : St), Blaw (sR fr0 0 1) (St0 L xs) = some (.inr 1, f', g') ∧ hn g' ≤ 1000 ∧ hs g' ≤ 100000 := by
  obtain ⟨Y, eY⟩ : ∃ Y : Sm Int32, Y = (dSeq (dSetI 10 (dAI (vR 4) (cI 0))) (dSeq (dSetI 11 (dAI (vR 4) (cI 4))) (dSeq (dSetR 12 (dNewA 0 (cI 13))) (dSeq (dSetR 13 (dNewA 0 (cI 13))) (dSeq (dSetR 14 (dNewA 3 (cI 39))) (dSeq (dSetR 15 (dNewA 0 (cI 16))) (dSeq (dSetR 16 (dNewA 0 (cI 16))) (dSeq (dSetI 17 (cI 0)) (dSeq (dSeq (dSetI 18 (cI 0)) Llaw_6) (dSeq (dSeq (dSetI 18 (cI 0)) Llaw_12) (dSeq (dSetL 18 (d1 o_i2l (d2 o_iand (dCall DL_cell (aI (aR aN 0 (vR 0)) 1 (cI 61))) (cI 1073741823)))) (dSeq (dSetI 20 (d1 o_l2i (vL 18))) (dSeq (dSeq (dSetI 21 (cI 0)) Llaw_13) (dSeq (dDo (dCall DL_run (aR (aR (aR (aR (aR (aR (aR (aR (aR (aR (aR aN 0 (vR 4)) 1 (vR 5)) 2 (vR 6)) 3 (vR 7)) 4 (vR 8)) 5 (vR 9)) 6 (vR 12)) 7 (vR 13)) 8 (vR 14)) 9 (vR 15)) 10 (vR 16)))) (dSeq (dSetI 21 (cI 0)) (dSeq (dSeq (dSetI 22 (cI 0)) Llaw_14) (dSeq (dIf (dOr (dCI r_ne (dCallV 11 DX11_drawn (aI (aI (aR aN 0 (vR 1)) 1 (vI 20)) 2 (cI 0))) (dAI (vR 4) (cI 6))) (dCI r_ne (dCallV 11 DX11_drawn (aI (aI (aR aN 0 (vR 1)) 1 (vI 20)) 2 (cI 1))) (vI 21))) (dRet (cI 0)) dSkip) (dSeq (dSetI 22 (dCallV 11 DX11_dones (aR aN 0 (vR 1)))) (dRet (dB (dAnd (dAnd (dAnd (dAnd (dCZ q_eq (dCallV 11 DX11_image (aI (aR aN 0 (vR 1)) 1 (cI 2)))) (dCI r_eq (dCallV 11 DX11_anew (aR aN 0 (vR 1))) (vI 17))) (dCZ q_eq (dCallV 11 DX11_back (aI (aR aN 0 (vR 1)) 1 (cI 2))))) (dCI r_eq (dCallV 11 DX11_count (aI (aR aN 0 (vR 1)) 1 (cI 8))) (vI 17))) (dCI r_eq (dCallV 11 DX11_dones (aR aN 0 (vR 1))) (vI 22))))))))))))))))))))))) := ⟨_, rfl⟩
  have z9 : ∀ {r n : Nat}, 122 ≤ r → r < 130 → KSm.getD (r - 31) (99, 0) = (13, n) → AR (Efin L xs) r n (fun _ => 0) := fun h1 h2 h3 => AR_start L xs h1 h2 h3
  obtain ⟨g, P, Lp, I, sc, at_, au, A, h92, hd1, -, -, -, h9, c⟩ := x_lport (PX_start L xs hL) (TXS_start L xs) (z9 (by decide) (by decide) (by decide +kernel)) (z9 (by decide) (by decide) (by decide +kernel)) (z9 (by decide) (by decide) (by decide +kernel)) (z9 (by decide) (by decide) (by decide +kernel)) (z9 (by decide) (by decide) (by decide +kernel))
  obtain ⟨f', g', Lr, n1, s1⟩ := x_rest I sc at_ au A h92 hd1 h9 (by rw [c.1.2.2.1]; rfl) (by rw [c.1.2.2.2]; rfl) (by rw [c.1.1]; exact S_67 L xs 2)
  rw [← eY] at Lr
  have eB : Blaw = (dSeq (dSetR 1 (dNewC 11 DX11_init)) (dSeq (dSetR 2 (dNewA 0 (cI 8))) (dSeq (dSetR 3 (dNewA 0 (cI 1))) (dSeq (dSetR 4 (dNewA 0 (cI 8))) (dSeq (dSetR 5 (dNewA 0 (cI 16))) (dSeq (dSetR 6 (dNewA 0 (cI 10))) (dSeq (dSetR 7 (dNewA 0 (cI 21))) (dSeq (dSetR 8 (dNewA 0 (cI 64))) (dSeq (dSetR 9 (dNewA 0 (cI 6))) (dSeq (dIf (dNot (dCZ q_ne (dCall DL_port_ (aR (aR (aR (aR (aR (aR (aR (aR (aR (aR aN 0 (vR 1)) 1 (vR 0)) 2 (vR 2)) 3 (vR 3)) 4 (vR 4)) 5 (vR 5)) 6 (vR 6)) 7 (vR 7)) 8 (vR 8)) 9 (vR 9))))) (dRet (cI 0)) dSkip) Y)))))))))) := by
    rw [eY]
    rfl
  have n31 : wN (Ehp L xs 0 0 0 0) (11, 0) (clN 11) = Ehp L xs 1 0 0 14 := E_new L xs (n := 14) (by decide +kernel) (by decide +kernel) (by decide +kernel)
  have c31 := ci_31 L xs
  have n122 : wN (Ehp L xs 91 90 4 11660) (13, 8) 8 = Ehp L xs 92 90 4 11668 := E_new L xs (by decide +kernel) (by decide +kernel) (by decide +kernel)
  have n123 : wN (Ehp L xs 92 90 4 11668) (13, 1) 1 = Ehp L xs 93 90 4 11669 := E_new L xs (by decide +kernel) (by decide +kernel) (by decide +kernel)
  have n124 : wN (Ehp L xs 93 90 4 11669) (13, 8) 8 = Ehp L xs 94 90 4 11677 := E_new L xs (by decide +kernel) (by decide +kernel) (by decide +kernel)
  have n125 : wN (Ehp L xs 94 90 4 11677) (13, 16) 16 = Ehp L xs 95 90 4 11693 := E_new L xs (by decide +kernel) (by decide +kernel) (by decide +kernel)
  have n126 : wN (Ehp L xs 95 90 4 11693) (13, 10) 10 = Ehp L xs 96 90 4 11703 := E_new L xs (by decide +kernel) (by decide +kernel) (by decide +kernel)
  have n127 : wN (Ehp L xs 96 90 4 11703) (13, 21) 21 = Ehp L xs 97 90 4 11724 := E_new L xs (by decide +kernel) (by decide +kernel) (by decide +kernel)
  have n128 : wN (Ehp L xs 97 90 4 11724) (13, 64) 64 = Ehp L xs 98 90 4 11788 := E_new L xs (by decide +kernel) (by decide +kernel) (by decide +kernel)
  have n129 : wN (Ehp L xs 98 90 4 11788) (13, 6) 6 = Ehp L xs 99 90 4 11794 := E_new L xs (by decide +kernel) (by decide +kernel) (by decide +kernel)
  have ef : Ehp L xs 99 90 4 11794 = Efin L xs := rfl
  have z10 : (nI 1 = nI 0) = False := eq_false (by decide)
  have i1 : (1 : Int32) = nI 1 := by decide
  have h0 : ∀ a s, hn (Ehp L xs a 0 0 s) = 31 + a := fun a s => rfl
  have h1 : ∀ a s, hn (Ehp L xs a 90 4 s) = 31 + a := fun a s => rfl
  rw [eB, ← St0_is, i1]
  refine ⟨f', g', ?_, n1, s1⟩
  simp (maxSteps := 4000000) (disch := omega) only [ob_t, ob_n, ob_ite, e_cI, e_cL, e_cR, e_vI, e_vL, e_vR, e_d2, e_d2_a, e_d2_b, e_d2z, e_d2z_a, e_d2z_b, e_d1, e_d1_a, e_GI, e_GI_a, e_GL, e_GL_a, e_GR, e_GR_a, e_AI, e_AI_a, e_AI_b, e_AB, e_AB_a, e_AB_b, e_AZ, e_AZ_a, e_AZ_b, e_AL, e_AL_a, e_AL_b, e_AR, e_AR_a, e_AR_b, e_Len, e_Len_a, e_CI, e_CI_a, e_CI_b, e_CZ, e_CZ_a, e_And, e_kAnd, e_Or, e_kOr, e_Not, e_kNot, e_B, e_kB, e_T, e_kT, e_NN, e_kNN, e_NewA, e_NewA_a, e_NewC, e_kNewC, e_aN, e_aI, e_aI_a, e_aI_b, e_aL, e_aL_a, e_aL_b, e_aR, e_aR_a, e_aR_b, e_Call, e_kCall, e_CallV, e_kCallV, e_SetI, e_kSetI, e_SetL, e_kSetL, e_SetR, e_kSetR, e_Inc, e_Skip, e_Brk, e_Cnt, e_Ret, e_kRet, e_Ret0, e_Seq, e_kSeq0, e_kSeq1, e_kSeq2, e_kSeqR, e_If, e_kIf, e_Do, e_kDo, e_Sup, e_kN0, e_d3, e_k3a, e_k3b, e_k3c, e_P, e_kPa, e_kPb, e_UA, e_kUAa, e_kUAb, e_kUAc, e_UL, e_kULa, e_kULb, e_kULc, e_UF, e_kUFa, e_kUFb, e_Cp, e_kCp, e_Sw, e_kSwa, e_kSwb0, e_kSwb1, e_kSwbR, e_M1, e_kM1, e_MZ, e_kMZ, e_MN, e_kMN, e_Tv, e_kTv, e_Tc, e_kTc, e_lpS, e_kLp, e_kLpB0, e_kLpB1, e_kLpB2, e_kLpBR, e_kLpU, e_dwS, e_kDwB0, e_kDwC, f_II, f_LL, f_RR, f_IL, f_IR, f_LI, f_LR, f_RI, f_RL, o_iadd, o_isub, o_imul, o_iand, o_ior, o_ixor, o_ladd, o_lsub, o_lmul, o_land, o_lor, o_i2b, o_i2s, o_lneg, o_imax, o_imin, r_lt, r_le, r_gt, r_ge, r_eq, r_ne, q_lt, q_le, q_gt, q_ge, q_eq, q_ne, decide_eq_true_eq, idI, and_true, true_and, and_false, false_and, or_true, true_or, or_false, false_or, not_true_eq_false, not_false_eq_true, if_true, if_false, ite_self, Bool.not_true, Bool.not_false, Bool.false_eq_true, Bool.true_eq_false, decide_true, decide_false, ne_eq, reduceIte, Nat.reduceEqDiff, Option.some.injEq, Prod.mk.injEq, eq_self, n_inb, nI_clamp, w_hr, w_hk, w_hl, w_eq, w_ne, wl_hr, wl_hk, wl_hi, wl_eq, wl_ne, fa_lit, fa_litL, nI_add, pk_mul, nI_ltI, nI_leI, nI_eq, b01, b0, b1, Nat.reduceLeDiff, Nat.reduceAdd, Nat.reduceMul, Nat.reduceSub, Nat.lt_irrefl, Nat.reduceLT, f_ss, f_sR, f_sL, lc0, lc1, lc01, stI, stL, n31, c31, h0, h1, n122, n123, n124, n125, n126, n127, n128, n129, ef, Lp, z10, Lr]
end
