set_option maxRecDepth 100000
set_option maxHeartbeats 4000000
/-! the law draws a PORT: all of it -/
section
variable {L : Nat} {xs : Nat → Int32} {h h1 g : St} {ts us : List (Nat × Nat)} {P P' Q : PT} {tf tf' : Nat → Nat} {u : Nat} {l : List Nat}
theorem PJ.tw (H : PJ L xs h ts P Q tf) (k v : Nat) (e : ∀ j, j < 8 → fuN tf k v j = tf' j) : PJ L xs (wI h 124 k (nI v)) ts P Q tf' := by
  obtain ⟨⟨i0, sc, th, at_, au⟩, t, ln, p0, le, A⟩ := H
  have c : Ch (fun o => o = 124) h (wI h 124 k (nI v)) := Ch.w (D := fun o => o = 124) rfl _ _ _
  have w := at_.w k v
  exact ⟨⟨i0.lw (lw_ch c (fun o ho z => by omega)), sc.ch c (by decide), th.to c (fun o ho z => by omega), ⟨w.1, fun j hj => by rw [w.2 j hj, e j hj]⟩, au.ch c (by decide)⟩, t.ch c (fun o ho z => by omega), ln, p0, le, A.ch c (fun o h1 h2 z => by omega)⟩
theorem x_lport (X : PX L xs h Q (fun _ => 0) 0) (T0 : TXS h []) (z5 : AR h 125 16 (fun _ => 0)) (z6 : AR h 126 10 (fun _ => 0)) (z7 : AR h 127 21 (fun _ => 0)) (z8 : AR h 128 64 (fun _ => 0)) (z9 : AR h 129 6 (fun _ => 0)) : ∃ (g : St) (P : PT), DL_port_ (sR (sR (sR (sR (sR (sR (sR (sR (sR (sR fr0 0 31) 1 1) 2 122) 3 123) 4 124) 5 125) 6 126) 7 127) 8 128) 9 129) h = some (nI 1, g) ∧ Inv g g (finP P) ∧ SCR L xs g ∧ AR g 124 8 (tv (P 0 1) (P 0 2) (P 0 4) (P 0 6) (P 0 7) (P 9 1)) ∧ AR g 123 1 (fun _ => P 0 3) ∧ AJ g P ∧ P 9 2 = 0 ∧ 1 ≤ P 0 1 ∧ P 0 4 < 8 ∧ (0 < P 0 6 → 0 < P 0 4) ∧ (0 < P 0 7 → 0 < P 0 4) ∧ P 9 1 ≤ 12 ∧ Ch pE h g := by
  obtain ⟨i0, sc, th, at_, au⟩ := X
  obtain ⟨d, ed⟩ : ∃ d, d = 1 + dw L xs 0 12 := ⟨_, rfl⟩
  obtain ⟨lw, elw⟩ : ∃ lw, lw = dw L xs 1 4 := ⟨_, rfl⟩
  obtain ⟨od, eod⟩ : ∃ od, od = dw L xs 2 11 := ⟨_, rfl⟩
  have hd : 1 ≤ d ∧ d < 13 := by
    have := dw_lt L xs 0 (n := 12) (by decide)
    omega
  have hlw : lw < 4 := by rw [elw]; exact dw_lt L xs 1 (by decide)
  have hod : od < 11 := by rw [eod]; exact dw_lt L xs 2 (by decide)
  have r0 : DL_draw (sI (sI (sR fr0 0 1) 1 (nI 0)) 2 (nI 12)) h = some (nI (dw L xs 0 12), h) := x_draw sc (by decide) (by decide) (by decide)
  obtain ⟨ha, eha⟩ : ∃ x, x = wI h 124 0 (nI d) := ⟨_, rfl⟩
  have sca : SCR L xs ha := by rw [eha]; exact sc.ch (Ch.w (D := fun o => o = 124) rfl _ _ _) (by decide)
  have r1 : DL_draw (sI (sI (sR fr0 0 1) 1 (nI 1)) 2 (nI 4)) ha = some (nI lw, ha) := by rw [elw]; exact x_draw sca (by decide) (by decide) (by decide)
  obtain ⟨hb, ehb⟩ : ∃ x, x = wI ha 124 1 (nI lw) := ⟨_, rfl⟩
  have scb : SCR L xs hb := by rw [ehb]; exact sca.ch (Ch.w (D := fun o => o = 124) rfl _ _ _) (by decide)
  have r2 : DL_draw (sI (sI (sR fr0 0 1) 1 (nI 2)) 2 (nI 11)) hb = some (nI od, hb) := by rw [eod]; exact x_draw scb (by decide) (by decide) (by decide)
  obtain ⟨hc, ehc⟩ : ∃ x, x = wI hb 123 0 (nI od) := ⟨_, rfl⟩
  have c0 : Ch (fun o => o = 123 ∨ o = 124) h hc := by
    rw [ehc, ehb, eha]
    exact ((Ch.w (D := fun o => o = 123 ∨ o = 124) (Or.inr rfl) _ _ _).tr (Ch.w (D := fun o => o = 123 ∨ o = 124) (Or.inr rfl) _ _ _)).tr (Ch.w (D := fun o => o = 123 ∨ o = 124) (Or.inl rfl) _ _ _)
  have atc : AR hc 124 8 (tv d lw 0 0 0 0) := by
    have := ((at_.w 0 d).w 1 lw).o (q := 123) (by decide) 0 (nI od)
    rw [ehc, ehb, eha]
    refine ⟨this.1, fun j hj => ?_⟩
    rw [this.2 j hj]
    match j, hj with
    | 0, _ => rfl
    | 1, _ => rfl
    | 2, _ => rfl
    | 3, _ => rfl
    | 4, _ => rfl
    | 5, _ => rfl
    | 6, _ => rfl
    | 7, _ => rfl
  have auc : AR hc 123 1 (fun _ => od) := by
    have := (au.o (q := 124) (by decide) 0 (nI d)).o (q := 124) (by decide) 1 (nI lw)
    have w := this.w 0 od
    rw [ehc, ehb, eha]
    refine ⟨w.1, fun j hj => ?_⟩
    rw [w.2 j hj]
    unfold fuN
    rw [if_pos (by omega)]
  have ic := i0.lw (lw_ch c0 (fun o ho z => by omega))
  have tc : TXS hc [] := T0.ch c0 (fun o ho z => by omega)
  have tl := tl_port d lw od (by omega)
  obtain ⟨g1, b1, T1⟩ := x_ln_port (a := d) (b := lw) (c := od) ic tc (by omega) (by omega) (by omega) (by rw [List.length_nil]; omega)
  obtain ⟨P0, eP0⟩ : ∃ P0, P0 = up (up (up (up Z0 0 1 d) 0 2 lw) 0 3 od) 0 0 (Z0 0 0 + 1) := ⟨_, rfl⟩
  have ln0 : LnS [(0, 0), (0, 1), (1, d), (0, 2), (1, lw), (0, 3), (1, od), (2, 0)] Z0 P0 (P0 0 0) := by
    have := ln_port (P := Z0) rfl hd.1 hd.2 hlw hod
    rw [eP0]
    exact this
  have x1 : PX L xs g1 Q (tv d lw 0 0 0 0) od := PX.tx ⟨ic, sc.ch c0 (by omega), th.to c0 (fun o ho z => by omega), atc, auc⟩ T1
  have A1 : AJ g1 P0 := by
    have q : ∀ {r n : Nat} {f : Nat → Nat}, AR h r n f → 125 ≤ r → AR g1 r n f := fun a hr1 => (a.ch c0 (by omega)).ch T1.2.2 (by unfold pD; omega)
    refine ⟨⟨_, q z5 (by decide), fun b hb => ?_, fun b hb => ?_⟩, ⟨_, q z6 (by decide), fun b hb => ?_⟩, ⟨_, q z7 (by decide), fun b hb => ?_⟩, ⟨_, q z8 (by decide), fun b hb => ?_⟩, ⟨_, q z9 (by decide), fun b hb => ?_⟩⟩
    · exact absurd hb (by rw [eP0]; simp [up, Z0])
    · have : P0 0 5 = 0 := by rw [eP0]; rfl
      unfold doors
      rw [this]
      rfl
    · exact absurd hb (by rw [eP0]; simp [up, Z0])
    · exact absurd hb (by rw [eP0]; simp [up, Z0])
    · exact absurd hb (by rw [eP0]; simp [up, Z0])
    · exact absurd hb (by rw [eP0]; simp [up, Z0])
  have J1 : PJ L xs g1 [(0, 0), (0, 1), (1, d), (0, 2), (1, lw), (0, 3), (1, od), (2, 0)] P0 Q (tv d lw 0 0 0 0) := by
    refine ⟨?_, T1.1, ln0, ?_, ?_, A1⟩
    · have : P0 0 3 = od := by rw [eP0]; rfl
      rw [this]
      exact x1
    · rw [eP0]
      exact Nat.succ_ne_zero _
    · exact Nat.le_trans tl (by unfold lb; omega)
  have N1 : PN P0 d lw 0 0 0 0 0 := by
    rw [eP0]
    exact ⟨rfl, rfl, rfl, rfl, rfl, rfl, rfl, rfl, rfl⟩
  obtain ⟨H, eH⟩ : ∃ H, H = dw L xs 3 8 := ⟨_, rfl⟩
  have hH : H < 8 := by rw [eH]; exact dw_lt L xs 3 (by decide)
  have r3 : DL_draw (sI (sI (sR fr0 0 1) 1 (nI 3)) 2 (nI 8)) g1 = some (nI H, g1) := by rw [eH]; exact x_draw x1.2.1 (by decide) (by decide) (by decide)
  obtain ⟨g1', eg1⟩ : ∃ x, x = wI g1 124 2 (nI H) := ⟨_, rfl⟩
  have J1' : PJ L xs g1' [(0, 0), (0, 1), (1, d), (0, 2), (1, lw), (0, 3), (1, od), (2, 0)] P0 Q (tv d lw H 0 0 0) := by
    rw [eg1]
    refine J1.tw 2 H (fun j hj => ?_)
    match j, hj with
    | 0, _ => rfl
    | 1, _ => rfl
    | 2, _ => rfl
    | 3, _ => rfl
    | 4, _ => rfl
    | 5, _ => rfl
    | 6, _ => rfl
    | 7, _ => rfl
  obtain ⟨g2, ts2, P2, L2, J2, N2, c2⟩ := x_p1 hH (by omega) J1' N1
  obtain ⟨XW, eXW⟩ : ∃ X : Ex Int32, X = dT (dCI r_lt (dAI (vR 4) (cI 2)) (cI 2)) (cI 0) (dCall DL_draw (aI (aI (aR aN 0 (vR 1)) 1 (cI 11)) 2 (cI 12))) := ⟨_, rfl⟩
  obtain ⟨W, hW, hW0, tW⟩ : ∃ W, W < 12 ∧ (0 < W → 2 ≤ H) ∧ XW (sI (sR (sR (sR (sR (sR (sR (sR (sR (sR (sR fr0 0 31) 1 1) 2 122) 3 123) 4 124) 5 125) 6 126) 7 127) 8 128) 9 129) 10 (nI H)) g2 = some (nI W, g2) := by
    have at2 := J2.1.2.2.2.1
    have kt := at2.1
    have t2 : hi g2 124 2 = nI H := at2.2 2 (by decide)
    have r : DL_draw (sI (sI (sR fr0 0 1) 1 (nI 11)) 2 (nI 12)) g2 = some (nI (dw L xs 11 12), g2) := x_draw J2.1.2.1 (by decide) (by decide) (by decide)
    by_cases z : H < 2
    · refine ⟨0, by decide, fun q => absurd q (Nat.lt_irrefl 0), ?_⟩
      rw [eXW]
      simp (maxSteps := 4000000) (disch := omega) only [ob_t, ob_n, ob_ite, e_cI, e_cL, e_cR, e_vI, e_vL, e_vR, e_d2, e_d2_a, e_d2_b, e_d2z, e_d2z_a, e_d2z_b, e_d1, e_d1_a, e_GI, e_GI_a, e_GL, e_GL_a, e_GR, e_GR_a, e_AI, e_AI_a, e_AI_b, e_AB, e_AB_a, e_AB_b, e_AZ, e_AZ_a, e_AZ_b, e_AL, e_AL_a, e_AL_b, e_AR, e_AR_a, e_AR_b, e_Len, e_Len_a, e_CI, e_CI_a, e_CI_b, e_CZ, e_CZ_a, e_And, e_kAnd, e_Or, e_kOr, e_Not, e_kNot, e_B, e_kB, e_T, e_kT, e_NN, e_kNN, e_NewA, e_NewA_a, e_NewC, e_kNewC, e_aN, e_aI, e_aI_a, e_aI_b, e_aL, e_aL_a, e_aL_b, e_aR, e_aR_a, e_aR_b, e_Call, e_kCall, e_CallV, e_kCallV, e_SetI, e_kSetI, e_SetL, e_kSetL, e_SetR, e_kSetR, e_Inc, e_Skip, e_Brk, e_Cnt, e_Ret, e_kRet, e_Ret0, e_Seq, e_kSeq0, e_kSeq1, e_kSeq2, e_kSeqR, e_If, e_kIf, e_Do, e_kDo, e_Sup, e_kN0, e_d3, e_k3a, e_k3b, e_k3c, e_P, e_kPa, e_kPb, e_UA, e_kUAa, e_kUAb, e_kUAc, e_UL, e_kULa, e_kULb, e_kULc, e_UF, e_kUFa, e_kUFb, e_Cp, e_kCp, e_Sw, e_kSwa, e_kSwb0, e_kSwb1, e_kSwbR, e_M1, e_kM1, e_MZ, e_kMZ, e_MN, e_kMN, e_Tv, e_kTv, e_Tc, e_kTc, e_lpS, e_kLp, e_kLpB0, e_kLpB1, e_kLpB2, e_kLpBR, e_kLpU, e_dwS, e_kDwB0, e_kDwC, f_II, f_LL, f_RR, f_IL, f_IR, f_LI, f_LR, f_RI, f_RL, o_iadd, o_isub, o_imul, o_iand, o_ior, o_ixor, o_ladd, o_lsub, o_lmul, o_land, o_lor, o_i2b, o_i2s, o_lneg, o_imax, o_imin, r_lt, r_le, r_gt, r_ge, r_eq, r_ne, q_lt, q_le, q_gt, q_ge, q_eq, q_ne, decide_eq_true_eq, idI, and_true, true_and, and_false, false_and, or_true, true_or, or_false, false_or, not_true_eq_false, not_false_eq_true, if_true, if_false, ite_self, Bool.not_true, Bool.not_false, Bool.false_eq_true, Bool.true_eq_false, decide_true, decide_false, ne_eq, reduceIte, Nat.reduceEqDiff, Option.some.injEq, Prod.mk.injEq, eq_self, n_inb, nI_clamp, w_hr, w_hk, w_hl, w_eq, w_ne, wl_hr, wl_hk, wl_hi, wl_eq, wl_ne, fa_lit, fa_litL, nI_add, pk_mul, nI_ltI, nI_leI, nI_eq, b01, b0, b1, Nat.reduceLeDiff, Nat.reduceAdd, Nat.reduceMul, Nat.reduceSub, Nat.lt_irrefl, Nat.reduceLT, f_ss, f_sR, f_sL, lc0, lc1, lc01, stI, stL, kt, t2, z]
    · refine ⟨dw L xs 11 12, dw_lt L xs 11 (by decide), fun _ => by omega, ?_⟩
      rw [eXW]
      simp (maxSteps := 4000000) (disch := omega) only [ob_t, ob_n, ob_ite, e_cI, e_cL, e_cR, e_vI, e_vL, e_vR, e_d2, e_d2_a, e_d2_b, e_d2z, e_d2z_a, e_d2z_b, e_d1, e_d1_a, e_GI, e_GI_a, e_GL, e_GL_a, e_GR, e_GR_a, e_AI, e_AI_a, e_AI_b, e_AB, e_AB_a, e_AB_b, e_AZ, e_AZ_a, e_AZ_b, e_AL, e_AL_a, e_AL_b, e_AR, e_AR_a, e_AR_b, e_Len, e_Len_a, e_CI, e_CI_a, e_CI_b, e_CZ, e_CZ_a, e_And, e_kAnd, e_Or, e_kOr, e_Not, e_kNot, e_B, e_kB, e_T, e_kT, e_NN, e_kNN, e_NewA, e_NewA_a, e_NewC, e_kNewC, e_aN, e_aI, e_aI_a, e_aI_b, e_aL, e_aL_a, e_aL_b, e_aR, e_aR_a, e_aR_b, e_Call, e_kCall, e_CallV, e_kCallV, e_SetI, e_kSetI, e_SetL, e_kSetL, e_SetR, e_kSetR, e_Inc, e_Skip, e_Brk, e_Cnt, e_Ret, e_kRet, e_Ret0, e_Seq, e_kSeq0, e_kSeq1, e_kSeq2, e_kSeqR, e_If, e_kIf, e_Do, e_kDo, e_Sup, e_kN0, e_d3, e_k3a, e_k3b, e_k3c, e_P, e_kPa, e_kPb, e_UA, e_kUAa, e_kUAb, e_kUAc, e_UL, e_kULa, e_kULb, e_kULc, e_UF, e_kUFa, e_kUFb, e_Cp, e_kCp, e_Sw, e_kSwa, e_kSwb0, e_kSwb1, e_kSwbR, e_M1, e_kM1, e_MZ, e_kMZ, e_MN, e_kMN, e_Tv, e_kTv, e_Tc, e_kTc, e_lpS, e_kLp, e_kLpB0, e_kLpB1, e_kLpB2, e_kLpBR, e_kLpU, e_dwS, e_kDwB0, e_kDwC, f_II, f_LL, f_RR, f_IL, f_IR, f_LI, f_LR, f_RI, f_RL, o_iadd, o_isub, o_imul, o_iand, o_ior, o_ixor, o_ladd, o_lsub, o_lmul, o_land, o_lor, o_i2b, o_i2s, o_lneg, o_imax, o_imin, r_lt, r_le, r_gt, r_ge, r_eq, r_ne, q_lt, q_le, q_gt, q_ge, q_eq, q_ne, decide_eq_true_eq, idI, and_true, true_and, and_false, false_and, or_true, true_or, or_false, false_or, not_true_eq_false, not_false_eq_true, if_true, if_false, ite_self, Bool.not_true, Bool.not_false, Bool.false_eq_true, Bool.true_eq_false, decide_true, decide_false, ne_eq, reduceIte, Nat.reduceEqDiff, Option.some.injEq, Prod.mk.injEq, eq_self, n_inb, nI_clamp, w_hr, w_hk, w_hl, w_eq, w_ne, wl_hr, wl_hk, wl_hi, wl_eq, wl_ne, fa_lit, fa_litL, nI_add, pk_mul, nI_ltI, nI_leI, nI_eq, b01, b0, b1, Nat.reduceLeDiff, Nat.reduceAdd, Nat.reduceMul, Nat.reduceSub, Nat.lt_irrefl, Nat.reduceLT, f_ss, f_sR, f_sL, lc0, lc1, lc01, stI, stL, kt, t2, z, r]
  obtain ⟨g3, ts3, P3, L3, J3, N3, c3⟩ := x_p2 hH hW hW0 J2 N2
  obtain ⟨XK, eXK⟩ : ∃ X : Ex Int32, X = dT (dCZ q_eq (dAI (vR 4) (cI 2))) (cI 0) (dCall DL_draw (aI (aI (aR aN 0 (vR 1)) 1 (cI 24)) 2 (cI 6))) := ⟨_, rfl⟩
  obtain ⟨K, hK, hK0, tK⟩ : ∃ K, K < 6 ∧ (0 < K → 0 < H) ∧ XK (sI (sI (sR (sR (sR (sR (sR (sR (sR (sR (sR (sR fr0 0 31) 1 1) 2 122) 3 123) 4 124) 5 125) 6 126) 7 127) 8 128) 9 129) 10 (nI W)) 11 (nI W)) g3 = some (nI K, g3) := by
    have at2 := J3.1.2.2.2.1
    have kt := at2.1
    have t2 : hi g3 124 2 = nI H := at2.2 2 (by decide)
    have r : DL_draw (sI (sI (sR fr0 0 1) 1 (nI 24)) 2 (nI 6)) g3 = some (nI (dw L xs 24 6), g3) := x_draw J3.1.2.1 (by decide) (by decide) (by decide)
    by_cases z : H = 0
    · refine ⟨0, by decide, fun q => absurd q (Nat.lt_irrefl 0), ?_⟩
      rw [eXK]
      have z' : (nI H = nI 0) = True := by rw [z]; exact eq_self _
      simp (maxSteps := 4000000) (disch := omega) only [ob_t, ob_n, ob_ite, e_cI, e_cL, e_cR, e_vI, e_vL, e_vR, e_d2, e_d2_a, e_d2_b, e_d2z, e_d2z_a, e_d2z_b, e_d1, e_d1_a, e_GI, e_GI_a, e_GL, e_GL_a, e_GR, e_GR_a, e_AI, e_AI_a, e_AI_b, e_AB, e_AB_a, e_AB_b, e_AZ, e_AZ_a, e_AZ_b, e_AL, e_AL_a, e_AL_b, e_AR, e_AR_a, e_AR_b, e_Len, e_Len_a, e_CI, e_CI_a, e_CI_b, e_CZ, e_CZ_a, e_And, e_kAnd, e_Or, e_kOr, e_Not, e_kNot, e_B, e_kB, e_T, e_kT, e_NN, e_kNN, e_NewA, e_NewA_a, e_NewC, e_kNewC, e_aN, e_aI, e_aI_a, e_aI_b, e_aL, e_aL_a, e_aL_b, e_aR, e_aR_a, e_aR_b, e_Call, e_kCall, e_CallV, e_kCallV, e_SetI, e_kSetI, e_SetL, e_kSetL, e_SetR, e_kSetR, e_Inc, e_Skip, e_Brk, e_Cnt, e_Ret, e_kRet, e_Ret0, e_Seq, e_kSeq0, e_kSeq1, e_kSeq2, e_kSeqR, e_If, e_kIf, e_Do, e_kDo, e_Sup, e_kN0, e_d3, e_k3a, e_k3b, e_k3c, e_P, e_kPa, e_kPb, e_UA, e_kUAa, e_kUAb, e_kUAc, e_UL, e_kULa, e_kULb, e_kULc, e_UF, e_kUFa, e_kUFb, e_Cp, e_kCp, e_Sw, e_kSwa, e_kSwb0, e_kSwb1, e_kSwbR, e_M1, e_kM1, e_MZ, e_kMZ, e_MN, e_kMN, e_Tv, e_kTv, e_Tc, e_kTc, e_lpS, e_kLp, e_kLpB0, e_kLpB1, e_kLpB2, e_kLpBR, e_kLpU, e_dwS, e_kDwB0, e_kDwC, f_II, f_LL, f_RR, f_IL, f_IR, f_LI, f_LR, f_RI, f_RL, o_iadd, o_isub, o_imul, o_iand, o_ior, o_ixor, o_ladd, o_lsub, o_lmul, o_land, o_lor, o_i2b, o_i2s, o_lneg, o_imax, o_imin, r_lt, r_le, r_gt, r_ge, r_eq, r_ne, q_lt, q_le, q_gt, q_ge, q_eq, q_ne, decide_eq_true_eq, idI, and_true, true_and, and_false, false_and, or_true, true_or, or_false, false_or, not_true_eq_false, not_false_eq_true, if_true, if_false, ite_self, Bool.not_true, Bool.not_false, Bool.false_eq_true, Bool.true_eq_false, decide_true, decide_false, ne_eq, reduceIte, Nat.reduceEqDiff, Option.some.injEq, Prod.mk.injEq, eq_self, n_inb, nI_clamp, w_hr, w_hk, w_hl, w_eq, w_ne, wl_hr, wl_hk, wl_hi, wl_eq, wl_ne, fa_lit, fa_litL, nI_add, pk_mul, nI_ltI, nI_leI, nI_eq, b01, b0, b1, Nat.reduceLeDiff, Nat.reduceAdd, Nat.reduceMul, Nat.reduceSub, Nat.lt_irrefl, Nat.reduceLT, f_ss, f_sR, f_sL, lc0, lc1, lc01, stI, stL, kt, t2, z']
    · refine ⟨dw L xs 24 6, dw_lt L xs 24 (by decide), fun _ => by omega, ?_⟩
      rw [eXK]
      have z' : (nI H = nI 0) = False := by rw [nI_eq (by omega) (by decide)]; exact eq_false z
      simp (maxSteps := 4000000) (disch := omega) only [ob_t, ob_n, ob_ite, e_cI, e_cL, e_cR, e_vI, e_vL, e_vR, e_d2, e_d2_a, e_d2_b, e_d2z, e_d2z_a, e_d2z_b, e_d1, e_d1_a, e_GI, e_GI_a, e_GL, e_GL_a, e_GR, e_GR_a, e_AI, e_AI_a, e_AI_b, e_AB, e_AB_a, e_AB_b, e_AZ, e_AZ_a, e_AZ_b, e_AL, e_AL_a, e_AL_b, e_AR, e_AR_a, e_AR_b, e_Len, e_Len_a, e_CI, e_CI_a, e_CI_b, e_CZ, e_CZ_a, e_And, e_kAnd, e_Or, e_kOr, e_Not, e_kNot, e_B, e_kB, e_T, e_kT, e_NN, e_kNN, e_NewA, e_NewA_a, e_NewC, e_kNewC, e_aN, e_aI, e_aI_a, e_aI_b, e_aL, e_aL_a, e_aL_b, e_aR, e_aR_a, e_aR_b, e_Call, e_kCall, e_CallV, e_kCallV, e_SetI, e_kSetI, e_SetL, e_kSetL, e_SetR, e_kSetR, e_Inc, e_Skip, e_Brk, e_Cnt, e_Ret, e_kRet, e_Ret0, e_Seq, e_kSeq0, e_kSeq1, e_kSeq2, e_kSeqR, e_If, e_kIf, e_Do, e_kDo, e_Sup, e_kN0, e_d3, e_k3a, e_k3b, e_k3c, e_P, e_kPa, e_kPb, e_UA, e_kUAa, e_kUAb, e_kUAc, e_UL, e_kULa, e_kULb, e_kULc, e_UF, e_kUFa, e_kUFb, e_Cp, e_kCp, e_Sw, e_kSwa, e_kSwb0, e_kSwb1, e_kSwbR, e_M1, e_kM1, e_MZ, e_kMZ, e_MN, e_kMN, e_Tv, e_kTv, e_Tc, e_kTc, e_lpS, e_kLp, e_kLpB0, e_kLpB1, e_kLpB2, e_kLpBR, e_kLpU, e_dwS, e_kDwB0, e_kDwC, f_II, f_LL, f_RR, f_IL, f_IR, f_LI, f_LR, f_RI, f_RL, o_iadd, o_isub, o_imul, o_iand, o_ior, o_ixor, o_ladd, o_lsub, o_lmul, o_land, o_lor, o_i2b, o_i2s, o_lneg, o_imax, o_imin, r_lt, r_le, r_gt, r_ge, r_eq, r_ne, q_lt, q_le, q_gt, q_ge, q_eq, q_ne, decide_eq_true_eq, idI, and_true, true_and, and_false, false_and, or_true, true_or, or_false, false_or, not_true_eq_false, not_false_eq_true, if_true, if_false, ite_self, Bool.not_true, Bool.not_false, Bool.false_eq_true, Bool.true_eq_false, decide_true, decide_false, ne_eq, reduceIte, Nat.reduceEqDiff, Option.some.injEq, Prod.mk.injEq, eq_self, n_inb, nI_clamp, w_hr, w_hk, w_hl, w_eq, w_ne, wl_hr, wl_hk, wl_hi, wl_eq, wl_ne, fa_lit, fa_litL, nI_add, pk_mul, nI_ltI, nI_leI, nI_eq, b01, b0, b1, Nat.reduceLeDiff, Nat.reduceAdd, Nat.reduceMul, Nat.reduceSub, Nat.lt_irrefl, Nat.reduceLT, f_ss, f_sR, f_sL, lc0, lc1, lc01, stI, stL, kt, t2, z', r]
  obtain ⟨g3', eg3⟩ : ∃ x, x = wI g3 124 3 (nI K) := ⟨_, rfl⟩
  have J3' : PJ L xs g3' ts3 P3 Q (tv d lw H K 0 0) := by
    rw [eg3]
    refine J3.tw 3 K (fun j hj => ?_)
    match j, hj with
    | 0, _ => rfl
    | 1, _ => rfl
    | 2, _ => rfl
    | 3, _ => rfl
    | 4, _ => rfl
    | 5, _ => rfl
    | 6, _ => rfl
    | 7, _ => rfl
  obtain ⟨g4, ts4, P4, L4, J4, N4, c4⟩ := x_p3 hH hW hK hK0 J3' N3
  obtain ⟨XS, eXS⟩ : ∃ X : Ex Int32, X = dT (dCZ q_eq (dAI (vR 4) (cI 2))) (cI 0) (dCall DL_draw (aI (aI (aR aN 0 (vR 1)) 1 (cI 30)) 2 (cI 4))) := ⟨_, rfl⟩
  obtain ⟨S, hS, hS0, tS⟩ : ∃ S, S < 4 ∧ (0 < S → 0 < H) ∧ XS (sI (sI (sR (sR (sR (sR (sR (sR (sR (sR (sR (sR fr0 0 31) 1 1) 2 122) 3 123) 4 124) 5 125) 6 126) 7 127) 8 128) 9 129) 10 (nI W)) 11 (nI K)) g4 = some (nI S, g4) := by
    have at2 := J4.1.2.2.2.1
    have kt := at2.1
    have t2 : hi g4 124 2 = nI H := at2.2 2 (by decide)
    have r : DL_draw (sI (sI (sR fr0 0 1) 1 (nI 30)) 2 (nI 4)) g4 = some (nI (dw L xs 30 4), g4) := x_draw J4.1.2.1 (by decide) (by decide) (by decide)
    by_cases z : H = 0
    · refine ⟨0, by decide, fun q => absurd q (Nat.lt_irrefl 0), ?_⟩
      rw [eXS]
      have z' : (nI H = nI 0) = True := by rw [z]; exact eq_self _
      simp (maxSteps := 4000000) (disch := omega) only [ob_t, ob_n, ob_ite, e_cI, e_cL, e_cR, e_vI, e_vL, e_vR, e_d2, e_d2_a, e_d2_b, e_d2z, e_d2z_a, e_d2z_b, e_d1, e_d1_a, e_GI, e_GI_a, e_GL, e_GL_a, e_GR, e_GR_a, e_AI, e_AI_a, e_AI_b, e_AB, e_AB_a, e_AB_b, e_AZ, e_AZ_a, e_AZ_b, e_AL, e_AL_a, e_AL_b, e_AR, e_AR_a, e_AR_b, e_Len, e_Len_a, e_CI, e_CI_a, e_CI_b, e_CZ, e_CZ_a, e_And, e_kAnd, e_Or, e_kOr, e_Not, e_kNot, e_B, e_kB, e_T, e_kT, e_NN, e_kNN, e_NewA, e_NewA_a, e_NewC, e_kNewC, e_aN, e_aI, e_aI_a, e_aI_b, e_aL, e_aL_a, e_aL_b, e_aR, e_aR_a, e_aR_b, e_Call, e_kCall, e_CallV, e_kCallV, e_SetI, e_kSetI, e_SetL, e_kSetL, e_SetR, e_kSetR, e_Inc, e_Skip, e_Brk, e_Cnt, e_Ret, e_kRet, e_Ret0, e_Seq, e_kSeq0, e_kSeq1, e_kSeq2, e_kSeqR, e_If, e_kIf, e_Do, e_kDo, e_Sup, e_kN0, e_d3, e_k3a, e_k3b, e_k3c, e_P, e_kPa, e_kPb, e_UA, e_kUAa, e_kUAb, e_kUAc, e_UL, e_kULa, e_kULb, e_kULc, e_UF, e_kUFa, e_kUFb, e_Cp, e_kCp, e_Sw, e_kSwa, e_kSwb0, e_kSwb1, e_kSwbR, e_M1, e_kM1, e_MZ, e_kMZ, e_MN, e_kMN, e_Tv, e_kTv, e_Tc, e_kTc, e_lpS, e_kLp, e_kLpB0, e_kLpB1, e_kLpB2, e_kLpBR, e_kLpU, e_dwS, e_kDwB0, e_kDwC, f_II, f_LL, f_RR, f_IL, f_IR, f_LI, f_LR, f_RI, f_RL, o_iadd, o_isub, o_imul, o_iand, o_ior, o_ixor, o_ladd, o_lsub, o_lmul, o_land, o_lor, o_i2b, o_i2s, o_lneg, o_imax, o_imin, r_lt, r_le, r_gt, r_ge, r_eq, r_ne, q_lt, q_le, q_gt, q_ge, q_eq, q_ne, decide_eq_true_eq, idI, and_true, true_and, and_false, false_and, or_true, true_or, or_false, false_or, not_true_eq_false, not_false_eq_true, if_true, if_false, ite_self, Bool.not_true, Bool.not_false, Bool.false_eq_true, Bool.true_eq_false, decide_true, decide_false, ne_eq, reduceIte, Nat.reduceEqDiff, Option.some.injEq, Prod.mk.injEq, eq_self, n_inb, nI_clamp, w_hr, w_hk, w_hl, w_eq, w_ne, wl_hr, wl_hk, wl_hi, wl_eq, wl_ne, fa_lit, fa_litL, nI_add, pk_mul, nI_ltI, nI_leI, nI_eq, b01, b0, b1, Nat.reduceLeDiff, Nat.reduceAdd, Nat.reduceMul, Nat.reduceSub, Nat.lt_irrefl, Nat.reduceLT, f_ss, f_sR, f_sL, lc0, lc1, lc01, stI, stL, kt, t2, z']
    · refine ⟨dw L xs 30 4, dw_lt L xs 30 (by decide), fun _ => by omega, ?_⟩
      rw [eXS]
      have z' : (nI H = nI 0) = False := by rw [nI_eq (by omega) (by decide)]; exact eq_false z
      simp (maxSteps := 4000000) (disch := omega) only [ob_t, ob_n, ob_ite, e_cI, e_cL, e_cR, e_vI, e_vL, e_vR, e_d2, e_d2_a, e_d2_b, e_d2z, e_d2z_a, e_d2z_b, e_d1, e_d1_a, e_GI, e_GI_a, e_GL, e_GL_a, e_GR, e_GR_a, e_AI, e_AI_a, e_AI_b, e_AB, e_AB_a, e_AB_b, e_AZ, e_AZ_a, e_AZ_b, e_AL, e_AL_a, e_AL_b, e_AR, e_AR_a, e_AR_b, e_Len, e_Len_a, e_CI, e_CI_a, e_CI_b, e_CZ, e_CZ_a, e_And, e_kAnd, e_Or, e_kOr, e_Not, e_kNot, e_B, e_kB, e_T, e_kT, e_NN, e_kNN, e_NewA, e_NewA_a, e_NewC, e_kNewC, e_aN, e_aI, e_aI_a, e_aI_b, e_aL, e_aL_a, e_aL_b, e_aR, e_aR_a, e_aR_b, e_Call, e_kCall, e_CallV, e_kCallV, e_SetI, e_kSetI, e_SetL, e_kSetL, e_SetR, e_kSetR, e_Inc, e_Skip, e_Brk, e_Cnt, e_Ret, e_kRet, e_Ret0, e_Seq, e_kSeq0, e_kSeq1, e_kSeq2, e_kSeqR, e_If, e_kIf, e_Do, e_kDo, e_Sup, e_kN0, e_d3, e_k3a, e_k3b, e_k3c, e_P, e_kPa, e_kPb, e_UA, e_kUAa, e_kUAb, e_kUAc, e_UL, e_kULa, e_kULb, e_kULc, e_UF, e_kUFa, e_kUFb, e_Cp, e_kCp, e_Sw, e_kSwa, e_kSwb0, e_kSwb1, e_kSwbR, e_M1, e_kM1, e_MZ, e_kMZ, e_MN, e_kMN, e_Tv, e_kTv, e_Tc, e_kTc, e_lpS, e_kLp, e_kLpB0, e_kLpB1, e_kLpB2, e_kLpBR, e_kLpU, e_dwS, e_kDwB0, e_kDwC, f_II, f_LL, f_RR, f_IL, f_IR, f_LI, f_LR, f_RI, f_RL, o_iadd, o_isub, o_imul, o_iand, o_ior, o_ixor, o_ladd, o_lsub, o_lmul, o_land, o_lor, o_i2b, o_i2s, o_lneg, o_imax, o_imin, r_lt, r_le, r_gt, r_ge, r_eq, r_ne, q_lt, q_le, q_gt, q_ge, q_eq, q_ne, decide_eq_true_eq, idI, and_true, true_and, and_false, false_and, or_true, true_or, or_false, false_or, not_true_eq_false, not_false_eq_true, if_true, if_false, ite_self, Bool.not_true, Bool.not_false, Bool.false_eq_true, Bool.true_eq_false, decide_true, decide_false, ne_eq, reduceIte, Nat.reduceEqDiff, Option.some.injEq, Prod.mk.injEq, eq_self, n_inb, nI_clamp, w_hr, w_hk, w_hl, w_eq, w_ne, wl_hr, wl_hk, wl_hi, wl_eq, wl_ne, fa_lit, fa_litL, nI_add, pk_mul, nI_ltI, nI_leI, nI_eq, b01, b0, b1, Nat.reduceLeDiff, Nat.reduceAdd, Nat.reduceMul, Nat.reduceSub, Nat.lt_irrefl, Nat.reduceLT, f_ss, f_sR, f_sL, lc0, lc1, lc01, stI, stL, kt, t2, z', r]
  obtain ⟨g4', eg4⟩ : ∃ x, x = wI g4 124 4 (nI S) := ⟨_, rfl⟩
  have J4' : PJ L xs g4' ts4 P4 Q (tv d lw H K S 0) := by
    rw [eg4]
    refine J4.tw 4 S (fun j hj => ?_)
    match j, hj with
    | 0, _ => rfl
    | 1, _ => rfl
    | 2, _ => rfl
    | 3, _ => rfl
    | 4, _ => rfl
    | 5, _ => rfl
    | 6, _ => rfl
    | 7, _ => rfl
  obtain ⟨g5, ts5, P5, L5, J5, N5, c5⟩ := x_p5 hH hW hK hS hS0 J4' N4
  obtain ⟨XC, eXC⟩ : ∃ X : Ex Int32, X = dT (dOr (dCZ q_eq (dAI (vR 4) (cI 3))) (dCZ q_eq (dAI (vR 4) (cI 4)))) (cI 0) (dCall DL_draw (aI (aI (aR aN 0 (vR 1)) 1 (cI 34)) 2 (cI 13))) := ⟨_, rfl⟩
  obtain ⟨C, hC, hC0, tC⟩ : ∃ C, C < 13 ∧ (0 < C → 0 < K ∧ 0 < S ∧ 0 < H) ∧ XC (sI (sI (sR (sR (sR (sR (sR (sR (sR (sR (sR (sR fr0 0 31) 1 1) 2 122) 3 123) 4 124) 5 125) 6 126) 7 127) 8 128) 9 129) 10 (nI W)) 11 (nI S)) g5 = some (nI C, g5) := by
    have at2 := J5.1.2.2.2.1
    have kt := at2.1
    have t2 : hi g5 124 3 = nI K := at2.2 3 (by decide)
    have t3 : hi g5 124 4 = nI S := at2.2 4 (by decide)
    have r : DL_draw (sI (sI (sR fr0 0 1) 1 (nI 34)) 2 (nI 13)) g5 = some (nI (dw L xs 34 13), g5) := x_draw J5.1.2.1 (by decide) (by decide) (by decide)
    by_cases z : K = 0
    · refine ⟨0, by decide, fun q => absurd q (Nat.lt_irrefl 0), ?_⟩
      rw [eXC]
      have z' : (nI K = nI 0) = True := by rw [z]; exact eq_self _
      simp (maxSteps := 4000000) (disch := omega) only [ob_t, ob_n, ob_ite, e_cI, e_cL, e_cR, e_vI, e_vL, e_vR, e_d2, e_d2_a, e_d2_b, e_d2z, e_d2z_a, e_d2z_b, e_d1, e_d1_a, e_GI, e_GI_a, e_GL, e_GL_a, e_GR, e_GR_a, e_AI, e_AI_a, e_AI_b, e_AB, e_AB_a, e_AB_b, e_AZ, e_AZ_a, e_AZ_b, e_AL, e_AL_a, e_AL_b, e_AR, e_AR_a, e_AR_b, e_Len, e_Len_a, e_CI, e_CI_a, e_CI_b, e_CZ, e_CZ_a, e_And, e_kAnd, e_Or, e_kOr, e_Not, e_kNot, e_B, e_kB, e_T, e_kT, e_NN, e_kNN, e_NewA, e_NewA_a, e_NewC, e_kNewC, e_aN, e_aI, e_aI_a, e_aI_b, e_aL, e_aL_a, e_aL_b, e_aR, e_aR_a, e_aR_b, e_Call, e_kCall, e_CallV, e_kCallV, e_SetI, e_kSetI, e_SetL, e_kSetL, e_SetR, e_kSetR, e_Inc, e_Skip, e_Brk, e_Cnt, e_Ret, e_kRet, e_Ret0, e_Seq, e_kSeq0, e_kSeq1, e_kSeq2, e_kSeqR, e_If, e_kIf, e_Do, e_kDo, e_Sup, e_kN0, e_d3, e_k3a, e_k3b, e_k3c, e_P, e_kPa, e_kPb, e_UA, e_kUAa, e_kUAb, e_kUAc, e_UL, e_kULa, e_kULb, e_kULc, e_UF, e_kUFa, e_kUFb, e_Cp, e_kCp, e_Sw, e_kSwa, e_kSwb0, e_kSwb1, e_kSwbR, e_M1, e_kM1, e_MZ, e_kMZ, e_MN, e_kMN, e_Tv, e_kTv, e_Tc, e_kTc, e_lpS, e_kLp, e_kLpB0, e_kLpB1, e_kLpB2, e_kLpBR, e_kLpU, e_dwS, e_kDwB0, e_kDwC, f_II, f_LL, f_RR, f_IL, f_IR, f_LI, f_LR, f_RI, f_RL, o_iadd, o_isub, o_imul, o_iand, o_ior, o_ixor, o_ladd, o_lsub, o_lmul, o_land, o_lor, o_i2b, o_i2s, o_lneg, o_imax, o_imin, r_lt, r_le, r_gt, r_ge, r_eq, r_ne, q_lt, q_le, q_gt, q_ge, q_eq, q_ne, decide_eq_true_eq, idI, and_true, true_and, and_false, false_and, or_true, true_or, or_false, false_or, not_true_eq_false, not_false_eq_true, if_true, if_false, ite_self, Bool.not_true, Bool.not_false, Bool.false_eq_true, Bool.true_eq_false, decide_true, decide_false, ne_eq, reduceIte, Nat.reduceEqDiff, Option.some.injEq, Prod.mk.injEq, eq_self, n_inb, nI_clamp, w_hr, w_hk, w_hl, w_eq, w_ne, wl_hr, wl_hk, wl_hi, wl_eq, wl_ne, fa_lit, fa_litL, nI_add, pk_mul, nI_ltI, nI_leI, nI_eq, b01, b0, b1, Nat.reduceLeDiff, Nat.reduceAdd, Nat.reduceMul, Nat.reduceSub, Nat.lt_irrefl, Nat.reduceLT, f_ss, f_sR, f_sL, lc0, lc1, lc01, stI, stL, kt, t2, t3, z']
    · have z' : (nI K = nI 0) = False := by rw [nI_eq (by omega) (by decide)]; exact eq_false z
      by_cases y : S = 0
      · refine ⟨0, by decide, fun q => absurd q (Nat.lt_irrefl 0), ?_⟩
        rw [eXC]
        have y' : (nI S = nI 0) = True := by rw [y]; exact eq_self _
        simp (maxSteps := 4000000) (disch := omega) only [ob_t, ob_n, ob_ite, e_cI, e_cL, e_cR, e_vI, e_vL, e_vR, e_d2, e_d2_a, e_d2_b, e_d2z, e_d2z_a, e_d2z_b, e_d1, e_d1_a, e_GI, e_GI_a, e_GL, e_GL_a, e_GR, e_GR_a, e_AI, e_AI_a, e_AI_b, e_AB, e_AB_a, e_AB_b, e_AZ, e_AZ_a, e_AZ_b, e_AL, e_AL_a, e_AL_b, e_AR, e_AR_a, e_AR_b, e_Len, e_Len_a, e_CI, e_CI_a, e_CI_b, e_CZ, e_CZ_a, e_And, e_kAnd, e_Or, e_kOr, e_Not, e_kNot, e_B, e_kB, e_T, e_kT, e_NN, e_kNN, e_NewA, e_NewA_a, e_NewC, e_kNewC, e_aN, e_aI, e_aI_a, e_aI_b, e_aL, e_aL_a, e_aL_b, e_aR, e_aR_a, e_aR_b, e_Call, e_kCall, e_CallV, e_kCallV, e_SetI, e_kSetI, e_SetL, e_kSetL, e_SetR, e_kSetR, e_Inc, e_Skip, e_Brk, e_Cnt, e_Ret, e_kRet, e_Ret0, e_Seq, e_kSeq0, e_kSeq1, e_kSeq2, e_kSeqR, e_If, e_kIf, e_Do, e_kDo, e_Sup, e_kN0, e_d3, e_k3a, e_k3b, e_k3c, e_P, e_kPa, e_kPb, e_UA, e_kUAa, e_kUAb, e_kUAc, e_UL, e_kULa, e_kULb, e_kULc, e_UF, e_kUFa, e_kUFb, e_Cp, e_kCp, e_Sw, e_kSwa, e_kSwb0, e_kSwb1, e_kSwbR, e_M1, e_kM1, e_MZ, e_kMZ, e_MN, e_kMN, e_Tv, e_kTv, e_Tc, e_kTc, e_lpS, e_kLp, e_kLpB0, e_kLpB1, e_kLpB2, e_kLpBR, e_kLpU, e_dwS, e_kDwB0, e_kDwC, f_II, f_LL, f_RR, f_IL, f_IR, f_LI, f_LR, f_RI, f_RL, o_iadd, o_isub, o_imul, o_iand, o_ior, o_ixor, o_ladd, o_lsub, o_lmul, o_land, o_lor, o_i2b, o_i2s, o_lneg, o_imax, o_imin, r_lt, r_le, r_gt, r_ge, r_eq, r_ne, q_lt, q_le, q_gt, q_ge, q_eq, q_ne, decide_eq_true_eq, idI, and_true, true_and, and_false, false_and, or_true, true_or, or_false, false_or, not_true_eq_false, not_false_eq_true, if_true, if_false, ite_self, Bool.not_true, Bool.not_false, Bool.false_eq_true, Bool.true_eq_false, decide_true, decide_false, ne_eq, reduceIte, Nat.reduceEqDiff, Option.some.injEq, Prod.mk.injEq, eq_self, n_inb, nI_clamp, w_hr, w_hk, w_hl, w_eq, w_ne, wl_hr, wl_hk, wl_hi, wl_eq, wl_ne, fa_lit, fa_litL, nI_add, pk_mul, nI_ltI, nI_leI, nI_eq, b01, b0, b1, Nat.reduceLeDiff, Nat.reduceAdd, Nat.reduceMul, Nat.reduceSub, Nat.lt_irrefl, Nat.reduceLT, f_ss, f_sR, f_sL, lc0, lc1, lc01, stI, stL, kt, t2, t3, z', y']
      · have y' : (nI S = nI 0) = False := by rw [nI_eq (by omega) (by decide)]; exact eq_false y
        refine ⟨dw L xs 34 13, dw_lt L xs 34 (by decide), fun _ => ⟨by omega, by omega, hK0 (by omega)⟩, ?_⟩
        rw [eXC]
        simp (maxSteps := 4000000) (disch := omega) only [ob_t, ob_n, ob_ite, e_cI, e_cL, e_cR, e_vI, e_vL, e_vR, e_d2, e_d2_a, e_d2_b, e_d2z, e_d2z_a, e_d2z_b, e_d1, e_d1_a, e_GI, e_GI_a, e_GL, e_GL_a, e_GR, e_GR_a, e_AI, e_AI_a, e_AI_b, e_AB, e_AB_a, e_AB_b, e_AZ, e_AZ_a, e_AZ_b, e_AL, e_AL_a, e_AL_b, e_AR, e_AR_a, e_AR_b, e_Len, e_Len_a, e_CI, e_CI_a, e_CI_b, e_CZ, e_CZ_a, e_And, e_kAnd, e_Or, e_kOr, e_Not, e_kNot, e_B, e_kB, e_T, e_kT, e_NN, e_kNN, e_NewA, e_NewA_a, e_NewC, e_kNewC, e_aN, e_aI, e_aI_a, e_aI_b, e_aL, e_aL_a, e_aL_b, e_aR, e_aR_a, e_aR_b, e_Call, e_kCall, e_CallV, e_kCallV, e_SetI, e_kSetI, e_SetL, e_kSetL, e_SetR, e_kSetR, e_Inc, e_Skip, e_Brk, e_Cnt, e_Ret, e_kRet, e_Ret0, e_Seq, e_kSeq0, e_kSeq1, e_kSeq2, e_kSeqR, e_If, e_kIf, e_Do, e_kDo, e_Sup, e_kN0, e_d3, e_k3a, e_k3b, e_k3c, e_P, e_kPa, e_kPb, e_UA, e_kUAa, e_kUAb, e_kUAc, e_UL, e_kULa, e_kULb, e_kULc, e_UF, e_kUFa, e_kUFb, e_Cp, e_kCp, e_Sw, e_kSwa, e_kSwb0, e_kSwb1, e_kSwbR, e_M1, e_kM1, e_MZ, e_kMZ, e_MN, e_kMN, e_Tv, e_kTv, e_Tc, e_kTc, e_lpS, e_kLp, e_kLpB0, e_kLpB1, e_kLpB2, e_kLpBR, e_kLpU, e_dwS, e_kDwB0, e_kDwC, f_II, f_LL, f_RR, f_IL, f_IR, f_LI, f_LR, f_RI, f_RL, o_iadd, o_isub, o_imul, o_iand, o_ior, o_ixor, o_ladd, o_lsub, o_lmul, o_land, o_lor, o_i2b, o_i2s, o_lneg, o_imax, o_imin, r_lt, r_le, r_gt, r_ge, r_eq, r_ne, q_lt, q_le, q_gt, q_ge, q_eq, q_ne, decide_eq_true_eq, idI, and_true, true_and, and_false, false_and, or_true, true_or, or_false, false_or, not_true_eq_false, not_false_eq_true, if_true, if_false, ite_self, Bool.not_true, Bool.not_false, Bool.false_eq_true, Bool.true_eq_false, decide_true, decide_false, ne_eq, reduceIte, Nat.reduceEqDiff, Option.some.injEq, Prod.mk.injEq, eq_self, n_inb, nI_clamp, w_hr, w_hk, w_hl, w_eq, w_ne, wl_hr, wl_hk, wl_hi, wl_eq, wl_ne, fa_lit, fa_litL, nI_add, pk_mul, nI_ltI, nI_leI, nI_eq, b01, b0, b1, Nat.reduceLeDiff, Nat.reduceAdd, Nat.reduceMul, Nat.reduceSub, Nat.lt_irrefl, Nat.reduceLT, f_ss, f_sR, f_sL, lc0, lc1, lc01, stI, stL, kt, t2, t3, z', y', r]
  obtain ⟨g5', eg5⟩ : ∃ x, x = wI g5 124 5 (nI C) := ⟨_, rfl⟩
  have J5' : PJ L xs g5' ts5 P5 Q (tv d lw H K S C) := by
    rw [eg5]
    refine J5.tw 5 C (fun j hj => ?_)
    match j, hj with
    | 0, _ => rfl
    | 1, _ => rfl
    | 2, _ => rfl
    | 3, _ => rfl
    | 4, _ => rfl
    | 5, _ => rfl
    | 6, _ => rfl
    | 7, _ => rfl
  obtain ⟨g6, ts6, P6, L6, J6, N6, c6⟩ := x_p6 hH hW hK hS hC hC0 J5' N5
  obtain ⟨X6, T6, ln6, p06, le6, A6⟩ := J6
  obtain ⟨g7, k, L7, T7, hk7⟩ := x_lrest X6.1 T6
  have X7 := X6.tx T7
  have A7 := A6.ch T7.2.2 (fun o h1 h2 z => by unfold pD at z; omega)
  obtain ⟨i7, sc7, th7, at7, au7⟩ := X7
  obtain ⟨y1, y2, y3, y4, y5, y6, y7⟩ := T7.1
  obtain ⟨n, en⟩ : ∃ n, n = (tBs ts6 ++ List.replicate k 32).length := ⟨_, rfl⟩
  have el : n = (tBs ts6).length + k := by rw [en, List.length_append, List.length_replicate]
  rw [← en] at y1 y4 y5
  rw [show n - n % 20 = n by omega] at y4 y5
  obtain ⟨n1, n2, n4, n5, n6, n7, n9, n92, n0⟩ := N6
  obtain ⟨g8, L8, I8⟩ := c_port (B := fun j => nI ((tBs ts6 ++ List.replicate k 32).getD j 0)) (P1 := P6) i7 th7 y1 y4 y5 (ln_all ln6 ⟨by rw [Nat.zero_add, ← en], fun i hi1 => by rw [Nat.zero_add]⟩)
  have c8 : Ch pE g7 g8 := ⟨I8.cn.1, fun o ho => I8.cn.2 o (fun z => ho (by unfold pE; omega))⟩
  have c8' : Ch (fun o => 31 ≤ o ∧ o < 122) g7 g8 := ⟨I8.cn.1, fun o ho => I8.cn.2 o ho⟩
  have I9 : Inv g8 g8 (finP P6) := I8.rb
  refine ⟨g8, P6, ?_, I9, sc7.ch c8' (by omega), ?_, au7.ch c8' (by omega), A7.ch c8' (fun o h1 h2 z => by omega), n92, by omega, by omega, fun q => ?_, fun q => ?_, by omega, ?_⟩
  · have eB : BL_port_ = (dSeq (d3 (stI 13 idI) (vR 4) (cI 0) (d2 o_iadd (cI 1) (dCall DL_draw (aI (aI (aR aN 0 (vR 1)) 1 (cI 0)) 2 (cI 12))))) (dSeq (d3 (stI 13 idI) (vR 4) (cI 1) (dCall DL_draw (aI (aI (aR aN 0 (vR 1)) 1 (cI 1)) 2 (cI 4)))) (dSeq (d3 (stI 13 idI) (vR 3) (cI 0) (dCall DL_draw (aI (aI (aR aN 0 (vR 1)) 1 (cI 2)) 2 (cI 11)))) (dSeq (dDo (dCall DL_port (aI (aI (aI (aR (aR aN 0 (vR 0)) 1 (vR 2)) 2 (dAI (vR 4) (cI 0))) 3 (dAI (vR 4) (cI 1))) 4 (dAI (vR 3) (cI 0))))) (dSeq (d3 (stI 13 idI) (vR 4) (cI 2) (dCall DL_draw (aI (aI (aR aN 0 (vR 1)) 1 (cI 3)) 2 (cI 8)))) (dSeq (dSeq (dSetI 10 (cI 0)) LL_port__1) (dSeq (dSetI 10 XW) (dSeq (dSeq (dSetI 11 (cI 0)) LL_port__2) (dSeq (d3 (stI 13 idI) (vR 4) (cI 3) XK) (dSeq (dSeq (dSetI 11 (cI 0)) LL_port__3) (dSeq (d3 (stI 13 idI) (vR 4) (cI 4) XS) (dSeq (dSeq (dSetI 11 (cI 0)) LL_port__5) (dSeq (d3 (stI 13 idI) (vR 4) (cI 5) XC) (dSeq (dSeq (dSetI 11 (cI 0)) LL_port__6) (dSeq (dDo (dCall DL_rest (aR (aR aN 0 (vR 0)) 1 (vR 2)))) (dRet (dB (dCI r_eq (dCallV 11 DX11_port (aR aN 0 (vR 0))) (d2 o_iadd (d2 o_iadd (d2 o_iadd (d2 o_iadd (d2 o_iadd (cI 1) (dAI (vR 4) (cI 2))) (vI 10)) (dAI (vR 4) (cI 3))) (dAI (vR 4) (cI 4))) (dAI (vR 4) (cI 5))))))))))))))))))))) := by
      rw [eXW, eXK, eXS, eXC]
      rfl
    have k1 := at_.1
    have k1a : hk ha 124 = (13, 8) := by rw [eha]; exact k1
    have k1b : hk hb 123 = (13, 1) := by rw [ehb, eha]; exact au.1
    have kc := atc.1
    have kuc := auc.1
    have c0' : hi hc 124 0 = nI d := atc.2 0 (by decide)
    have c1' : hi hc 124 1 = nI lw := atc.2 1 (by decide)
    have c2' : hi hc 123 0 = nI od := auc.2 0 (by decide)
    have q1 := x1.2.2.2.1.1
    have q3 := J3.1.2.2.2.1.1
    have q4 := J4.1.2.2.2.1.1
    have q5 := J5.1.2.2.2.1.1
    have at8 := at7.ch c8' (by omega)
    have q8 := at8.1
    have u2 : hi g8 124 2 = nI H := at8.2 2 (by decide)
    have u3 : hi g8 124 3 = nI K := at8.2 3 (by decide)
    have u4 : hi g8 124 4 = nI S := at8.2 4 (by decide)
    have u5 : hi g8 124 5 = nI C := at8.2 5 (by decide)
    have kX : hk g7 31 = (11, 0) := i7.co.koX
    have L8' : DX11_port (sR fr0 0 31) g7 = some (nI (1 + H + W + K + S + C), g8) := by rw [← n0]; exact L8
    have dd : nI 1 + nI (dw L xs 0 12) = nI d := by rw [nI_add, ed]
    simp (maxSteps := 4000000) (disch := omega) only [ob_t, ob_n, ob_ite, e_cI, e_cL, e_cR, e_vI, e_vL, e_vR, e_d2, e_d2_a, e_d2_b, e_d2z, e_d2z_a, e_d2z_b, e_d1, e_d1_a, e_GI, e_GI_a, e_GL, e_GL_a, e_GR, e_GR_a, e_AI, e_AI_a, e_AI_b, e_AB, e_AB_a, e_AB_b, e_AZ, e_AZ_a, e_AZ_b, e_AL, e_AL_a, e_AL_b, e_AR, e_AR_a, e_AR_b, e_Len, e_Len_a, e_CI, e_CI_a, e_CI_b, e_CZ, e_CZ_a, e_And, e_kAnd, e_Or, e_kOr, e_Not, e_kNot, e_B, e_kB, e_T, e_kT, e_NN, e_kNN, e_NewA, e_NewA_a, e_NewC, e_kNewC, e_aN, e_aI, e_aI_a, e_aI_b, e_aL, e_aL_a, e_aL_b, e_aR, e_aR_a, e_aR_b, e_Call, e_kCall, e_CallV, e_kCallV, e_SetI, e_kSetI, e_SetL, e_kSetL, e_SetR, e_kSetR, e_Inc, e_Skip, e_Brk, e_Cnt, e_Ret, e_kRet, e_Ret0, e_Seq, e_kSeq0, e_kSeq1, e_kSeq2, e_kSeqR, e_If, e_kIf, e_Do, e_kDo, e_Sup, e_kN0, e_d3, e_k3a, e_k3b, e_k3c, e_P, e_kPa, e_kPb, e_UA, e_kUAa, e_kUAb, e_kUAc, e_UL, e_kULa, e_kULb, e_kULc, e_UF, e_kUFa, e_kUFb, e_Cp, e_kCp, e_Sw, e_kSwa, e_kSwb0, e_kSwb1, e_kSwbR, e_M1, e_kM1, e_MZ, e_kMZ, e_MN, e_kMN, e_Tv, e_kTv, e_Tc, e_kTc, e_lpS, e_kLp, e_kLpB0, e_kLpB1, e_kLpB2, e_kLpBR, e_kLpU, e_dwS, e_kDwB0, e_kDwC, f_II, f_LL, f_RR, f_IL, f_IR, f_LI, f_LR, f_RI, f_RL, o_iadd, o_isub, o_imul, o_iand, o_ior, o_ixor, o_ladd, o_lsub, o_lmul, o_land, o_lor, o_i2b, o_i2s, o_lneg, o_imax, o_imin, r_lt, r_le, r_gt, r_ge, r_eq, r_ne, q_lt, q_le, q_gt, q_ge, q_eq, q_ne, decide_eq_true_eq, idI, and_true, true_and, and_false, false_and, or_true, true_or, or_false, false_or, not_true_eq_false, not_false_eq_true, if_true, if_false, ite_self, Bool.not_true, Bool.not_false, Bool.false_eq_true, Bool.true_eq_false, decide_true, decide_false, ne_eq, reduceIte, Nat.reduceEqDiff, Option.some.injEq, Prod.mk.injEq, eq_self, n_inb, nI_clamp, w_hr, w_hk, w_hl, w_eq, w_ne, wl_hr, wl_hk, wl_hi, wl_eq, wl_ne, fa_lit, fa_litL, nI_add, pk_mul, nI_ltI, nI_leI, nI_eq, b01, b0, b1, Nat.reduceLeDiff, Nat.reduceAdd, Nat.reduceMul, Nat.reduceSub, Nat.lt_irrefl, Nat.reduceLT, f_ss, f_sR, f_sL, lc0, lc1, lc01, stI, stL, DL_port_, eB, k1, r0, dd, ← eha, k1a, r1, ← ehb, k1b, r2, ← ehc, kc, kuc, c0', c1', c2', b1, q1, r3, ← eg1, L2, tW, L3, tK, q3, ← eg3, L4, tS, q4, ← eg4, L5, tC, q5, ← eg5, L6, L7, kX, L8', q8, u2, u3, u4, u5]
  · have := at7.ch c8' (by omega)
    rw [n1, n2, n4, n6, n7, n9]
    exact this
  · rw [n4]
    exact hK0 (by omega)
  · rw [n4]
    exact hS0 (by omega)
  · have m1 : ∀ o, (o = 123 ∨ o = 124) → pE o := fun o z => by unfold pE; omega
    have m2 : ∀ o, o = 124 → pE o := fun o z => by unfold pE; omega
    have m3 : ∀ o, pD o → pE o := fun o z => by unfold pD at z; unfold pE; omega
    have w1 : Ch pE g1 g1' := by rw [eg1]; exact Ch.w (D := pE) (by unfold pE; omega) _ _ _
    have w3 : Ch pE g3 g3' := by rw [eg3]; exact Ch.w (D := pE) (by unfold pE; omega) _ _ _
    have w4 : Ch pE g4 g4' := by rw [eg4]; exact Ch.w (D := pE) (by unfold pE; omega) _ _ _
    have w5 : Ch pE g5 g5' := by rw [eg5]; exact Ch.w (D := pE) (by unfold pE; omega) _ _ _
    exact (((((((((((((c0.mono m1).tr (T1.2.2.mono m3)).tr w1).tr c2).tr c3).tr w3).tr c4).tr w4).tr c5).tr w5).tr c6).tr (T7.2.2.mono m3)).tr c8)
end
