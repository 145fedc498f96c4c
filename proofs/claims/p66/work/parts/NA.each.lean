set_option maxRecDepth 100000
set_option maxHeartbeats 4000000
/-! the law: each slate -/
theorem fh_ft {P : PT} {s d v : Nat} {val : Nat → Int64} (v0 : lnat (val 0) = d) (v1 : lnat (val 1) = v) : ∀ x, fhN P s val 1 x = ftN P s d v x
  | 0 => rfl
  | x + 1 => by
    have ih := fh_ft (P := P) (s := s) v0 v1 x
    have e : asS val (lyT P s x) 1 = true ↔ lyT P s x d = v := by
      rw [asS_all]
      refine ⟨fun q => ?_, fun q j hj => ?_⟩
      · have := q 0 (by decide)
        rw [Nat.mul_zero, v0, Nat.zero_add, v1] at this
        exact this
      · rw [show j = 0 by omega, Nat.mul_zero, v0, Nat.zero_add, v1]
        exact q
    show (if asS val (lyT P s x) 1 = true then fhN P s val 1 x ||| 2 ^ x else fhN P s val 1 x) = if lyT P s x d = v then ftN P s d v x ||| 2 ^ x else ftN P s d v x
    rw [ih]
    by_cases y : lyT P s x d = v
    · rw [if_pos y, if_pos (e.mpr y)]
    · rw [if_neg y, if_neg (fun q => y (e.mp q))]
theorem ln_le {a b : Nat} (ha : a < 2 ^ 63) (hb : b < 2 ^ 63) : (lN a ≤ lN b) ↔ a ≤ b := by
  rw [Int64.le_iff_toInt_le, pk_lT ha, pk_lT hb]
  omega
theorem ln_lt {a b : Nat} (ha : a < 2 ^ 63) (hb : b < 2 ^ 63) : (lN a < lN b) ↔ a < b := by
  rw [Int64.lt_iff_toInt_lt, pk_lT ha, pk_lT hb]
  omega
section
variable {L : Nat} {xs : Nat → Int32} {h g : St} {P C C' : PT} {a b : Nat}
theorem x_asks (H : LW L xs h P C a b) {l d v : Nat} (hlt : l < P 0 7) (hd : d ≤ P 0 1) (hv : v < P 0 4) : ∃ g0 g1 g2 g3, DX11_row (sI (sI (sI (sR fr0 0 31) 1 (nI 0)) 2 (nI 0)) 3 (nI 2)) h = some (nI 0, g0) ∧ DX11_write (sL (sI (sI (sR fr0 0 31) 1 (nI 0)) 2 (nI 0)) 3 (lN d)) g0 = some (nI 0, g1) ∧ DX11_write (sL (sI (sI (sR fr0 0 31) 1 (nI 0)) 2 (nI 1)) 3 (lN v)) g1 = some (nI 0, g2) ∧ DX11_firsts (sI (sI (sR fr0 0 31) 1 (nI 0)) 2 (nI l)) g2 = some (nI (ftN P l d v (P 0 4)), g3) ∧ hk g0 31 = (11, 0) ∧ hk g1 31 = (11, 0) ∧ hk g2 31 = (11, 0) ∧ LW L xs g3 P C a b := by
  have hW := H.1.w
  have hb := hW.all
  obtain ⟨g0, x0, I0, r1, r2⟩ := c_row H.1
  have H0 := H.call I0
  obtain ⟨x1, I1⟩ := c_write H0.1 (i := 0) (v := d) (by decide) (by omega) r1 r2
  have H1 := H0.call I1
  obtain ⟨x2, I2⟩ := c_write H1.1 (i := 1) (v := v) (by decide) (by omega) r1 r2
  have H2 := H1.call I2
  obtain ⟨g2, eg⟩ : ∃ z, z = wL (wL g0 71 0 (lN d)) 71 1 (lN v) := ⟨_, rfl⟩
  rw [← eg] at x2 I2 H2
  have u0 : hl g2 71 0 = lN d := by rw [eg, wl_ne (by omega), wl_eq]
  have u1 : hl g2 71 1 = lN v := by rw [eg, wl_eq]
  have z0 : lnat (hl g2 71 0) = d := by rw [u0]; unfold lnat; rw [pk_lT (by omega)]; rfl
  have z1 : lnat (hl g2 71 1) = v := by rw [u1]; unfold lnat; rw [pk_lT (by omega)]; rfl
  have ok : okS P (hl g2 71 0) (hl g2 71 1) := by
    rw [u0, u1]
    unfold okS
    rw [ln_lt (by omega) (by decide), ln_lt (by omega) (by omega), ln_lt (by omega) (by decide), ln_le (by omega) (by omega)]
    omega
  obtain ⟨g3, x3, I3⟩ := c_firsts H2.1 (s := l) (n2 := 1) (val := fun k => hl g2 71 k) hlt (by decide) ⟨by rw [eg]; exact r1, by rw [eg]; exact r2, fun k hk1 => by rw [Nat.mul_zero, Nat.zero_add]⟩ (fun j hj => by
    rw [show j = 0 by omega]
    exact ok)
  rw [fh_ft z0 z1] at x3
  exact ⟨g0, _, g2, g3, x0, x1, x2, x3, H0.1.co.koX, H1.1.co.koX, H2.1.co.koX, H2.call I3⟩
section
variable {D S A : Nat}
theorem LW.back (H : LW L xs h P C a b) {i v : Nat} (e : ∀ tf, tR P C tf → tR P (told P) (fuN tf i v)) (e4 : C 0 4 = 0) (e5 : C 0 5 = 0) : LW L xs (wI h 124 i (nI v)) P (told P) a b := H.tw e (by rw [e4]; rfl) (by rw [e5]; rfl)
theorem x_l12 (H : LW L xs h P (told P) a b) (eD : D = P 0 1) (eS : S = P 0 7) : ∃ g, Llaw_12 (sI (sI (sR (sR (sR (sR (sR (sI (sI (sR (sR (sR (sR (sR (sR (sR (sR (sR (sR fr0 0 1) 1 31) 2 122) 3 123) 4 124) 5 125) 6 126) 7 127) 8 128) 9 129) 10 (nI D)) 11 (nI S)) 12 130) 13 131) 14 132) 15 133) 16 134) 17 (nI A)) 18 (nI 0)) h = some (.inl 0, sI (sI (sR (sR (sR (sR (sR (sI (sI (sR (sR (sR (sR (sR (sR (sR (sR (sR (sR fr0 0 1) 1 31) 2 122) 3 123) 4 124) 5 125) 6 126) 7 127) 8 128) 9 129) 10 (nI D)) 11 (nI S)) 12 130) 13 131) 14 132) 15 133) 16 134) 17 (nI A)) 18 (nI S), g) ∧ LW L xs g P (told P) (a + 34 * S) (b + 102 * S) := by
  have hW := H.1.w
  have hb := hW.all
  unfold Llaw_12
  refine loop_g (fun k => sI (sI (sR (sR (sR (sR (sR (sI (sI (sR (sR (sR (sR (sR (sR (sR (sR (sR (sR fr0 0 1) 1 31) 2 122) 3 123) 4 124) 5 125) 6 126) 7 127) 8 128) 9 129) 10 (nI D)) 11 (nI S)) 12 130) 13 131) 14 132) 15 133) 16 134) 17 (nI A)) 18 (nI k)) (fun k g => LW L xs g P (told P) (a + 34 * k) (b + 102 * k)) S rfl H (fun l g hlS hI => ?_) (fun g hI => ?_)
  · have hlt : l < P 0 7 := by omega
    have sl := hW.sl hlt
    obtain ⟨⟨tf, t1, t2⟩, -⟩ := hI.2.2.1
    have kt := t1.1
    have v1 : hi g 124 1 = nI (P 0 2) := by rw [t1.2 1 (by decide), t2.2.1]; rfl
    obtain ⟨g1, C1, x1, H1, y1, y2, y3, y4, y5⟩ := x_l7 (D := D) (S := S) (A := A) (F := nI (P 0 2)) hI ⟨rfl, rfl, rfl, rfl, rfl⟩ hlt eD
    obtain ⟨g2, eg2⟩ : ∃ z, z = wI g1 124 1 (nI (P 0 2)) := ⟨_, rfl⟩
    have H2 : LW L xs g2 P (told P) (a + 34 * l + 8) (b + 102 * l + 24) := by
      rw [eg2]
      refine H1.back (fun tf ⟨t0, t1, t2, t3, t4, t5, t6, t7⟩ => ⟨t0, rfl, t2, t3, t4, t5, ?_, ?_⟩) y4 y5
      · show tf 6 = 0
        rw [t6, y3]
      · show tf 7 = 0
        rw [t7, y2]
    have kt1 : hk g1 124 = (13, 8) := by obtain ⟨⟨tf, t1, -⟩, -⟩ := H1.2.2.1; exact t1.1
    obtain ⟨d, ed⟩ : ∃ d, d = dw L xs 59 (D + 1) := ⟨_, rfl⟩
    have hd : d ≤ P 0 1 := by
      have := dw_lt L xs 59 (n := D + 1) (by omega)
      omega
    have dr : DL_draw (sI (sI (sR fr0 0 1) 1 (nI 59)) 2 (nI (D + 1))) g2 = some (nI d, g2) := by
      rw [ed]
      exact x_draw H2.2.1 (by decide) (by omega) (by omega)
    obtain ⟨g3, x3, H3, G3, -⟩ := H2.run (told_w hW) rfl
    obtain ⟨v, ev⟩ : ∃ v, v = runN P (told P) d 2 l := ⟨_, rfl⟩
    have hv : v < P 0 4 := by
      rw [ev]
      exact (WFB_run hW (told_w hW) d).2.2.2.2.1 l hlt
    have k131 : hk g3 131 = (13, 13) := H3.2.2.1.2.2.2.2.2.2.1.2.1
    obtain ⟨-, ⟨m, m1, m2, m3⟩, -⟩ := G3.1 d hd
    have a1 := x_lies (h := g3) m (s := l) (by omega) (by omega)
    rw [show m / 2 ^ (10 * l) % 16 = v from ((m3 l hlt).1).trans ev.symm] at a1
    obtain ⟨-, -, -, -, -, ⟨ff, f1, f2⟩, -⟩ := H3.2.2.1
    have kf := f1.1
    have fl : hi g3 129 l = nI (P 6 l) := by rw [f1.2 _ (by omega), (f2 l hlt).1, fsS_told]
    obtain ⟨g4, C4, x4, H4, z0, z1, z2, z3, z4⟩ := x_l8 (D := D) (S := S) (A := A) (F := nI (P 0 2)) (F22 := nI (P 6 l)) H3 hlt hd (v := v) (by omega)
    obtain ⟨g5, eg5⟩ : ∃ z, z = wI g4 129 l (nI (P 6 l)) := ⟨_, rfl⟩
    have H5 : LW L xs g5 P (told P) (a + 34 * l + 8 + 2 + 16) (b + 102 * l + 24 + 6 + 48) := by
      rw [eg5]
      refine H4.fw (fun tf ⟨t0, t1, t2, t3, t4, t5, t6, t7⟩ => ⟨t0, ?_, t2, t3, t4, t5, ?_, ?_⟩) (fun s hs => ?_) hlt
      · rw [t1, z0]; rfl
      · rw [t6, z3]; rfl
      · rw [t7, z2]; rfl
      · rw [fsS_told]
        by_cases y : s = l
        · rw [if_pos y, y]
        · rw [if_neg y, z4 s hs y]
    have kf4 : hk g4 129 = (13, 6) := by obtain ⟨-, -, -, -, -, ⟨ff, f1, -⟩, -⟩ := H4.2.2.1; exact f1.1
    obtain ⟨q0, q1, q2, q3, w0, w1, w2, w3, k0, k1, k2, H6⟩ := x_asks H5 hlt hd hv
    have kX5 : hk g5 31 = (11, 0) := H5.1.co.koX
    have i1 : o_i2l (nI d) = lN d := ol_i2l (by omega)
    have i2 : o_i2l (nI v) = lN v := ol_i2l (by omega)
    obtain ⟨fits, ef⟩ : ∃ n, n = ftN P l d v (P 0 4) := ⟨_, rfl⟩
    rw [← ef] at x4 w3
    obtain ⟨g7, x7, H7⟩ := x_l10 (D := D) (S := S) (A := A) (F19 := nI (P 0 2)) (F20 := nI d) (F21 := nI v) (F22 := nI (P 6 l)) (F23 := nI fits) H6 hlt
    obtain ⟨⟨tf7, t71, t72⟩, -⟩ := H7.2.2.1
    have kt7 := t71.1
    have v72 : hi g7 124 2 = nI (P 0 4) := by rw [t71.2 2 (by decide), t72.2.2.1]
    by_cases big : 1 < P 0 4
    · obtain ⟨p, ep⟩ : ∃ p, p = dw L xs 60 (P 0 4) := ⟨_, rfl⟩
      have hp : p < P 0 4 := by rw [ep]; exact dw_lt _ _ _ (by omega)
      have dr2 : DL_draw (sI (sI (sR fr0 0 1) 1 (nI 60)) 2 (nI (P 0 4))) g7 = some (nI p, g7) := by
        rw [ep]
        exact x_draw H7.2.1 (by decide) (by omega) (by omega)
      obtain ⟨q, eq⟩ : ∃ q, q = (p + 1) % P 0 4 := ⟨_, rfl⟩
      obtain ⟨hne, hq⟩ := mod_ne (x := p) (r := 0) (H := P 0 4) hp (by omega)
      rw [Nat.add_zero, ← eq] at hne hq
      have m4 : o_irem (nI (p + 1)) (nI (P 0 4)) = nI q := by rw [eq]; exact q_irem (by omega) (by omega) (by omega)
      obtain ⟨g8, C8, x8, H8, u0, u1, u3, u4, u5⟩ := x_l11 (D := D) (S := S) (A := A) (F19 := nI (P 0 2)) (F20 := nI d) (F21 := nI v) (F22 := nI (P 6 l)) (F23 := nI fits) H7 hlt eD hp hq (fun z => hne z.symm)
      obtain ⟨g9, eg9⟩ : ∃ z, z = wI g8 124 7 (nI 0) := ⟨_, rfl⟩
      have H9 : LW L xs g9 P (told P) (a + 34 * l + 8 + 2 + 16 + 8) (b + 102 * l + 24 + 6 + 48 + 24) := by
        rw [eg9]
        refine H8.back (fun tf ⟨t0, t1, t2, t3, t4, t5, t6, t7⟩ => ⟨t0, ?_, t2, t3, t4, t5, ?_, rfl⟩) u4 u5
        · show tf 1 = P 0 2
          rw [t1, u0]
        · show tf 6 = 0
          rw [t6, u3]
      have kt8 : hk g8 124 = (13, 8) := by obtain ⟨⟨tf, t1, -⟩, -⟩ := H8.2.2.1; exact t1.1
      have zH : (P 0 4 = 0) = False := eq_false (by omega)
      refine ⟨g9, ?_, H9.le (by omega) (by omega)⟩
      simp (maxSteps := 4000000) (disch := omega) only [ob_t, ob_n, ob_ite, e_cI, e_cL, e_cR, e_vI, e_vL, e_vR, e_d2, e_d2_a, e_d2_b, e_d2z, e_d2z_a, e_d2z_b, e_d1, e_d1_a, e_GI, e_GI_a, e_GL, e_GL_a, e_GR, e_GR_a, e_AI, e_AI_a, e_AI_b, e_AB, e_AB_a, e_AB_b, e_AZ, e_AZ_a, e_AZ_b, e_AL, e_AL_a, e_AL_b, e_AR, e_AR_a, e_AR_b, e_Len, e_Len_a, e_CI, e_CI_a, e_CI_b, e_CZ, e_CZ_a, e_And, e_kAnd, e_Or, e_kOr, e_Not, e_kNot, e_B, e_kB, e_T, e_kT, e_NN, e_kNN, e_NewA, e_NewA_a, e_NewC, e_kNewC, e_aN, e_aI, e_aI_a, e_aI_b, e_aL, e_aL_a, e_aL_b, e_aR, e_aR_a, e_aR_b, e_Call, e_kCall, e_CallV, e_kCallV, e_SetI, e_kSetI, e_SetL, e_kSetL, e_SetR, e_kSetR, e_Inc, e_Skip, e_Brk, e_Cnt, e_Ret, e_kRet, e_Ret0, e_Seq, e_kSeq0, e_kSeq1, e_kSeq2, e_kSeqR, e_If, e_kIf, e_Do, e_kDo, e_Sup, e_kN0, e_d3, e_k3a, e_k3b, e_k3c, e_P, e_kPa, e_kPb, e_UA, e_kUAa, e_kUAb, e_kUAc, e_UL, e_kULa, e_kULb, e_kULc, e_UF, e_kUFa, e_kUFb, e_Cp, e_kCp, e_Sw, e_kSwa, e_kSwb0, e_kSwb1, e_kSwbR, e_M1, e_kM1, e_MZ, e_kMZ, e_MN, e_kMN, e_Tv, e_kTv, e_Tc, e_kTc, e_lpS, e_kLp, e_kLpB0, e_kLpB1, e_kLpB2, e_kLpBR, e_kLpU, e_dwS, e_kDwB0, e_kDwC, f_II, f_LL, f_RR, f_IL, f_IR, f_LI, f_LR, f_RI, f_RL, o_iadd, o_isub, o_imul, o_iand, o_ior, o_ixor, o_ladd, o_lsub, o_lmul, o_land, o_lor, o_i2b, o_i2s, o_lneg, o_imax, o_imin, r_lt, r_le, r_gt, r_ge, r_eq, r_ne, q_lt, q_le, q_gt, q_ge, q_eq, q_ne, decide_eq_true_eq, idI, and_true, true_and, and_false, false_and, or_true, true_or, or_false, false_or, not_true_eq_false, not_false_eq_true, if_true, if_false, ite_self, Bool.not_true, Bool.not_false, Bool.false_eq_true, Bool.true_eq_false, decide_true, decide_false, ne_eq, reduceIte, Nat.reduceEqDiff, Option.some.injEq, Prod.mk.injEq, eq_self, n_inb, nI_clamp, w_hr, w_hk, w_hl, w_eq, w_ne, wl_hr, wl_hk, wl_hi, wl_eq, wl_ne, fa_lit, fa_litL, nI_add, pk_mul, nI_ltI, nI_leI, nI_eq, b01, b0, b1, Nat.reduceLeDiff, Nat.reduceAdd, Nat.reduceMul, Nat.reduceSub, Nat.lt_irrefl, Nat.reduceLT, f_ss, f_sR, f_sL, lc0, lc1, lc01, stI, stL, hlS, kt, v1, x1, kt1, ← eg2, dr, x3, k131, m1, a1, kf, fl, x4, kf4, ← eg5, kX5, w0, i1, k0, w1, i2, k1, w2, k2, w3, x7, kt7, v72, big, dr2, zH, m4, x8, kt8, ← eg9]
    · refine ⟨g7, ?_, H7.le (by omega) (by omega)⟩
      simp (maxSteps := 4000000) (disch := omega) only [ob_t, ob_n, ob_ite, e_cI, e_cL, e_cR, e_vI, e_vL, e_vR, e_d2, e_d2_a, e_d2_b, e_d2z, e_d2z_a, e_d2z_b, e_d1, e_d1_a, e_GI, e_GI_a, e_GL, e_GL_a, e_GR, e_GR_a, e_AI, e_AI_a, e_AI_b, e_AB, e_AB_a, e_AB_b, e_AZ, e_AZ_a, e_AZ_b, e_AL, e_AL_a, e_AL_b, e_AR, e_AR_a, e_AR_b, e_Len, e_Len_a, e_CI, e_CI_a, e_CI_b, e_CZ, e_CZ_a, e_And, e_kAnd, e_Or, e_kOr, e_Not, e_kNot, e_B, e_kB, e_T, e_kT, e_NN, e_kNN, e_NewA, e_NewA_a, e_NewC, e_kNewC, e_aN, e_aI, e_aI_a, e_aI_b, e_aL, e_aL_a, e_aL_b, e_aR, e_aR_a, e_aR_b, e_Call, e_kCall, e_CallV, e_kCallV, e_SetI, e_kSetI, e_SetL, e_kSetL, e_SetR, e_kSetR, e_Inc, e_Skip, e_Brk, e_Cnt, e_Ret, e_kRet, e_Ret0, e_Seq, e_kSeq0, e_kSeq1, e_kSeq2, e_kSeqR, e_If, e_kIf, e_Do, e_kDo, e_Sup, e_kN0, e_d3, e_k3a, e_k3b, e_k3c, e_P, e_kPa, e_kPb, e_UA, e_kUAa, e_kUAb, e_kUAc, e_UL, e_kULa, e_kULb, e_kULc, e_UF, e_kUFa, e_kUFb, e_Cp, e_kCp, e_Sw, e_kSwa, e_kSwb0, e_kSwb1, e_kSwbR, e_M1, e_kM1, e_MZ, e_kMZ, e_MN, e_kMN, e_Tv, e_kTv, e_Tc, e_kTc, e_lpS, e_kLp, e_kLpB0, e_kLpB1, e_kLpB2, e_kLpBR, e_kLpU, e_dwS, e_kDwB0, e_kDwC, f_II, f_LL, f_RR, f_IL, f_IR, f_LI, f_LR, f_RI, f_RL, o_iadd, o_isub, o_imul, o_iand, o_ior, o_ixor, o_ladd, o_lsub, o_lmul, o_land, o_lor, o_i2b, o_i2s, o_lneg, o_imax, o_imin, r_lt, r_le, r_gt, r_ge, r_eq, r_ne, q_lt, q_le, q_gt, q_ge, q_eq, q_ne, decide_eq_true_eq, idI, and_true, true_and, and_false, false_and, or_true, true_or, or_false, false_or, not_true_eq_false, not_false_eq_true, if_true, if_false, ite_self, Bool.not_true, Bool.not_false, Bool.false_eq_true, Bool.true_eq_false, decide_true, decide_false, ne_eq, reduceIte, Nat.reduceEqDiff, Option.some.injEq, Prod.mk.injEq, eq_self, n_inb, nI_clamp, w_hr, w_hk, w_hl, w_eq, w_ne, wl_hr, wl_hk, wl_hi, wl_eq, wl_ne, fa_lit, fa_litL, nI_add, pk_mul, nI_ltI, nI_leI, nI_eq, b01, b0, b1, Nat.reduceLeDiff, Nat.reduceAdd, Nat.reduceMul, Nat.reduceSub, Nat.lt_irrefl, Nat.reduceLT, f_ss, f_sR, f_sL, lc0, lc1, lc01, stI, stL, hlS, kt, v1, x1, kt1, ← eg2, dr, x3, k131, m1, a1, kf, fl, x4, kf4, ← eg5, kX5, w0, i1, k0, w1, i2, k1, w2, k2, w3, x7, kt7, v72, big]
  · refine lp_out ?_
    simp (maxSteps := 4000000) (disch := omega) only [ob_t, ob_n, ob_ite, e_cI, e_cL, e_cR, e_vI, e_vL, e_vR, e_d2, e_d2_a, e_d2_b, e_d2z, e_d2z_a, e_d2z_b, e_d1, e_d1_a, e_GI, e_GI_a, e_GL, e_GL_a, e_GR, e_GR_a, e_AI, e_AI_a, e_AI_b, e_AB, e_AB_a, e_AB_b, e_AZ, e_AZ_a, e_AZ_b, e_AL, e_AL_a, e_AL_b, e_AR, e_AR_a, e_AR_b, e_Len, e_Len_a, e_CI, e_CI_a, e_CI_b, e_CZ, e_CZ_a, e_And, e_kAnd, e_Or, e_kOr, e_Not, e_kNot, e_B, e_kB, e_T, e_kT, e_NN, e_kNN, e_NewA, e_NewA_a, e_NewC, e_kNewC, e_aN, e_aI, e_aI_a, e_aI_b, e_aL, e_aL_a, e_aL_b, e_aR, e_aR_a, e_aR_b, e_Call, e_kCall, e_CallV, e_kCallV, e_SetI, e_kSetI, e_SetL, e_kSetL, e_SetR, e_kSetR, e_Inc, e_Skip, e_Brk, e_Cnt, e_Ret, e_kRet, e_Ret0, e_Seq, e_kSeq0, e_kSeq1, e_kSeq2, e_kSeqR, e_If, e_kIf, e_Do, e_kDo, e_Sup, e_kN0, e_d3, e_k3a, e_k3b, e_k3c, e_P, e_kPa, e_kPb, e_UA, e_kUAa, e_kUAb, e_kUAc, e_UL, e_kULa, e_kULb, e_kULc, e_UF, e_kUFa, e_kUFb, e_Cp, e_kCp, e_Sw, e_kSwa, e_kSwb0, e_kSwb1, e_kSwbR, e_M1, e_kM1, e_MZ, e_kMZ, e_MN, e_kMN, e_Tv, e_kTv, e_Tc, e_kTc, e_lpS, e_kLp, e_kLpB0, e_kLpB1, e_kLpB2, e_kLpBR, e_kLpU, e_dwS, e_kDwB0, e_kDwC, f_II, f_LL, f_RR, f_IL, f_IR, f_LI, f_LR, f_RI, f_RL, o_iadd, o_isub, o_imul, o_iand, o_ior, o_ixor, o_ladd, o_lsub, o_lmul, o_land, o_lor, o_i2b, o_i2s, o_lneg, o_imax, o_imin, r_lt, r_le, r_gt, r_ge, r_eq, r_ne, q_lt, q_le, q_gt, q_ge, q_eq, q_ne, decide_eq_true_eq, idI, and_true, true_and, and_false, false_and, or_true, true_or, or_false, false_or, not_true_eq_false, not_false_eq_true, if_true, if_false, ite_self, Bool.not_true, Bool.not_false, Bool.false_eq_true, Bool.true_eq_false, decide_true, decide_false, ne_eq, reduceIte, Nat.reduceEqDiff, Option.some.injEq, Prod.mk.injEq, eq_self, n_inb, nI_clamp, w_hr, w_hk, w_hl, w_eq, w_ne, wl_hr, wl_hk, wl_hi, wl_eq, wl_ne, fa_lit, fa_litL, nI_add, pk_mul, nI_ltI, nI_leI, nI_eq, b01, b0, b1, Nat.reduceLeDiff, Nat.reduceAdd, Nat.reduceMul, Nat.reduceSub, Nat.lt_irrefl, Nat.reduceLT, f_ss, f_sR, f_sL, lc0, lc1, lc01, stI, stL, ]
end
end
