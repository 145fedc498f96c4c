set_option maxRecDepth 100000
set_option maxHeartbeats 2000000
/-! the law: what holds between its calls; one turn's comparison -/
def lC (o : Nat) : Prop := 31 ≤ o ∧ o < 122
theorem Inv.lch {h g : St} {P : PT} (I : Inv h g P) : Ch lC h g := ⟨I.cn.1, fun o ho => I.cn.2 o ho⟩
def N0h (h : St) : Prop := 135 ≤ hn h ∧ hr h 67 2 = 0
theorem N0h.sh {h g : St} (H : N0h h) (c : SH h g) : N0h g := ⟨by rw [c.2.2.1]; exact H.1, by rw [c.1]; exact H.2⟩
theorem N0h.rk {h g : St} (H : N0h h) (c : RK h g) : N0h g := ⟨by rw [c.2.1]; exact Nat.le_trans H.1 (Nat.le_add_right _ _), by rw [(c.1 67 (by decide)).2.2.2]; exact H.2⟩
def LW (L : Nat) (xs : Nat → Int32) (h : St) (P C : PT) (a b : Nat) : Prop := Inv h h P ∧ SCR L xs h ∧ LR h P C ∧ AR h 123 1 (fun _ => P 0 3) ∧ N0h h ∧ hn h ≤ a ∧ hs h ≤ b ∧ 0 < P 0 0
def PGs (h : St) (P C : PT) : Prop := (∀ d, d ≤ P 0 1 → DPg h P C d) ∧ ∀ j, j < P 9 1 → hi h 133 j = nI (runN P C (P 0 1) 6 j)
def told (P : PT) : PT := asTold P Z0
section
variable {L : Nat} {xs : Nat → Int32} {h g : St} {P C : PT} {a b : Nat}
theorem PGs.ch {D : Nat → Prop} (H : PGs h P C) (c : Ch D h g) (d : ∀ o, 130 ≤ o → o < 134 → ¬ D o) : PGs g P C := by
  refine ⟨fun k hk1 => ?_, fun j hj => by rw [(c.2 133 (d _ (by decide) (by decide))).1]; exact H.2 j hj⟩
  obtain ⟨⟨n, n1, n2⟩, ⟨m, m1, m2⟩, q⟩ := H.1 k hk1
  refine ⟨⟨n, by rw [(c.2 130 (d _ (by decide) (by decide))).1]; exact n1, n2⟩, ⟨m, by rw [(c.2 131 (d _ (by decide) (by decide))).1]; exact m1, m2⟩, fun s hs => ?_⟩
  obtain ⟨u, u1, u2⟩ := q s hs
  exact ⟨u, by rw [(c.2 132 (d _ (by decide) (by decide))).2]; exact u1, u2⟩
theorem LW.ch {D : Nat → Prop} (H : LW L xs h P C a b) (c : Ch D h g) (d : ∀ o, o < 130 → ¬ D o) : LW L xs g P C a b := by
  obtain ⟨i, sc, lr, au, n1, n2, n3, p0⟩ := H
  refine ⟨i.lw (lw_ch c (fun o ho => d o (by omega))), sc.ch c (d _ (by decide)), lr.ch c (fun o h1 h2 => d o h2), au.ch c (d _ (by decide)), ?_, ?_, ?_, p0⟩
  · exact n1.sh c.1
  · rw [c.1.2.2.1]; exact n2
  · rw [c.1.2.2.2]; exact n3
theorem LW.call (H : LW L xs h P C a b) (I : Inv h g P) : LW L xs g P C a b := by
  obtain ⟨i, sc, lr, au, n1, n2, n3, p0⟩ := H
  have c := I.lch
  refine ⟨I.rb, sc.ch c (by unfold lC; omega), lr.ch c (fun o h1 h2 z => by unfold lC at z; omega), au.ch c (by unfold lC; omega), ?_, ?_, ?_, p0⟩
  · exact n1.sh c.1
  · rw [c.1.2.2.1]; exact n2
  · rw [c.1.2.2.2]; exact n3
theorem PGs.call (H : PGs h P C) (I : Inv h g P) : PGs g P C := H.ch I.lch (fun o h1 h2 z => by unfold lC at z; omega)
theorem LW.run (H : LW L xs h P C a b) (hC : WFX P C) (hC1 : C 0 1 = 0) : ∃ g, DL_run (sR (sR (sR (sR (sR (sR (sR (sR (sR (sR (sR fr0 0 124) 1 125) 2 126) 3 127) 4 128) 5 129) 6 130) 7 131) 8 132) 9 133) 10 134) h = some ((), g) ∧ LW L xs g P C (a + 2) (b + 6) ∧ PGs g P C ∧ RK h g := by
  obtain ⟨i, sc, lr, au, n1, n2, n3, p0⟩ := H
  obtain ⟨g, x, lr', pg, wy, rk⟩ := x_lrun i.w hC hC1 lr n1.1
  have k1 := rk.1
  refine ⟨g, x, ⟨i.lw (fun o ho => ?_), ⟨?_, fun k => ?_, sc.2.2⟩, lr', ⟨?_, fun k hk1 => ?_⟩, n1.rk rk, by rw [rk.2.1]; omega, by rw [rk.2.2]; omega, p0⟩, ⟨pg, wy⟩, rk⟩
  · obtain ⟨q1, q2, q3, q4⟩ := k1 o (by omega)
    exact ⟨q1, q2, q3, fun _ => q4⟩
  · rw [(k1 1 (by decide)).1]; exact sc.1
  · rw [(k1 1 (by decide)).2.1]; exact sc.2.1 k
  · rw [(k1 123 (by decide)).1]; exact au.1
  · rw [(k1 123 (by decide)).2.1]; exact au.2 k hk1
theorem told_x (P : PT) : told P 0 0 = P 0 2 ∧ told P 0 1 = 0 ∧ told P 0 2 = 0 ∧ told P 0 3 = 0 ∧ told P 0 4 = 0 ∧ told P 0 5 = 0 := ⟨rfl, rfl, rfl, rfl, rfl, rfl⟩
theorem told_w (hW : WFP P) : WFX P (told P) := WFX_told hW Z0
section
variable {d D S : Nat} {A B : Int32}
theorem x_l1 (H : LW L xs h P (told P) a b) (G : PGs h P (told P)) (hd : d ≤ P 0 1) : ∃ g, Llaw_1 (sI (sI (sI (sI (sR (sR (sR (sR (sR (sI (sI (sR (sR (sR (sR (sR (sR (sR (sR (sR (sR fr0 0 1) 1 31) 2 122) 3 123) 4 124) 5 125) 6 126) 7 127) 8 128) 9 129) 10 (nI D)) 11 (nI S)) 12 130) 13 131) 14 132) 15 133) 16 134) 17 A) 18 B) 19 (nI d)) 20 (nI 0)) h = some (.inl 0, sI (sI (sI (sI (sR (sR (sR (sR (sR (sI (sI (sR (sR (sR (sR (sR (sR (sR (sR (sR (sR fr0 0 1) 1 31) 2 122) 3 123) 4 124) 5 125) 6 126) 7 127) 8 128) 9 129) 10 (nI D)) 11 (nI S)) 12 130) 13 131) 14 132) 15 133) 16 134) 17 A) 18 B) 19 (nI d)) 20 (nI (P 0 6)), g) ∧ LW L xs g P (told P) a b ∧ PGs g P (told P) := by
  unfold Llaw_1
  refine loop_g (fun k => sI (sI (sI (sI (sR (sR (sR (sR (sR (sI (sI (sR (sR (sR (sR (sR (sR (sR (sR (sR (sR fr0 0 1) 1 31) 2 122) 3 123) 4 124) 5 125) 6 126) 7 127) 8 128) 9 129) 10 (nI D)) 11 (nI S)) 12 130) 13 131) 14 132) 15 133) 16 134) 17 A) 18 B) 19 (nI d)) 20 (nI k)) (fun k g => LW L xs g P (told P) a b ∧ PGs g P (told P)) (P 0 6) rfl ⟨H, G⟩ (fun k g hk1 hI => ?_) (fun g hI => ?_)
  · obtain ⟨H1, G1⟩ := hI
    have hb := H1.1.w.all
    obtain ⟨g', x, I⟩ := c_at H1.1 H1.2.2.2.2.2.2.2 hk1 hd
    have x' : DX11_at (sI (sI (sR fr0 0 31) 1 (nI k)) 2 (nI d)) g = some (nI (runN P (told P) d 1 k), g') := x
    have H2 := H1.call I
    have G2 := G1.call I
    refine ⟨g', ?_, H2, G2⟩
    obtain ⟨⟨tf, t1, t2⟩, -, -, -, -, -, ⟨k130, -⟩, -⟩ := H1.2.2.1
    obtain ⟨-, -, -, -, -, -, ⟨k130', -⟩, -⟩ := H2.2.2.1
    have kt := t1.1
    have v3 : hi g 124 3 = nI (P 0 6) := by rw [t1.2 3 (by decide), t2.2.2.2.1]
    have kX : hk g 31 = (11, 0) := H1.1.co.koX
    obtain ⟨⟨m, m1, m2, m3⟩, -⟩ := G2.1 d hd
    have m4 := m3 k hk1
    have a1 : o_ishr (nI m) (nI (4 * k)) = nI (m / 2 ^ (4 * k)) := q_ishr (by omega) (by omega)
    have a2 : nI (m / 2 ^ (4 * k)) &&& nI 15 = nI (runN P (told P) d 1 k) := by rw [q_m4, ← m4]; rfl
    simp (maxSteps := 4000000) (disch := omega) only [ob_t, ob_n, ob_ite, e_cI, e_cL, e_cR, e_vI, e_vL, e_vR, e_d2, e_d2_a, e_d2_b, e_d2z, e_d2z_a, e_d2z_b, e_d1, e_d1_a, e_GI, e_GI_a, e_GL, e_GL_a, e_GR, e_GR_a, e_AI, e_AI_a, e_AI_b, e_AB, e_AB_a, e_AB_b, e_AZ, e_AZ_a, e_AZ_b, e_AL, e_AL_a, e_AL_b, e_AR, e_AR_a, e_AR_b, e_Len, e_Len_a, e_CI, e_CI_a, e_CI_b, e_CZ, e_CZ_a, e_And, e_kAnd, e_Or, e_kOr, e_Not, e_kNot, e_B, e_kB, e_T, e_kT, e_NN, e_kNN, e_NewA, e_NewA_a, e_NewC, e_kNewC, e_aN, e_aI, e_aI_a, e_aI_b, e_aL, e_aL_a, e_aL_b, e_aR, e_aR_a, e_aR_b, e_Call, e_kCall, e_CallV, e_kCallV, e_SetI, e_kSetI, e_SetL, e_kSetL, e_SetR, e_kSetR, e_Inc, e_Skip, e_Brk, e_Cnt, e_Ret, e_kRet, e_Ret0, e_Seq, e_kSeq0, e_kSeq1, e_kSeq2, e_kSeqR, e_If, e_kIf, e_Do, e_kDo, e_Sup, e_kN0, e_d3, e_k3a, e_k3b, e_k3c, e_P, e_kPa, e_kPb, e_UA, e_kUAa, e_kUAb, e_kUAc, e_UL, e_kULa, e_kULb, e_kULc, e_UF, e_kUFa, e_kUFb, e_Cp, e_kCp, e_Sw, e_kSwa, e_kSwb0, e_kSwb1, e_kSwbR, e_M1, e_kM1, e_MZ, e_kMZ, e_MN, e_kMN, e_Tv, e_kTv, e_Tc, e_kTc, e_lpS, e_kLp, e_kLpB0, e_kLpB1, e_kLpB2, e_kLpBR, e_kLpU, e_dwS, e_kDwB0, e_kDwC, f_II, f_LL, f_RR, f_IL, f_IR, f_LI, f_LR, f_RI, f_RL, o_iadd, o_isub, o_imul, o_iand, o_ior, o_ixor, o_ladd, o_lsub, o_lmul, o_land, o_lor, o_i2b, o_i2s, o_lneg, o_imax, o_imin, r_lt, r_le, r_gt, r_ge, r_eq, r_ne, q_lt, q_le, q_gt, q_ge, q_eq, q_ne, decide_eq_true_eq, idI, and_true, true_and, and_false, false_and, or_true, true_or, or_false, false_or, not_true_eq_false, not_false_eq_true, if_true, if_false, ite_self, Bool.not_true, Bool.not_false, Bool.false_eq_true, Bool.true_eq_false, decide_true, decide_false, ne_eq, reduceIte, Nat.reduceEqDiff, Option.some.injEq, Prod.mk.injEq, eq_self, n_inb, nI_clamp, w_hr, w_hk, w_hl, w_eq, w_ne, wl_hr, wl_hk, wl_hi, wl_eq, wl_ne, fa_lit, fa_litL, nI_add, pk_mul, nI_ltI, nI_leI, nI_eq, b01, b0, b1, Nat.reduceLeDiff, Nat.reduceAdd, Nat.reduceMul, Nat.reduceSub, Nat.lt_irrefl, Nat.reduceLT, f_ss, f_sR, f_sL, lc0, lc1, lc01, stI, stL, kt, v3, hk1, kX, x', k130', m1, a1, a2]
  · obtain ⟨H1, G1⟩ := hI
    obtain ⟨⟨tf, t1, t2⟩, -⟩ := H1.2.2.1
    have kt := t1.1
    have v3 : hi g 124 3 = nI (P 0 6) := by rw [t1.2 3 (by decide), t2.2.2.2.1]
    have hb := H1.1.w.all
    refine lp_out ?_
    simp (maxSteps := 4000000) (disch := omega) only [ob_t, ob_n, ob_ite, e_cI, e_cL, e_cR, e_vI, e_vL, e_vR, e_d2, e_d2_a, e_d2_b, e_d2z, e_d2z_a, e_d2z_b, e_d1, e_d1_a, e_GI, e_GI_a, e_GL, e_GL_a, e_GR, e_GR_a, e_AI, e_AI_a, e_AI_b, e_AB, e_AB_a, e_AB_b, e_AZ, e_AZ_a, e_AZ_b, e_AL, e_AL_a, e_AL_b, e_AR, e_AR_a, e_AR_b, e_Len, e_Len_a, e_CI, e_CI_a, e_CI_b, e_CZ, e_CZ_a, e_And, e_kAnd, e_Or, e_kOr, e_Not, e_kNot, e_B, e_kB, e_T, e_kT, e_NN, e_kNN, e_NewA, e_NewA_a, e_NewC, e_kNewC, e_aN, e_aI, e_aI_a, e_aI_b, e_aL, e_aL_a, e_aL_b, e_aR, e_aR_a, e_aR_b, e_Call, e_kCall, e_CallV, e_kCallV, e_SetI, e_kSetI, e_SetL, e_kSetL, e_SetR, e_kSetR, e_Inc, e_Skip, e_Brk, e_Cnt, e_Ret, e_kRet, e_Ret0, e_Seq, e_kSeq0, e_kSeq1, e_kSeq2, e_kSeqR, e_If, e_kIf, e_Do, e_kDo, e_Sup, e_kN0, e_d3, e_k3a, e_k3b, e_k3c, e_P, e_kPa, e_kPb, e_UA, e_kUAa, e_kUAb, e_kUAc, e_UL, e_kULa, e_kULb, e_kULc, e_UF, e_kUFa, e_kUFb, e_Cp, e_kCp, e_Sw, e_kSwa, e_kSwb0, e_kSwb1, e_kSwbR, e_M1, e_kM1, e_MZ, e_kMZ, e_MN, e_kMN, e_Tv, e_kTv, e_Tc, e_kTc, e_lpS, e_kLp, e_kLpB0, e_kLpB1, e_kLpB2, e_kLpBR, e_kLpU, e_dwS, e_kDwB0, e_kDwC, f_II, f_LL, f_RR, f_IL, f_IR, f_LI, f_LR, f_RI, f_RL, o_iadd, o_isub, o_imul, o_iand, o_ior, o_ixor, o_ladd, o_lsub, o_lmul, o_land, o_lor, o_i2b, o_i2s, o_lneg, o_imax, o_imin, r_lt, r_le, r_gt, r_ge, r_eq, r_ne, q_lt, q_le, q_gt, q_ge, q_eq, q_ne, decide_eq_true_eq, idI, and_true, true_and, and_false, false_and, or_true, true_or, or_false, false_or, not_true_eq_false, not_false_eq_true, if_true, if_false, ite_self, Bool.not_true, Bool.not_false, Bool.false_eq_true, Bool.true_eq_false, decide_true, decide_false, ne_eq, reduceIte, Nat.reduceEqDiff, Option.some.injEq, Prod.mk.injEq, eq_self, n_inb, nI_clamp, w_hr, w_hk, w_hl, w_eq, w_ne, wl_hr, wl_hk, wl_hi, wl_eq, wl_ne, fa_lit, fa_litL, nI_add, pk_mul, nI_ltI, nI_leI, nI_eq, b01, b0, b1, Nat.reduceLeDiff, Nat.reduceAdd, Nat.reduceMul, Nat.reduceSub, Nat.lt_irrefl, Nat.reduceLT, f_ss, f_sR, f_sL, lc0, lc1, lc01, stI, stL, kt, v3]
theorem x_l2 (H : LW L xs h P (told P) a b) (G : PGs h P (told P)) (hd : d ≤ P 0 1) {l : Nat} (hl : l < P 0 7) : ∃ g, Llaw_2 (sI (sI (sI (sI (sI (sR (sR (sR (sR (sR (sI (sI (sR (sR (sR (sR (sR (sR (sR (sR (sR (sR fr0 0 1) 1 31) 2 122) 3 123) 4 124) 5 125) 6 126) 7 127) 8 128) 9 129) 10 (nI D)) 11 (nI S)) 12 130) 13 131) 14 132) 15 133) 16 134) 17 A) 18 B) 19 (nI d)) 20 (nI l)) 21 (nI 0)) h = some (.inl 0, sI (sI (sI (sI (sI (sR (sR (sR (sR (sR (sI (sI (sR (sR (sR (sR (sR (sR (sR (sR (sR (sR fr0 0 1) 1 31) 2 122) 3 123) 4 124) 5 125) 6 126) 7 127) 8 128) 9 129) 10 (nI D)) 11 (nI S)) 12 130) 13 131) 14 132) 15 133) 16 134) 17 A) 18 B) 19 (nI d)) 20 (nI l)) 21 (nI (P 0 4)), g) ∧ LW L xs g P (told P) a b ∧ PGs g P (told P) := by
  unfold Llaw_2
  refine loop_g (fun k => sI (sI (sI (sI (sI (sR (sR (sR (sR (sR (sI (sI (sR (sR (sR (sR (sR (sR (sR (sR (sR (sR fr0 0 1) 1 31) 2 122) 3 123) 4 124) 5 125) 6 126) 7 127) 8 128) 9 129) 10 (nI D)) 11 (nI S)) 12 130) 13 131) 14 132) 15 133) 16 134) 17 A) 18 B) 19 (nI d)) 20 (nI l)) 21 (nI k)) (fun k g => LW L xs g P (told P) a b ∧ PGs g P (told P)) (P 0 4) rfl ⟨H, G⟩ (fun k g hk1 hI => ?_) (fun g hI => ?_)
  · obtain ⟨H1, G1⟩ := hI
    have hb := H1.1.w.all
    obtain ⟨g', x, I⟩ := c_knows H1.1 H1.2.2.2.2.2.2.2 hk1 hl hd
    have x' : DX11_knows (sI (sI (sI (sR fr0 0 31) 1 (nI k)) 2 (nI l)) 3 (nI d)) g = some (nI (runN P (told P) d 4 (8 * l + k)), g') := x
    have H2 := H1.call I
    have G2 := G1.call I
    refine ⟨g', ?_, H2, G2⟩
    obtain ⟨⟨tf, t1, t2⟩, -⟩ := H1.2.2.1
    obtain ⟨-, -, -, -, -, -, ⟨-, -, k132, -⟩, -⟩ := H2.2.2.1
    have kt := t1.1
    have v3 : hi g 124 2 = nI (P 0 4) := by rw [t1.2 2 (by decide), t2.2.2.1]
    have kX : hk g 31 = (11, 0) := H1.1.co.koX
    obtain ⟨-, -, q⟩ := G2.1 d hd
    obtain ⟨m, m1, m2, m3⟩ := q l hl
    have m4 := m3 k (by omega)
    have a1 := x_kno (h := g') m (x := k) (by omega) (by omega)
    rw [show m / 2 ^ (6 * k) % 64 = runN P (told P) d 4 (8 * l + k) from m4] at a1
    have i39 : 3 * d + l < 39 := by omega
    simp (maxSteps := 4000000) (disch := omega) only [ob_t, ob_n, ob_ite, e_cI, e_cL, e_cR, e_vI, e_vL, e_vR, e_d2, e_d2_a, e_d2_b, e_d2z, e_d2z_a, e_d2z_b, e_d1, e_d1_a, e_GI, e_GI_a, e_GL, e_GL_a, e_GR, e_GR_a, e_AI, e_AI_a, e_AI_b, e_AB, e_AB_a, e_AB_b, e_AZ, e_AZ_a, e_AZ_b, e_AL, e_AL_a, e_AL_b, e_AR, e_AR_a, e_AR_b, e_Len, e_Len_a, e_CI, e_CI_a, e_CI_b, e_CZ, e_CZ_a, e_And, e_kAnd, e_Or, e_kOr, e_Not, e_kNot, e_B, e_kB, e_T, e_kT, e_NN, e_kNN, e_NewA, e_NewA_a, e_NewC, e_kNewC, e_aN, e_aI, e_aI_a, e_aI_b, e_aL, e_aL_a, e_aL_b, e_aR, e_aR_a, e_aR_b, e_Call, e_kCall, e_CallV, e_kCallV, e_SetI, e_kSetI, e_SetL, e_kSetL, e_SetR, e_kSetR, e_Inc, e_Skip, e_Brk, e_Cnt, e_Ret, e_kRet, e_Ret0, e_Seq, e_kSeq0, e_kSeq1, e_kSeq2, e_kSeqR, e_If, e_kIf, e_Do, e_kDo, e_Sup, e_kN0, e_d3, e_k3a, e_k3b, e_k3c, e_P, e_kPa, e_kPb, e_UA, e_kUAa, e_kUAb, e_kUAc, e_UL, e_kULa, e_kULb, e_kULc, e_UF, e_kUFa, e_kUFb, e_Cp, e_kCp, e_Sw, e_kSwa, e_kSwb0, e_kSwb1, e_kSwbR, e_M1, e_kM1, e_MZ, e_kMZ, e_MN, e_kMN, e_Tv, e_kTv, e_Tc, e_kTc, e_lpS, e_kLp, e_kLpB0, e_kLpB1, e_kLpB2, e_kLpBR, e_kLpU, e_dwS, e_kDwB0, e_kDwC, f_II, f_LL, f_RR, f_IL, f_IR, f_LI, f_LR, f_RI, f_RL, o_iadd, o_isub, o_imul, o_iand, o_ior, o_ixor, o_ladd, o_lsub, o_lmul, o_land, o_lor, o_i2b, o_i2s, o_lneg, o_imax, o_imin, r_lt, r_le, r_gt, r_ge, r_eq, r_ne, q_lt, q_le, q_gt, q_ge, q_eq, q_ne, decide_eq_true_eq, idI, and_true, true_and, and_false, false_and, or_true, true_or, or_false, false_or, not_true_eq_false, not_false_eq_true, if_true, if_false, ite_self, Bool.not_true, Bool.not_false, Bool.false_eq_true, Bool.true_eq_false, decide_true, decide_false, ne_eq, reduceIte, Nat.reduceEqDiff, Option.some.injEq, Prod.mk.injEq, eq_self, n_inb, nI_clamp, w_hr, w_hk, w_hl, w_eq, w_ne, wl_hr, wl_hk, wl_hi, wl_eq, wl_ne, fa_lit, fa_litL, nI_add, pk_mul, nI_ltI, nI_leI, nI_eq, b01, b0, b1, Nat.reduceLeDiff, Nat.reduceAdd, Nat.reduceMul, Nat.reduceSub, Nat.lt_irrefl, Nat.reduceLT, f_ss, f_sR, f_sL, lc0, lc1, lc01, stI, stL, kt, v3, hk1, kX, x', k132, m1, a1, i39]
  · obtain ⟨H1, G1⟩ := hI
    obtain ⟨⟨tf, t1, t2⟩, -⟩ := H1.2.2.1
    have kt := t1.1
    have v3 : hi g 124 2 = nI (P 0 4) := by rw [t1.2 2 (by decide), t2.2.2.1]
    have hb := H1.1.w.all
    refine lp_out ?_
    simp (maxSteps := 4000000) (disch := omega) only [ob_t, ob_n, ob_ite, e_cI, e_cL, e_cR, e_vI, e_vL, e_vR, e_d2, e_d2_a, e_d2_b, e_d2z, e_d2z_a, e_d2z_b, e_d1, e_d1_a, e_GI, e_GI_a, e_GL, e_GL_a, e_GR, e_GR_a, e_AI, e_AI_a, e_AI_b, e_AB, e_AB_a, e_AB_b, e_AZ, e_AZ_a, e_AZ_b, e_AL, e_AL_a, e_AL_b, e_AR, e_AR_a, e_AR_b, e_Len, e_Len_a, e_CI, e_CI_a, e_CI_b, e_CZ, e_CZ_a, e_And, e_kAnd, e_Or, e_kOr, e_Not, e_kNot, e_B, e_kB, e_T, e_kT, e_NN, e_kNN, e_NewA, e_NewA_a, e_NewC, e_kNewC, e_aN, e_aI, e_aI_a, e_aI_b, e_aL, e_aL_a, e_aL_b, e_aR, e_aR_a, e_aR_b, e_Call, e_kCall, e_CallV, e_kCallV, e_SetI, e_kSetI, e_SetL, e_kSetL, e_SetR, e_kSetR, e_Inc, e_Skip, e_Brk, e_Cnt, e_Ret, e_kRet, e_Ret0, e_Seq, e_kSeq0, e_kSeq1, e_kSeq2, e_kSeqR, e_If, e_kIf, e_Do, e_kDo, e_Sup, e_kN0, e_d3, e_k3a, e_k3b, e_k3c, e_P, e_kPa, e_kPb, e_UA, e_kUAa, e_kUAb, e_kUAc, e_UL, e_kULa, e_kULb, e_kULc, e_UF, e_kUFa, e_kUFb, e_Cp, e_kCp, e_Sw, e_kSwa, e_kSwb0, e_kSwb1, e_kSwbR, e_M1, e_kM1, e_MZ, e_kMZ, e_MN, e_kMN, e_Tv, e_kTv, e_Tc, e_kTc, e_lpS, e_kLp, e_kLpB0, e_kLpB1, e_kLpB2, e_kLpBR, e_kLpU, e_dwS, e_kDwB0, e_kDwC, f_II, f_LL, f_RR, f_IL, f_IR, f_LI, f_LR, f_RI, f_RL, o_iadd, o_isub, o_imul, o_iand, o_ior, o_ixor, o_ladd, o_lsub, o_lmul, o_land, o_lor, o_i2b, o_i2s, o_lneg, o_imax, o_imin, r_lt, r_le, r_gt, r_ge, r_eq, r_ne, q_lt, q_le, q_gt, q_ge, q_eq, q_ne, decide_eq_true_eq, idI, and_true, true_and, and_false, false_and, or_true, true_or, or_false, false_or, not_true_eq_false, not_false_eq_true, if_true, if_false, ite_self, Bool.not_true, Bool.not_false, Bool.false_eq_true, Bool.true_eq_false, decide_true, decide_false, ne_eq, reduceIte, Nat.reduceEqDiff, Option.some.injEq, Prod.mk.injEq, eq_self, n_inb, nI_clamp, w_hr, w_hk, w_hl, w_eq, w_ne, wl_hr, wl_hk, wl_hi, wl_eq, wl_ne, fa_lit, fa_litL, nI_add, pk_mul, nI_ltI, nI_leI, nI_eq, b01, b0, b1, Nat.reduceLeDiff, Nat.reduceAdd, Nat.reduceMul, Nat.reduceSub, Nat.lt_irrefl, Nat.reduceLT, f_ss, f_sR, f_sL, lc0, lc1, lc01, stI, stL, kt, v3]
end
end
