set_option maxRecDepth 100000
set_option maxHeartbeats 3000000
/-! the law: by which law, from which house -/
def CE (P C : PT) : Prop := C 0 1 = 0 ∧ C 0 2 = 0 ∧ C 0 3 = 0 ∧ C 0 4 = 0 ∧ C 0 5 = 0
section
variable {L : Nat} {xs : Nat → Int32} {h g : St} {P C C' : PT} {a b : Nat}
theorem LR.tw (H : LR h P C) {i v : Nat} (e : ∀ tf, tR P C tf → tR P C' (fuN tf i v)) (e4 : C' 0 4 = C 0 4) (e5 : C' 0 5 = C 0 5) : LR (wI h 124 i (nI v)) P C' := by
  have c : Ch (fun o => o = 124) h (wI h 124 i (nI v)) := Ch.w (D := fun o => o = 124) rfl _ _ _
  obtain ⟨⟨tf, a1, a2⟩, ⟨vf, b1, b2⟩, ⟨zf, c1, c2⟩, ⟨wf, d1, d2⟩, ⟨qf, e1, e2⟩, ⟨ff, f1, f2⟩, k, n⟩ := H
  refine ⟨⟨_, a1.w i v, e tf a2⟩, ⟨vf, b1.ch c (by omega), b2⟩, ⟨zf, c1.ch c (by omega), c2⟩, ⟨wf, d1.ch c (by omega), d2⟩, ⟨qf, e1.ch c (by omega), e2⟩, ⟨ff, f1.ch c (by omega), fun s hs => ?_⟩, k, n⟩
  have := f2 s hs
  unfold fsS at this ⊢
  rw [e4, e5]
  exact this
theorem LR.fw (H : LR h P C) {s v : Nat} (e : ∀ tf, tR P C tf → tR P C' tf) (f : ∀ t, t < P 0 7 → fsS P C' t = if t = s then v else fsS P C t) (h7 : P 0 7 ≤ 3) (hs : s < P 0 7) : LR (wI h 129 s (nI v)) P C' := by
  have c : Ch (fun o => o = 129) h (wI h 129 s (nI v)) := Ch.w (D := fun o => o = 129) rfl _ _ _
  obtain ⟨⟨tf, a1, a2⟩, ⟨vf, b1, b2⟩, ⟨zf, c1, c2⟩, ⟨wf, d1, d2⟩, ⟨qf, e1, e2⟩, ⟨ff, f1, f2⟩, k, n⟩ := H
  refine ⟨⟨tf, a1.ch c (by omega), e tf a2⟩, ⟨vf, b1.ch c (by omega), b2⟩, ⟨zf, c1.ch c (by omega), c2⟩, ⟨wf, d1.ch c (by omega), d2⟩, ⟨qf, e1.ch c (by omega), e2⟩, ⟨_, f1.w s v, fun t ht => ?_⟩, k, n⟩
  obtain ⟨u1, u2⟩ := f2 t ht
  rw [f t ht]
  unfold fuN
  rw [if_neg (show ¬ 3 + t = s by omega)]
  refine ⟨?_, u2⟩
  by_cases y : t = s
  · rw [if_pos y, if_pos y]
  · rw [if_neg y, if_neg y]
    exact u1
theorem LW.mk {D : Nat → Prop} (H : LW L xs h P C a b) (c : Ch D h g) (d : ∀ o, o < 124 → ¬ D o) (lr : LR g P C') : LW L xs g P C' a b := by
  obtain ⟨i, sc, -, au, n1, n2, n3, p0⟩ := H
  refine ⟨i.lw (lw_ch c (fun o ho => d o (by omega))), sc.ch c (d _ (by decide)), lr, au.ch c (d _ (by decide)), ?_, ?_, ?_, p0⟩
  · exact n1.sh c.1
  · rw [c.1.2.2.1]; exact n2
  · rw [c.1.2.2.2]; exact n3
theorem LW.tw (H : LW L xs h P C a b) {i v : Nat} (e : ∀ tf, tR P C tf → tR P C' (fuN tf i v)) (e4 : C' 0 4 = C 0 4) (e5 : C' 0 5 = C 0 5) : LW L xs (wI h 124 i (nI v)) P C' a b :=
  H.mk (Ch.w (D := fun o => o = 124) rfl _ _ _) (fun o ho z => by omega) (H.2.2.1.tw e e4 e5)
theorem LW.fw (H : LW L xs h P C a b) {s v : Nat} (e : ∀ tf, tR P C tf → tR P C' tf) (f : ∀ t, t < P 0 7 → fsS P C' t = if t = s then v else fsS P C t) (hs : s < P 0 7) : LW L xs (wI h 129 s (nI v)) P C' a b :=
  H.mk (Ch.w (D := fun o => o = 129) rfl _ _ _) (fun o ho z => by omega) (H.2.2.1.fw e f H.1.w.all.2.2.2.2.2.2.1 hs)
theorem LW.le (H : LW L xs h P C a b) {a' b' : Nat} (ha : a ≤ a') (hb : b ≤ b') : LW L xs h P C a' b' := by
  obtain ⟨i, sc, lr, au, n1, n2, n3, p0⟩ := H
  exact ⟨i, sc, lr, au, n1, by omega, by omega, p0⟩
section
variable {D S A l : Nat} {F : Int32}
theorem x_l7 (H : LW L xs h P C a b) (hC : CE P C) (hl : l < P 0 7) (eD : D = P 0 1) : ∃ (g : St) (C' : PT), Llaw_7 (sI (sI (sI (sI (sR (sR (sR (sR (sR (sI (sI (sR (sR (sR (sR (sR (sR (sR (sR (sR (sR fr0 0 1) 1 31) 2 122) 3 123) 4 124) 5 125) 6 126) 7 127) 8 128) 9 129) 10 (nI D)) 11 (nI S)) 12 130) 13 131) 14 132) 15 133) 16 134) 17 (nI A)) 18 (nI l)) 19 F) 20 (nI 0)) h = some (.inl 0, sI (sI (sI (sI (sR (sR (sR (sR (sR (sI (sI (sR (sR (sR (sR (sR (sR (sR (sR (sR (sR fr0 0 1) 1 31) 2 122) 3 123) 4 124) 5 125) 6 126) 7 127) 8 128) 9 129) 10 (nI D)) 11 (nI S)) 12 130) 13 131) 14 132) 15 133) 16 134) 17 (nI A)) 18 (nI l)) 19 F) 20 (nI 4), g) ∧ LW L xs g P C' (a + 8) (b + 24) ∧ CE P C' := by
  suffices hh : ∃ g, Llaw_7 (sI (sI (sI (sI (sR (sR (sR (sR (sR (sI (sI (sR (sR (sR (sR (sR (sR (sR (sR (sR (sR fr0 0 1) 1 31) 2 122) 3 123) 4 124) 5 125) 6 126) 7 127) 8 128) 9 129) 10 (nI D)) 11 (nI S)) 12 130) 13 131) 14 132) 15 133) 16 134) 17 (nI A)) 18 (nI l)) 19 F) 20 (nI 0)) h = some (.inl 0, sI (sI (sI (sI (sR (sR (sR (sR (sR (sI (sI (sR (sR (sR (sR (sR (sR (sR (sR (sR (sR fr0 0 1) 1 31) 2 122) 3 123) 4 124) 5 125) 6 126) 7 127) 8 128) 9 129) 10 (nI D)) 11 (nI S)) 12 130) 13 131) 14 132) 15 133) 16 134) 17 (nI A)) 18 (nI l)) 19 F) 20 (nI 4), g) ∧ ∃ C', LW L xs g P C' (a + 2 * 4) (b + 6 * 4) ∧ CE P C' by
    obtain ⟨g, x, C', y⟩ := hh
    exact ⟨g, C', x, y⟩
  unfold Llaw_7
  refine loop_g (fun k => sI (sI (sI (sI (sR (sR (sR (sR (sR (sI (sI (sR (sR (sR (sR (sR (sR (sR (sR (sR (sR fr0 0 1) 1 31) 2 122) 3 123) 4 124) 5 125) 6 126) 7 127) 8 128) 9 129) 10 (nI D)) 11 (nI S)) 12 130) 13 131) 14 132) 15 133) 16 134) 17 (nI A)) 18 (nI l)) 19 F) 20 (nI k)) (fun k g => ∃ C', LW L xs g P C' (a + 2 * k) (b + 6 * k) ∧ CE P C') 4 rfl ⟨C, H, hC⟩ (fun k g hk1 hI => ?_) (fun g hI => ?_)
  · obtain ⟨C1, H1, y1, y2, y3, y4, y5⟩ := hI
    have hW := H1.1.w
    have hb := hW.all
    obtain ⟨h2, eh⟩ : ∃ z, z = wI g 124 1 (nI k) := ⟨_, rfl⟩
    have H2 : LW L xs h2 P (whT P 0 k) (a + 2 * k) (b + 6 * k) := by
      rw [eh]
      refine H1.tw (fun tf ⟨t0, t1, t2, t3, t4, t5, t6, t7⟩ => ⟨t0, rfl, t2, t3, t4, t5, ?_, ?_⟩) ?_ ?_
      · show tf 6 = 0
        rw [t6, y3]
      · show tf 7 = 0
        rw [t7, y2]
      · rw [y4]; rfl
      · rw [y5]; rfl
    have hX : WFX P (whT P 0 k) := WFX_wh hW Z0 (Or.inl ⟨rfl, by omega⟩)
    obtain ⟨g3, x3, H3, G3, -⟩ := H2.run hX rfl
    obtain ⟨g4, x, I4⟩ := c_by H3.1 hl hk1
    have x4 : DX11_by (sI (sI (sR fr0 0 31) 1 (nI l)) 2 (nI k)) g3 = some (nI (heard P (runN P (whT P 0 k) (P 0 1)) l), g4) := x
    have H4 := H3.call I4
    have G4 := G3.call I4
    obtain ⟨⟨tf, t1, t2⟩, -⟩ := H1.2.2.1
    have kt := t1.1
    obtain ⟨⟨tf', t1', t2'⟩, -, -, -, -, -, ⟨-, -, k132, -⟩, -⟩ := H4.2.2.1
    have kX : hk g3 31 = (11, 0) := H3.1.co.koX
    obtain ⟨-, -, q⟩ := G4.1 (P 0 1) (Nat.le_refl _)
    obtain ⟨w, w1, w2, w3⟩ := q l hl
    have a3 : DL_heard (sL (sR fr0 0 124) 1 (lN w)) g4 = some (nI (heard P (runN P (whT P 0 k) (P 0 1)) l), g4) := x_hrd (T := runN P (whT P 0 k) (P 0 1)) (s := l) t1' t2'.2.2.1 hb.2.2.2.1 (by omega) (fun x hx => w3 x (by omega))
    rw [← eD] at w1
    have i39 : 3 * D + l < 39 := by omega
    refine ⟨g4, ?_, whT P 0 k, H4.le (by omega) (by omega), rfl, rfl, rfl, rfl, rfl⟩
    simp (maxSteps := 4000000) (disch := omega) only [ob_t, ob_n, ob_ite, e_cI, e_cL, e_cR, e_vI, e_vL, e_vR, e_d2, e_d2_a, e_d2_b, e_d2z, e_d2z_a, e_d2z_b, e_d1, e_d1_a, e_GI, e_GI_a, e_GL, e_GL_a, e_GR, e_GR_a, e_AI, e_AI_a, e_AI_b, e_AB, e_AB_a, e_AB_b, e_AZ, e_AZ_a, e_AZ_b, e_AL, e_AL_a, e_AL_b, e_AR, e_AR_a, e_AR_b, e_Len, e_Len_a, e_CI, e_CI_a, e_CI_b, e_CZ, e_CZ_a, e_And, e_kAnd, e_Or, e_kOr, e_Not, e_kNot, e_B, e_kB, e_T, e_kT, e_NN, e_kNN, e_NewA, e_NewA_a, e_NewC, e_kNewC, e_aN, e_aI, e_aI_a, e_aI_b, e_aL, e_aL_a, e_aL_b, e_aR, e_aR_a, e_aR_b, e_Call, e_kCall, e_CallV, e_kCallV, e_SetI, e_kSetI, e_SetL, e_kSetL, e_SetR, e_kSetR, e_Inc, e_Skip, e_Brk, e_Cnt, e_Ret, e_kRet, e_Ret0, e_Seq, e_kSeq0, e_kSeq1, e_kSeq2, e_kSeqR, e_If, e_kIf, e_Do, e_kDo, e_Sup, e_kN0, e_d3, e_k3a, e_k3b, e_k3c, e_P, e_kPa, e_kPb, e_UA, e_kUAa, e_kUAb, e_kUAc, e_UL, e_kULa, e_kULb, e_kULc, e_UF, e_kUFa, e_kUFb, e_Cp, e_kCp, e_Sw, e_kSwa, e_kSwb0, e_kSwb1, e_kSwbR, e_M1, e_kM1, e_MZ, e_kMZ, e_MN, e_kMN, e_Tv, e_kTv, e_Tc, e_kTc, e_lpS, e_kLp, e_kLpB0, e_kLpB1, e_kLpB2, e_kLpBR, e_kLpU, e_dwS, e_kDwB0, e_kDwC, f_II, f_LL, f_RR, f_IL, f_IR, f_LI, f_LR, f_RI, f_RL, o_iadd, o_isub, o_imul, o_iand, o_ior, o_ixor, o_ladd, o_lsub, o_lmul, o_land, o_lor, o_i2b, o_i2s, o_lneg, o_imax, o_imin, r_lt, r_le, r_gt, r_ge, r_eq, r_ne, q_lt, q_le, q_gt, q_ge, q_eq, q_ne, decide_eq_true_eq, idI, and_true, true_and, and_false, false_and, or_true, true_or, or_false, false_or, not_true_eq_false, not_false_eq_true, if_true, if_false, ite_self, Bool.not_true, Bool.not_false, Bool.false_eq_true, Bool.true_eq_false, decide_true, decide_false, ne_eq, reduceIte, Nat.reduceEqDiff, Option.some.injEq, Prod.mk.injEq, eq_self, n_inb, nI_clamp, w_hr, w_hk, w_hl, w_eq, w_ne, wl_hr, wl_hk, wl_hi, wl_eq, wl_ne, fa_lit, fa_litL, nI_add, pk_mul, nI_ltI, nI_leI, nI_eq, b01, b0, b1, Nat.reduceLeDiff, Nat.reduceAdd, Nat.reduceMul, Nat.reduceSub, Nat.lt_irrefl, Nat.reduceLT, f_ss, f_sR, f_sL, lc0, lc1, lc01, stI, stL, hk1, kt, ← eh, x3, kX, x4, k132, w1, i39, a3]
  · refine lp_out ?_
    simp (maxSteps := 4000000) (disch := omega) only [ob_t, ob_n, ob_ite, e_cI, e_cL, e_cR, e_vI, e_vL, e_vR, e_d2, e_d2_a, e_d2_b, e_d2z, e_d2z_a, e_d2z_b, e_d1, e_d1_a, e_GI, e_GI_a, e_GL, e_GL_a, e_GR, e_GR_a, e_AI, e_AI_a, e_AI_b, e_AB, e_AB_a, e_AB_b, e_AZ, e_AZ_a, e_AZ_b, e_AL, e_AL_a, e_AL_b, e_AR, e_AR_a, e_AR_b, e_Len, e_Len_a, e_CI, e_CI_a, e_CI_b, e_CZ, e_CZ_a, e_And, e_kAnd, e_Or, e_kOr, e_Not, e_kNot, e_B, e_kB, e_T, e_kT, e_NN, e_kNN, e_NewA, e_NewA_a, e_NewC, e_kNewC, e_aN, e_aI, e_aI_a, e_aI_b, e_aL, e_aL_a, e_aL_b, e_aR, e_aR_a, e_aR_b, e_Call, e_kCall, e_CallV, e_kCallV, e_SetI, e_kSetI, e_SetL, e_kSetL, e_SetR, e_kSetR, e_Inc, e_Skip, e_Brk, e_Cnt, e_Ret, e_kRet, e_Ret0, e_Seq, e_kSeq0, e_kSeq1, e_kSeq2, e_kSeqR, e_If, e_kIf, e_Do, e_kDo, e_Sup, e_kN0, e_d3, e_k3a, e_k3b, e_k3c, e_P, e_kPa, e_kPb, e_UA, e_kUAa, e_kUAb, e_kUAc, e_UL, e_kULa, e_kULb, e_kULc, e_UF, e_kUFa, e_kUFb, e_Cp, e_kCp, e_Sw, e_kSwa, e_kSwb0, e_kSwb1, e_kSwbR, e_M1, e_kM1, e_MZ, e_kMZ, e_MN, e_kMN, e_Tv, e_kTv, e_Tc, e_kTc, e_lpS, e_kLp, e_kLpB0, e_kLpB1, e_kLpB2, e_kLpBR, e_kLpU, e_dwS, e_kDwB0, e_kDwC, f_II, f_LL, f_RR, f_IL, f_IR, f_LI, f_LR, f_RI, f_RL, o_iadd, o_isub, o_imul, o_iand, o_ior, o_ixor, o_ladd, o_lsub, o_lmul, o_land, o_lor, o_i2b, o_i2s, o_lneg, o_imax, o_imin, r_lt, r_le, r_gt, r_ge, r_eq, r_ne, q_lt, q_le, q_gt, q_ge, q_eq, q_ne, decide_eq_true_eq, idI, and_true, true_and, and_false, false_and, or_true, true_or, or_false, false_or, not_true_eq_false, not_false_eq_true, if_true, if_false, ite_self, Bool.not_true, Bool.not_false, Bool.false_eq_true, Bool.true_eq_false, decide_true, decide_false, ne_eq, reduceIte, Nat.reduceEqDiff, Option.some.injEq, Prod.mk.injEq, eq_self, n_inb, nI_clamp, w_hr, w_hk, w_hl, w_eq, w_ne, wl_hr, wl_hk, wl_hi, wl_eq, wl_ne, fa_lit, fa_litL, nI_add, pk_mul, nI_ltI, nI_leI, nI_eq, b01, b0, b1, Nat.reduceLeDiff, Nat.reduceAdd, Nat.reduceMul, Nat.reduceSub, Nat.lt_irrefl, Nat.reduceLT, f_ss, f_sR, f_sL, lc0, lc1, lc01, stI, stL, ]
/-- the houses from which it lay there -/
def ftN (P : PT) (l d v : Nat) : Nat → Nat
  | 0 => 0
  | x + 1 => if lyT P l x d = v then ftN P l d v x ||| 2 ^ x else ftN P l d v x
theorem ftN_lt (P : PT) (l d v : Nat) : ∀ x, ftN P l d v x < 2 ^ x
  | 0 => by unfold ftN; omega
  | x + 1 => by
    have ih := ftN_lt P l d v x
    have e : 2 ^ x < 2 ^ (x + 1) := Nat.pow_lt_pow_right (by decide) (by omega)
    unfold ftN
    split
    · exact or_lt (by omega) e
    · omega
theorem x_l8 {t v : Nat} {F22 : Int32} (H : LW L xs h P (told P) a b) (hl : l < P 0 7) (ht : t ≤ P 0 1) (hv : v < 16) : ∃ (g : St) (C' : PT), Llaw_8 (sI (sI (sI (sI (sI (sI (sI (sI (sR (sR (sR (sR (sR (sI (sI (sR (sR (sR (sR (sR (sR (sR (sR (sR (sR fr0 0 1) 1 31) 2 122) 3 123) 4 124) 5 125) 6 126) 7 127) 8 128) 9 129) 10 (nI D)) 11 (nI S)) 12 130) 13 131) 14 132) 15 133) 16 134) 17 (nI A)) 18 (nI l)) 19 F) 20 (nI t)) 21 (nI v)) 22 F22) 23 (nI 0)) 24 (nI 0)) h = some (.inl 0, sI (sI (sI (sI (sI (sI (sI (sI (sR (sR (sR (sR (sR (sI (sI (sR (sR (sR (sR (sR (sR (sR (sR (sR (sR fr0 0 1) 1 31) 2 122) 3 123) 4 124) 5 125) 6 126) 7 127) 8 128) 9 129) 10 (nI D)) 11 (nI S)) 12 130) 13 131) 14 132) 15 133) 16 134) 17 (nI A)) 18 (nI l)) 19 F) 20 (nI t)) 21 (nI v)) 22 F22) 23 (nI (ftN P l t v (P 0 4)))) 24 (nI (P 0 4)), g) ∧ LW L xs g P C' (a + 16) (b + 48) ∧ (C' 0 0 = P 0 2 ∧ C' 0 1 = 0 ∧ C' 0 2 = 0 ∧ C' 0 3 = 0 ∧ ∀ s, s < P 0 7 → s ≠ l → fsS P C' s = P 6 s) := by
  have hW := H.1.w
  have hb := hW.all
  suffices hh : ∃ (n : Nat) (g : St), Llaw_8 (sI (sI (sI (sI (sI (sI (sI (sI (sR (sR (sR (sR (sR (sI (sI (sR (sR (sR (sR (sR (sR (sR (sR (sR (sR fr0 0 1) 1 31) 2 122) 3 123) 4 124) 5 125) 6 126) 7 127) 8 128) 9 129) 10 (nI D)) 11 (nI S)) 12 130) 13 131) 14 132) 15 133) 16 134) 17 (nI A)) 18 (nI l)) 19 F) 20 (nI t)) 21 (nI v)) 22 F22) 23 (nI 0)) 24 (nI 0)) h = some (.inl 0, sI (sI (sI (sI (sI (sI (sI (sI (sR (sR (sR (sR (sR (sI (sI (sR (sR (sR (sR (sR (sR (sR (sR (sR (sR fr0 0 1) 1 31) 2 122) 3 123) 4 124) 5 125) 6 126) 7 127) 8 128) 9 129) 10 (nI D)) 11 (nI S)) 12 130) 13 131) 14 132) 15 133) 16 134) 17 (nI A)) 18 (nI l)) 19 F) 20 (nI t)) 21 (nI v)) 22 F22) 23 (nI n)) 24 (nI (P 0 4)), g) ∧ n = ftN P l t v (P 0 4) ∧ ∃ C', LW L xs g P C' (a + 2 * P 0 4) (b + 6 * P 0 4) ∧ (C' 0 0 = P 0 2 ∧ C' 0 1 = 0 ∧ C' 0 2 = 0 ∧ C' 0 3 = 0 ∧ ∀ s, s < P 0 7 → s ≠ l → fsS P C' s = P 6 s) by
    obtain ⟨n, g, x, rfl, C', y1, y2⟩ := hh
    exact ⟨g, C', x, y1.le (by omega) (by omega), y2⟩
  unfold Llaw_8
  refine loop_a (fun k (n : Nat) => sI (sI (sI (sI (sI (sI (sI (sI (sR (sR (sR (sR (sR (sI (sI (sR (sR (sR (sR (sR (sR (sR (sR (sR (sR fr0 0 1) 1 31) 2 122) 3 123) 4 124) 5 125) 6 126) 7 127) 8 128) 9 129) 10 (nI D)) 11 (nI S)) 12 130) 13 131) 14 132) 15 133) 16 134) 17 (nI A)) 18 (nI l)) 19 F) 20 (nI t)) 21 (nI v)) 22 F22) 23 (nI n)) 24 (nI k)) (fun k n g => n = ftN P l t v k ∧ ∃ C', LW L xs g P C' (a + 2 * k) (b + 6 * k) ∧ (C' 0 0 = P 0 2 ∧ C' 0 1 = 0 ∧ C' 0 2 = 0 ∧ C' 0 3 = 0 ∧ ∀ s, s < P 0 7 → s ≠ l → fsS P C' s = P 6 s)) (P 0 4) 0 rfl ⟨rfl, told P, H, rfl, rfl, rfl, rfl, fun s _ _ => fsS_told P s⟩ (fun k n g hk1 hI => ?_) (fun n g hI => ?_)
  · obtain ⟨en, C1, H1, y0, y1, y2, y3, y4⟩ := hI
    obtain ⟨h2, eh⟩ : ∃ z, z = wI g 129 l (nI k) := ⟨_, rfl⟩
    have H2 : LW L xs h2 P (mvT P l k) (a + 2 * k) (b + 6 * k) := by
      rw [eh]
      refine H1.fw (fun tf ⟨t0, t1, t2, t3, t4, t5, t6, t7⟩ => ⟨t0, ?_, t2, t3, t4, t5, ?_, ?_⟩) (fun s hs => ?_) hl
      · rw [t1, y0]; rfl
      · rw [t6, y3]; rfl
      · rw [t7, y2]; rfl
      · by_cases y : s = l
        · rw [if_pos y]
          show (if s + 1 = l + 1 then k + 1 - 1 else P 6 s) = k
          rw [if_pos (by omega)]
          omega
        · rw [if_neg y, y4 s hs y]
          exact if_neg (show ¬ s + 1 = l + 1 by omega)
    have hX : WFX P (mvT P l k) := WFX_mv hW Z0 hl hk1
    obtain ⟨g3, x3, H3, G3, -⟩ := H2.run hX rfl
    obtain ⟨⟨tf, t1, t2⟩, -, -, -, -, ⟨ff, f1, -⟩, -⟩ := H1.2.2.1
    have kt := t1.1
    have kf := f1.1
    have v2 : hi g 124 2 = nI (P 0 4) := by rw [t1.2 2 (by decide), t2.2.2.1]
    obtain ⟨-, -, -, -, -, -, ⟨-, k131, -⟩, -⟩ := H3.2.2.1
    obtain ⟨-, ⟨m, m1, m2, m3⟩, -⟩ := G3.1 t ht
    have a1 := x_lies (h := g3) m (s := l) (by omega) (by omega)
    rw [show m / 2 ^ (10 * l) % 16 = lyT P l k t from (m3 l hl).1] at a1
    have ly16 : lyT P l k t < 16 := by
      have := (m3 l hl).1
      have e := fld_lt m (10 * l) 4
      have e2 : lyT P l k t = fld m (10 * l) 4 := this.symm
      omega
    have n8 := ftN_lt P l t v k
    have pk : 2 ^ k < 2 ^ 8 := pow_lt (by omega)
    have s1 : o_ishl (nI 1) (nI k) = nI (2 ^ k) := by rw [q_ishl (by omega) (by omega), Nat.one_mul]
    have CM : mvT P l k 0 0 = P 0 2 ∧ mvT P l k 0 1 = 0 ∧ mvT P l k 0 2 = 0 ∧ mvT P l k 0 3 = 0 ∧ ∀ s, s < P 0 7 → s ≠ l → fsS P (mvT P l k) s = P 6 s := ⟨rfl, rfl, rfl, rfl, fun s _ y => if_neg (show ¬ s + 1 = l + 1 by omega)⟩
    by_cases y : lyT P l k t = v
    · refine ⟨n ||| 2 ^ k, g3, ?_, ?_, mvT P l k, H3.le (by omega) (by omega), CM⟩
      · have y' : (nI (lyT P l k t) = nI v) = True := by rw [y]; exact eq_self _
        simp (maxSteps := 4000000) (disch := omega) only [ob_t, ob_n, ob_ite, e_cI, e_cL, e_cR, e_vI, e_vL, e_vR, e_d2, e_d2_a, e_d2_b, e_d2z, e_d2z_a, e_d2z_b, e_d1, e_d1_a, e_GI, e_GI_a, e_GL, e_GL_a, e_GR, e_GR_a, e_AI, e_AI_a, e_AI_b, e_AB, e_AB_a, e_AB_b, e_AZ, e_AZ_a, e_AZ_b, e_AL, e_AL_a, e_AL_b, e_AR, e_AR_a, e_AR_b, e_Len, e_Len_a, e_CI, e_CI_a, e_CI_b, e_CZ, e_CZ_a, e_And, e_kAnd, e_Or, e_kOr, e_Not, e_kNot, e_B, e_kB, e_T, e_kT, e_NN, e_kNN, e_NewA, e_NewA_a, e_NewC, e_kNewC, e_aN, e_aI, e_aI_a, e_aI_b, e_aL, e_aL_a, e_aL_b, e_aR, e_aR_a, e_aR_b, e_Call, e_kCall, e_CallV, e_kCallV, e_SetI, e_kSetI, e_SetL, e_kSetL, e_SetR, e_kSetR, e_Inc, e_Skip, e_Brk, e_Cnt, e_Ret, e_kRet, e_Ret0, e_Seq, e_kSeq0, e_kSeq1, e_kSeq2, e_kSeqR, e_If, e_kIf, e_Do, e_kDo, e_Sup, e_kN0, e_d3, e_k3a, e_k3b, e_k3c, e_P, e_kPa, e_kPb, e_UA, e_kUAa, e_kUAb, e_kUAc, e_UL, e_kULa, e_kULb, e_kULc, e_UF, e_kUFa, e_kUFb, e_Cp, e_kCp, e_Sw, e_kSwa, e_kSwb0, e_kSwb1, e_kSwbR, e_M1, e_kM1, e_MZ, e_kMZ, e_MN, e_kMN, e_Tv, e_kTv, e_Tc, e_kTc, e_lpS, e_kLp, e_kLpB0, e_kLpB1, e_kLpB2, e_kLpBR, e_kLpU, e_dwS, e_kDwB0, e_kDwC, f_II, f_LL, f_RR, f_IL, f_IR, f_LI, f_LR, f_RI, f_RL, o_iadd, o_isub, o_imul, o_iand, o_ior, o_ixor, o_ladd, o_lsub, o_lmul, o_land, o_lor, o_i2b, o_i2s, o_lneg, o_imax, o_imin, r_lt, r_le, r_gt, r_ge, r_eq, r_ne, q_lt, q_le, q_gt, q_ge, q_eq, q_ne, decide_eq_true_eq, idI, and_true, true_and, and_false, false_and, or_true, true_or, or_false, false_or, not_true_eq_false, not_false_eq_true, if_true, if_false, ite_self, Bool.not_true, Bool.not_false, Bool.false_eq_true, Bool.true_eq_false, decide_true, decide_false, ne_eq, reduceIte, Nat.reduceEqDiff, Option.some.injEq, Prod.mk.injEq, eq_self, n_inb, nI_clamp, w_hr, w_hk, w_hl, w_eq, w_ne, wl_hr, wl_hk, wl_hi, wl_eq, wl_ne, fa_lit, fa_litL, nI_add, pk_mul, nI_ltI, nI_leI, nI_eq, b01, b0, b1, Nat.reduceLeDiff, Nat.reduceAdd, Nat.reduceMul, Nat.reduceSub, Nat.lt_irrefl, Nat.reduceLT, f_ss, f_sR, f_sL, lc0, lc1, lc01, stI, stL, kt, v2, hk1, kf, ← eh, x3, k131, m1, a1, y', s1, fa_or]
      · rw [en]
        exact (if_pos y).symm
    · refine ⟨n, g3, ?_, ?_, mvT P l k, H3.le (by omega) (by omega), CM⟩
      · have y' : (nI (lyT P l k t) = nI v) = False := by rw [nI_eq (by omega) (by omega)]; exact eq_false y
        simp (maxSteps := 4000000) (disch := omega) only [ob_t, ob_n, ob_ite, e_cI, e_cL, e_cR, e_vI, e_vL, e_vR, e_d2, e_d2_a, e_d2_b, e_d2z, e_d2z_a, e_d2z_b, e_d1, e_d1_a, e_GI, e_GI_a, e_GL, e_GL_a, e_GR, e_GR_a, e_AI, e_AI_a, e_AI_b, e_AB, e_AB_a, e_AB_b, e_AZ, e_AZ_a, e_AZ_b, e_AL, e_AL_a, e_AL_b, e_AR, e_AR_a, e_AR_b, e_Len, e_Len_a, e_CI, e_CI_a, e_CI_b, e_CZ, e_CZ_a, e_And, e_kAnd, e_Or, e_kOr, e_Not, e_kNot, e_B, e_kB, e_T, e_kT, e_NN, e_kNN, e_NewA, e_NewA_a, e_NewC, e_kNewC, e_aN, e_aI, e_aI_a, e_aI_b, e_aL, e_aL_a, e_aL_b, e_aR, e_aR_a, e_aR_b, e_Call, e_kCall, e_CallV, e_kCallV, e_SetI, e_kSetI, e_SetL, e_kSetL, e_SetR, e_kSetR, e_Inc, e_Skip, e_Brk, e_Cnt, e_Ret, e_kRet, e_Ret0, e_Seq, e_kSeq0, e_kSeq1, e_kSeq2, e_kSeqR, e_If, e_kIf, e_Do, e_kDo, e_Sup, e_kN0, e_d3, e_k3a, e_k3b, e_k3c, e_P, e_kPa, e_kPb, e_UA, e_kUAa, e_kUAb, e_kUAc, e_UL, e_kULa, e_kULb, e_kULc, e_UF, e_kUFa, e_kUFb, e_Cp, e_kCp, e_Sw, e_kSwa, e_kSwb0, e_kSwb1, e_kSwbR, e_M1, e_kM1, e_MZ, e_kMZ, e_MN, e_kMN, e_Tv, e_kTv, e_Tc, e_kTc, e_lpS, e_kLp, e_kLpB0, e_kLpB1, e_kLpB2, e_kLpBR, e_kLpU, e_dwS, e_kDwB0, e_kDwC, f_II, f_LL, f_RR, f_IL, f_IR, f_LI, f_LR, f_RI, f_RL, o_iadd, o_isub, o_imul, o_iand, o_ior, o_ixor, o_ladd, o_lsub, o_lmul, o_land, o_lor, o_i2b, o_i2s, o_lneg, o_imax, o_imin, r_lt, r_le, r_gt, r_ge, r_eq, r_ne, q_lt, q_le, q_gt, q_ge, q_eq, q_ne, decide_eq_true_eq, idI, and_true, true_and, and_false, false_and, or_true, true_or, or_false, false_or, not_true_eq_false, not_false_eq_true, if_true, if_false, ite_self, Bool.not_true, Bool.not_false, Bool.false_eq_true, Bool.true_eq_false, decide_true, decide_false, ne_eq, reduceIte, Nat.reduceEqDiff, Option.some.injEq, Prod.mk.injEq, eq_self, n_inb, nI_clamp, w_hr, w_hk, w_hl, w_eq, w_ne, wl_hr, wl_hk, wl_hi, wl_eq, wl_ne, fa_lit, fa_litL, nI_add, pk_mul, nI_ltI, nI_leI, nI_eq, b01, b0, b1, Nat.reduceLeDiff, Nat.reduceAdd, Nat.reduceMul, Nat.reduceSub, Nat.lt_irrefl, Nat.reduceLT, f_ss, f_sR, f_sL, lc0, lc1, lc01, stI, stL, kt, v2, hk1, kf, ← eh, x3, k131, m1, a1, y', fa_or, Nat.or_zero]
      · rw [en]
        exact (if_neg y).symm
  · obtain ⟨en, C1, H1, y0⟩ := hI
    obtain ⟨⟨tf, t1, t2⟩, -⟩ := H1.2.2.1
    have kt := t1.1
    have v2 : hi g 124 2 = nI (P 0 4) := by rw [t1.2 2 (by decide), t2.2.2.1]
    refine lp_out ?_
    simp (maxSteps := 4000000) (disch := omega) only [ob_t, ob_n, ob_ite, e_cI, e_cL, e_cR, e_vI, e_vL, e_vR, e_d2, e_d2_a, e_d2_b, e_d2z, e_d2z_a, e_d2z_b, e_d1, e_d1_a, e_GI, e_GI_a, e_GL, e_GL_a, e_GR, e_GR_a, e_AI, e_AI_a, e_AI_b, e_AB, e_AB_a, e_AB_b, e_AZ, e_AZ_a, e_AZ_b, e_AL, e_AL_a, e_AL_b, e_AR, e_AR_a, e_AR_b, e_Len, e_Len_a, e_CI, e_CI_a, e_CI_b, e_CZ, e_CZ_a, e_And, e_kAnd, e_Or, e_kOr, e_Not, e_kNot, e_B, e_kB, e_T, e_kT, e_NN, e_kNN, e_NewA, e_NewA_a, e_NewC, e_kNewC, e_aN, e_aI, e_aI_a, e_aI_b, e_aL, e_aL_a, e_aL_b, e_aR, e_aR_a, e_aR_b, e_Call, e_kCall, e_CallV, e_kCallV, e_SetI, e_kSetI, e_SetL, e_kSetL, e_SetR, e_kSetR, e_Inc, e_Skip, e_Brk, e_Cnt, e_Ret, e_kRet, e_Ret0, e_Seq, e_kSeq0, e_kSeq1, e_kSeq2, e_kSeqR, e_If, e_kIf, e_Do, e_kDo, e_Sup, e_kN0, e_d3, e_k3a, e_k3b, e_k3c, e_P, e_kPa, e_kPb, e_UA, e_kUAa, e_kUAb, e_kUAc, e_UL, e_kULa, e_kULb, e_kULc, e_UF, e_kUFa, e_kUFb, e_Cp, e_kCp, e_Sw, e_kSwa, e_kSwb0, e_kSwb1, e_kSwbR, e_M1, e_kM1, e_MZ, e_kMZ, e_MN, e_kMN, e_Tv, e_kTv, e_Tc, e_kTc, e_lpS, e_kLp, e_kLpB0, e_kLpB1, e_kLpB2, e_kLpBR, e_kLpU, e_dwS, e_kDwB0, e_kDwC, f_II, f_LL, f_RR, f_IL, f_IR, f_LI, f_LR, f_RI, f_RL, o_iadd, o_isub, o_imul, o_iand, o_ior, o_ixor, o_ladd, o_lsub, o_lmul, o_land, o_lor, o_i2b, o_i2s, o_lneg, o_imax, o_imin, r_lt, r_le, r_gt, r_ge, r_eq, r_ne, q_lt, q_le, q_gt, q_ge, q_eq, q_ne, decide_eq_true_eq, idI, and_true, true_and, and_false, false_and, or_true, true_or, or_false, false_or, not_true_eq_false, not_false_eq_true, if_true, if_false, ite_self, Bool.not_true, Bool.not_false, Bool.false_eq_true, Bool.true_eq_false, decide_true, decide_false, ne_eq, reduceIte, Nat.reduceEqDiff, Option.some.injEq, Prod.mk.injEq, eq_self, n_inb, nI_clamp, w_hr, w_hk, w_hl, w_eq, w_ne, wl_hr, wl_hk, wl_hi, wl_eq, wl_ne, fa_lit, fa_litL, nI_add, pk_mul, nI_ltI, nI_leI, nI_eq, b01, b0, b1, Nat.reduceLeDiff, Nat.reduceAdd, Nat.reduceMul, Nat.reduceSub, Nat.lt_irrefl, Nat.reduceLT, f_ss, f_sR, f_sL, lc0, lc1, lc01, stI, stL, kt, v2]
end
end
