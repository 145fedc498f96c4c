set_option maxRecDepth 100000
set_option maxHeartbeats 1000000
/-! what is made anew: a Port's Carries -/
section
variable {h : St}
theorem x_newCar {o : Nat} (ho : o ≠ 0) (hn0 : hn h = o + 1) (hk0 : hk h o = (1, 0)) : ∃ g, DX1_init (sR fr0 0 o) h = some ((), g) ∧ hn g = o + 7 ∧ hs g = hs h + 168 ∧ (∀ j, j < 6 → hk g (o + 1 + j) = (13, [32, 32, 32, 32, 20, 20].getD j 0)) ∧ (∀ j, j < 6 → hr g o (3 + j) = o + 1 + j) ∧ (∀ r, r ≤ o → hk g r = hk h r) ∧ (∀ r j, r < o → hr g r j = hr h r j) ∧ (∀ r, r ≤ o → hi g r = hi h r ∧ hl g r = hl h r) ∧ ∀ r, o < r → r < o + 7 → ∀ j, hi g r j = 0 := by
  obtain ⟨g1, c1, n1⟩ := n_arr (α := Unit) (h := h) (sR fr0 0 o) (cl := 1) (k := 3) (t := 0) (n := 32) (o := o) (q := o + 1) hn0 rfl (by rw [hk0]) (by omega) (by decide)
  obtain ⟨g2, c2, n2⟩ := n_arr (α := Unit) (h := g1) (sR fr0 0 o) (cl := 1) (k := 4) (t := 0) (n := 32) (o := o) (q := o + 2) (by rw [n1.1]) rfl (by rw [n1.2.2.2.2.1 o (by omega), hk0]) (by omega) (by decide)
  obtain ⟨g3, c3, n3⟩ := n_arr (α := Unit) (h := g2) (sR fr0 0 o) (cl := 1) (k := 5) (t := 0) (n := 32) (o := o) (q := o + 3) (by rw [n2.1]) rfl (by rw [n2.2.2.2.2.1 o (by omega), n1.2.2.2.2.1 o (by omega), hk0]) (by omega) (by decide)
  obtain ⟨g4, c4, n4⟩ := n_arr (α := Unit) (h := g3) (sR fr0 0 o) (cl := 1) (k := 6) (t := 0) (n := 32) (o := o) (q := o + 4) (by rw [n3.1]) rfl (by rw [n3.2.2.2.2.1 o (by omega), n2.2.2.2.2.1 o (by omega), n1.2.2.2.2.1 o (by omega), hk0]) (by omega) (by decide)
  obtain ⟨g5, c5, n5⟩ := n_arr (α := Unit) (h := g4) (sR fr0 0 o) (cl := 1) (k := 7) (t := 0) (n := 20) (o := o) (q := o + 5) (by rw [n4.1]) rfl (by rw [n4.2.2.2.2.1 o (by omega), n3.2.2.2.2.1 o (by omega), n2.2.2.2.2.1 o (by omega), n1.2.2.2.2.1 o (by omega), hk0]) (by omega) (by decide)
  obtain ⟨g6, c6, n6⟩ := n_arr (α := Unit) (h := g5) (sR fr0 0 o) (cl := 1) (k := 8) (t := 0) (n := 20) (o := o) (q := o + 6) (by rw [n5.1]) rfl (by rw [n5.2.2.2.2.1 o (by omega), n4.2.2.2.2.1 o (by omega), n3.2.2.2.2.1 o (by omega), n2.2.2.2.2.1 o (by omega), n1.2.2.2.2.1 o (by omega), hk0]) (by omega) (by decide)
  refine ⟨g6, ?_, n6.1, ?_, fun j hj => ?_, fun j hj => ?_, fun r hr1 => ?_, fun r j hr1 => ?_, fun r hr1 => ⟨?_, ?_⟩, fun r h1 h2 j => ?_⟩
  · simp (disch := omega) only [ob_t, ob_n, ob_ite, e_cI, e_cL, e_cR, e_vI, e_vL, e_vR, e_d2, e_d2_a, e_d2_b, e_d2z, e_d2z_a, e_d2z_b, e_d1, e_d1_a, e_GI, e_GI_a, e_GL, e_GL_a, e_GR, e_GR_a, e_AI, e_AI_a, e_AI_b, e_AB, e_AB_a, e_AB_b, e_AZ, e_AZ_a, e_AZ_b, e_AL, e_AL_a, e_AL_b, e_AR, e_AR_a, e_AR_b, e_Len, e_Len_a, e_CI, e_CI_a, e_CI_b, e_CZ, e_CZ_a, e_And, e_kAnd, e_Or, e_kOr, e_Not, e_kNot, e_B, e_kB, e_T, e_kT, e_NN, e_kNN, e_NewA, e_NewA_a, e_NewC, e_kNewC, e_aN, e_aI, e_aI_a, e_aI_b, e_aL, e_aL_a, e_aL_b, e_aR, e_aR_a, e_aR_b, e_Call, e_kCall, e_CallV, e_kCallV, e_SetI, e_kSetI, e_SetL, e_kSetL, e_SetR, e_kSetR, e_Inc, e_Skip, e_Brk, e_Cnt, e_Ret, e_kRet, e_Ret0, e_Seq, e_kSeq0, e_kSeq1, e_kSeq2, e_kSeqR, e_If, e_kIf, e_Do, e_kDo, e_Sup, e_kN0, e_d3, e_k3a, e_k3b, e_k3c, e_P, e_kPa, e_kPb, e_UA, e_kUAa, e_kUAb, e_kUAc, e_UL, e_kULa, e_kULb, e_kULc, e_UF, e_kUFa, e_kUFb, e_Cp, e_kCp, e_Sw, e_kSwa, e_kSwb0, e_kSwb1, e_kSwbR, e_M1, e_kM1, e_MZ, e_kMZ, e_MN, e_kMN, e_Tv, e_kTv, e_Tc, e_kTc, e_lpS, e_kLp, e_kLpB0, e_kLpB1, e_kLpB2, e_kLpBR, e_kLpU, e_dwS, e_kDwB0, e_kDwC, f_II, f_LL, f_RR, f_IL, f_IR, f_LI, f_LR, f_RI, f_RL, and_true, true_and, and_false, false_and, or_true, true_or, or_false, false_or, not_true_eq_false, not_false_eq_true, if_true, if_false, ite_self, Bool.not_true, Bool.not_false, Bool.false_eq_true, Bool.true_eq_false, decide_true, decide_false, ne_eq, reduceIte, Nat.reduceEqDiff, Option.some.injEq, Prod.mk.injEq, eq_self, fa_lit, DX1_init, BX1_init, ho, -e_P, -e_NewA, c1, c2, c3, c4, c5, c6]
  · rw [n6.2.1, n5.2.1, n4.2.1, n3.2.1, n2.2.1, n1.2.1]
  · match j, hj with
    | 0, _ => rw [n6.2.2.2.2.1 (o + 1 + 0) (by omega), n5.2.2.2.2.1 (o + 1 + 0) (by omega), n4.2.2.2.2.1 (o + 1 + 0) (by omega), n3.2.2.2.2.1 (o + 1 + 0) (by omega), n2.2.2.2.2.1 (o + 1 + 0) (by omega), show o + 1 + 0 = o + 1 by omega, n1.2.2.1]; rfl
    | 1, _ => rw [n6.2.2.2.2.1 (o + 1 + 1) (by omega), n5.2.2.2.2.1 (o + 1 + 1) (by omega), n4.2.2.2.2.1 (o + 1 + 1) (by omega), n3.2.2.2.2.1 (o + 1 + 1) (by omega), show o + 1 + 1 = o + 2 by omega, n2.2.2.1]; rfl
    | 2, _ => rw [n6.2.2.2.2.1 (o + 1 + 2) (by omega), n5.2.2.2.2.1 (o + 1 + 2) (by omega), n4.2.2.2.2.1 (o + 1 + 2) (by omega), show o + 1 + 2 = o + 3 by omega, n3.2.2.1]; rfl
    | 3, _ => rw [n6.2.2.2.2.1 (o + 1 + 3) (by omega), n5.2.2.2.2.1 (o + 1 + 3) (by omega), show o + 1 + 3 = o + 4 by omega, n4.2.2.1]; rfl
    | 4, _ => rw [n6.2.2.2.2.1 (o + 1 + 4) (by omega), show o + 1 + 4 = o + 5 by omega, n5.2.2.1]; rfl
    | 5, _ => rw [show o + 1 + 5 = o + 6 by omega, n6.2.2.1]; rfl
  · match j, hj with
    | 0, _ => rw [n6.2.2.2.2.2.1 o (3 + 0) (by omega) (by omega), n5.2.2.2.2.2.1 o (3 + 0) (by omega) (by omega), n4.2.2.2.2.2.1 o (3 + 0) (by omega) (by omega), n3.2.2.2.2.2.1 o (3 + 0) (by omega) (by omega), n2.2.2.2.2.2.1 o (3 + 0) (by omega) (by omega)]; exact n1.2.2.2.1.trans (by omega)
    | 1, _ => rw [n6.2.2.2.2.2.1 o (3 + 1) (by omega) (by omega), n5.2.2.2.2.2.1 o (3 + 1) (by omega) (by omega), n4.2.2.2.2.2.1 o (3 + 1) (by omega) (by omega), n3.2.2.2.2.2.1 o (3 + 1) (by omega) (by omega)]; exact n2.2.2.2.1.trans (by omega)
    | 2, _ => rw [n6.2.2.2.2.2.1 o (3 + 2) (by omega) (by omega), n5.2.2.2.2.2.1 o (3 + 2) (by omega) (by omega), n4.2.2.2.2.2.1 o (3 + 2) (by omega) (by omega)]; exact n3.2.2.2.1.trans (by omega)
    | 3, _ => rw [n6.2.2.2.2.2.1 o (3 + 3) (by omega) (by omega), n5.2.2.2.2.2.1 o (3 + 3) (by omega) (by omega)]; exact n4.2.2.2.1.trans (by omega)
    | 4, _ => rw [n6.2.2.2.2.2.1 o (3 + 4) (by omega) (by omega)]; exact n5.2.2.2.1.trans (by omega)
    | 5, _ => exact n6.2.2.2.1.trans (by omega)
  · rw [n6.2.2.2.2.1 r (by omega), n5.2.2.2.2.1 r (by omega), n4.2.2.2.2.1 r (by omega), n3.2.2.2.2.1 r (by omega), n2.2.2.2.2.1 r (by omega), n1.2.2.2.2.1 r (by omega)]
  · rw [n6.2.2.2.2.2.1 r j (by omega) (by omega), n5.2.2.2.2.2.1 r j (by omega) (by omega), n4.2.2.2.2.2.1 r j (by omega) (by omega), n3.2.2.2.2.2.1 r j (by omega) (by omega), n2.2.2.2.2.2.1 r j (by omega) (by omega), n1.2.2.2.2.2.1 r j (by omega) (by omega)]
  · rw [n6.2.2.2.2.2.2.1 r (by omega), n5.2.2.2.2.2.2.1 r (by omega), n4.2.2.2.2.2.2.1 r (by omega), n3.2.2.2.2.2.2.1 r (by omega), n2.2.2.2.2.2.2.1 r (by omega), n1.2.2.2.2.2.2.1 r (by omega)]
  · rw [n6.2.2.2.2.2.2.2.1 r (by omega), n5.2.2.2.2.2.2.2.1 r (by omega), n4.2.2.2.2.2.2.2.1 r (by omega), n3.2.2.2.2.2.2.2.1 r (by omega), n2.2.2.2.2.2.2.2.1 r (by omega), n1.2.2.2.2.2.2.2.1 r (by omega)]
  · rcases (show r = o + 1 ∨ r = o + 2 ∨ r = o + 3 ∨ r = o + 4 ∨ r = o + 5 ∨ r = o + 6 by omega) with rfl | rfl | rfl | rfl | rfl | rfl
    · rw [n6.2.2.2.2.2.2.1 (o + 1) (by omega), n5.2.2.2.2.2.2.1 (o + 1) (by omega), n4.2.2.2.2.2.2.1 (o + 1) (by omega), n3.2.2.2.2.2.2.1 (o + 1) (by omega), n2.2.2.2.2.2.2.1 (o + 1) (by omega)]; exact n1.2.2.2.2.2.2.2.2.1 j
    · rw [n6.2.2.2.2.2.2.1 (o + 2) (by omega), n5.2.2.2.2.2.2.1 (o + 2) (by omega), n4.2.2.2.2.2.2.1 (o + 2) (by omega), n3.2.2.2.2.2.2.1 (o + 2) (by omega)]; exact n2.2.2.2.2.2.2.2.2.1 j
    · rw [n6.2.2.2.2.2.2.1 (o + 3) (by omega), n5.2.2.2.2.2.2.1 (o + 3) (by omega), n4.2.2.2.2.2.2.1 (o + 3) (by omega)]; exact n3.2.2.2.2.2.2.2.2.1 j
    · rw [n6.2.2.2.2.2.2.1 (o + 4) (by omega), n5.2.2.2.2.2.2.1 (o + 4) (by omega)]; exact n4.2.2.2.2.2.2.2.2.1 j
    · rw [n6.2.2.2.2.2.2.1 (o + 5) (by omega)]; exact n5.2.2.2.2.2.2.2.2.1 j
    · exact n6.2.2.2.2.2.2.2.2.1 j
end
