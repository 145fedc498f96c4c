set_option maxRecDepth 100000
set_option maxHeartbeats 1000000
/-! what is made anew: a Port -/
section
variable {h : St}
theorem x_newPort {p : Nat} (hp0 : 31 ≤ p) (hn0 : hn h = p + 1) (hk0 : hk h p = (5, 0)) : ∃ g, DX5_init (sR fr0 0 p) h = some ((), g) ∧ hn g = p + 16 ∧ hs g = hs h + 243 ∧ PS g p ∧ (∀ r, r < p → hk g r = hk h r) ∧ (∀ r j, r < p → hr g r j = hr h r j) ∧ ∀ r, r < p → hi g r = hi h r ∧ hl g r = hl h r := by
  obtain ⟨g1, c1, n1⟩ := n_arr (α := Unit) (h := h) (sR fr0 0 p) (cl := 5) (k := 8) (t := 0) (n := 8) (o := p) (q := p + 1) hn0 rfl (by rw [hk0]) (by omega) (by decide)
  obtain ⟨g2, c2, n2⟩ := n_arr (α := Unit) (h := g1) (sR fr0 0 p) (cl := 5) (k := 9) (t := 0) (n := 12) (o := p) (q := p + 2) (by rw [n1.1]) rfl (by rw [n1.2.2.2.2.1 p (by omega), hk0]) (by omega) (by decide)
  obtain ⟨g3, c3, n3⟩ := n_arr (α := Unit) (h := g2) (sR fr0 0 p) (cl := 5) (k := 10) (t := 0) (n := 12) (o := p) (q := p + 3) (by rw [n2.1]) rfl (by rw [n2.2.2.2.2.1 p (by omega), n1.2.2.2.2.1 p (by omega), hk0]) (by omega) (by decide)
  obtain ⟨g4, c4, n4⟩ := n_arr (α := Unit) (h := g3) (sR fr0 0 p) (cl := 5) (k := 11) (t := 0) (n := 5) (o := p) (q := p + 4) (by rw [n3.1]) rfl (by rw [n3.2.2.2.2.1 p (by omega), n2.2.2.2.2.1 p (by omega), n1.2.2.2.2.1 p (by omega), hk0]) (by omega) (by decide)
  obtain ⟨g5, c5, n5⟩ := n_arr (α := Unit) (h := g4) (sR fr0 0 p) (cl := 5) (k := 12) (t := 0) (n := 5) (o := p) (q := p + 5) (by rw [n4.1]) rfl (by rw [n4.2.2.2.2.1 p (by omega), n3.2.2.2.2.1 p (by omega), n2.2.2.2.2.1 p (by omega), n1.2.2.2.2.1 p (by omega), hk0]) (by omega) (by decide)
  obtain ⟨g6, c6, n6⟩ := n_arr (α := Unit) (h := g5) (sR fr0 0 p) (cl := 5) (k := 13) (t := 0) (n := 3) (o := p) (q := p + 6) (by rw [n5.1]) rfl (by rw [n5.2.2.2.2.1 p (by omega), n4.2.2.2.2.1 p (by omega), n3.2.2.2.2.1 p (by omega), n2.2.2.2.2.1 p (by omega), n1.2.2.2.2.1 p (by omega), hk0]) (by omega) (by decide)
  obtain ⟨g7, c7, n7⟩ := n_arr (α := Unit) (h := g6) (sR fr0 0 p) (cl := 5) (k := 14) (t := 0) (n := 3) (o := p) (q := p + 7) (by rw [n6.1]) rfl (by rw [n6.2.2.2.2.1 p (by omega), n5.2.2.2.2.1 p (by omega), n4.2.2.2.2.1 p (by omega), n3.2.2.2.2.1 p (by omega), n2.2.2.2.2.1 p (by omega), n1.2.2.2.2.1 p (by omega), hk0]) (by omega) (by decide)
  obtain ⟨g8, c8, n8⟩ := n_arr (α := Unit) (h := g7) (sR fr0 0 p) (cl := 5) (k := 15) (t := 0) (n := 18) (o := p) (q := p + 8) (by rw [n7.1]) rfl (by rw [n7.2.2.2.2.1 p (by omega), n6.2.2.2.2.1 p (by omega), n5.2.2.2.2.1 p (by omega), n4.2.2.2.2.1 p (by omega), n3.2.2.2.2.1 p (by omega), n2.2.2.2.2.1 p (by omega), n1.2.2.2.2.1 p (by omega), hk0]) (by omega) (by decide)
  have hn8 : hn g8 = p + 9 := n8.1
  have hk9 : hk (wN g8 (1, 0) (clN 1)) (p + 9) = (1, 0) := by rw [← hn8]; exact wN_hk'
  obtain ⟨g9, c9, m1, m2, m3, m4, m5, m6, m7, -⟩ := x_newCar (h := wN g8 (1, 0) (clN 1)) (o := p + 9) (by omega) (by rw [wN_hn, hn8]) hk9
  have o1 : ∀ r, r < p + 9 → hk g9 r = hk g8 r := fun r hr1 => by rw [m5 r (by omega), wN_hk (by omega)]
  have o2 : ∀ r j, r < p + 9 → hr g9 r j = hr g8 r j := fun r j hr1 => by rw [m6 r j (by omega), wN_hr (by omega)]
  have o3 : ∀ r, r < p + 9 → hi g9 r = hi g8 r ∧ hl g9 r = hl g8 r := fun r hr1 => by rw [(m7 r (by omega)).1, (m7 r (by omega)).2, wN_hi (by omega), wN_hl (by omega)]; exact ⟨rfl, rfl⟩
  have k8 : hk g8 p = (5, 0) := by rw [n8.2.2.2.2.1 p (by omega), n7.2.2.2.2.1 p (by omega), n6.2.2.2.2.1 p (by omega), n5.2.2.2.2.1 p (by omega), n4.2.2.2.2.1 p (by omega), n3.2.2.2.2.1 p (by omega), n2.2.2.2.2.1 p (by omega), n1.2.2.2.2.1 p (by omega), hk0]
  have c10 : fR 5 16 p (p + 9) g9 = some (wR g9 p 16 (p + 9)) := by
    unfold fR
    rw [if_pos (by rw [o1 p (by omega), k8])]
  have c11 : (dP (fR 5 16) (vR 0) (dNewC 1 DX1_init) : Sm Unit) (sR fr0 0 p) g8 = some (.inl 0, sR fr0 0 p, wR g9 p 16 (p + 9)) := by
    rw [e_P, e_vR, ob_t, e_kPa, e_NewC, hn8, c9, ob_t, e_kNewC, ob_t, e_kPb, show gR (sR fr0 0 p) 0 = p by rfl, c10, ob_t]
    rfl
  have hpn : p ≠ 0 := by omega
  refine ⟨wR g9 p 16 (p + 9), ?_, m1.trans (by omega), ?_, ⟨hp0, fun j hj => ?_, fun j hj => ?_, fun j hj => ?_⟩, fun r hr1 => ?_, fun r j hr1 => ?_, fun r hr1 => ?_⟩
  · simp (disch := omega) only [ob_t, ob_n, ob_ite, e_cI, e_cL, e_cR, e_vI, e_vL, e_vR, e_d2, e_d2_a, e_d2_b, e_d2z, e_d2z_a, e_d2z_b, e_d1, e_d1_a, e_GI, e_GI_a, e_GL, e_GL_a, e_GR, e_GR_a, e_AI, e_AI_a, e_AI_b, e_AB, e_AB_a, e_AB_b, e_AZ, e_AZ_a, e_AZ_b, e_AL, e_AL_a, e_AL_b, e_AR, e_AR_a, e_AR_b, e_Len, e_Len_a, e_CI, e_CI_a, e_CI_b, e_CZ, e_CZ_a, e_And, e_kAnd, e_Or, e_kOr, e_Not, e_kNot, e_B, e_kB, e_T, e_kT, e_NN, e_kNN, e_NewA, e_NewA_a, e_NewC, e_kNewC, e_aN, e_aI, e_aI_a, e_aI_b, e_aL, e_aL_a, e_aL_b, e_aR, e_aR_a, e_aR_b, e_Call, e_kCall, e_CallV, e_kCallV, e_SetI, e_kSetI, e_SetL, e_kSetL, e_SetR, e_kSetR, e_Inc, e_Skip, e_Brk, e_Cnt, e_Ret, e_kRet, e_Ret0, e_Seq, e_kSeq0, e_kSeq1, e_kSeq2, e_kSeqR, e_If, e_kIf, e_Do, e_kDo, e_Sup, e_kN0, e_d3, e_k3a, e_k3b, e_k3c, e_P, e_kPa, e_kPb, e_UA, e_kUAa, e_kUAb, e_kUAc, e_UL, e_kULa, e_kULb, e_kULc, e_UF, e_kUFa, e_kUFb, e_Cp, e_kCp, e_Sw, e_kSwa, e_kSwb0, e_kSwb1, e_kSwbR, e_M1, e_kM1, e_MZ, e_kMZ, e_MN, e_kMN, e_Tv, e_kTv, e_Tc, e_kTc, e_lpS, e_kLp, e_kLpB0, e_kLpB1, e_kLpB2, e_kLpBR, e_kLpU, e_dwS, e_kDwB0, e_kDwC, f_II, f_LL, f_RR, f_IL, f_IR, f_LI, f_LR, f_RI, f_RL, and_true, true_and, and_false, false_and, or_true, true_or, or_false, false_or, not_true_eq_false, not_false_eq_true, if_true, if_false, ite_self, Bool.not_true, Bool.not_false, Bool.false_eq_true, Bool.true_eq_false, decide_true, decide_false, ne_eq, reduceIte, Nat.reduceEqDiff, Option.some.injEq, Prod.mk.injEq, eq_self, fa_lit, DX5_init, BX5_init, hpn, -e_P, -e_NewA, -e_NewC, c1, c2, c3, c4, c5, c6, c7, c8, c11]
  · rw [wR_hs, m2, wN_hs, show clN 1 = 9 by rfl, n8.2.1, n7.2.1, n6.2.1, n5.2.1, n4.2.1, n3.2.1, n2.2.1, n1.2.1]
  · rw [wR_hk]
    match j, hj with
    | 0, _ => rw [o1 _ (by omega)]; exact k8
    | 1, _ => rw [o1 (p + 1) (by omega), n8.2.2.2.2.1 (p + 1) (by omega), n7.2.2.2.2.1 (p + 1) (by omega), n6.2.2.2.2.1 (p + 1) (by omega), n5.2.2.2.2.1 (p + 1) (by omega), n4.2.2.2.2.1 (p + 1) (by omega), n3.2.2.2.2.1 (p + 1) (by omega), n2.2.2.2.2.1 (p + 1) (by omega), n1.2.2.1]; rfl
    | 2, _ => rw [o1 (p + 2) (by omega), n8.2.2.2.2.1 (p + 2) (by omega), n7.2.2.2.2.1 (p + 2) (by omega), n6.2.2.2.2.1 (p + 2) (by omega), n5.2.2.2.2.1 (p + 2) (by omega), n4.2.2.2.2.1 (p + 2) (by omega), n3.2.2.2.2.1 (p + 2) (by omega), n2.2.2.1]; rfl
    | 3, _ => rw [o1 (p + 3) (by omega), n8.2.2.2.2.1 (p + 3) (by omega), n7.2.2.2.2.1 (p + 3) (by omega), n6.2.2.2.2.1 (p + 3) (by omega), n5.2.2.2.2.1 (p + 3) (by omega), n4.2.2.2.2.1 (p + 3) (by omega), n3.2.2.1]; rfl
    | 4, _ => rw [o1 (p + 4) (by omega), n8.2.2.2.2.1 (p + 4) (by omega), n7.2.2.2.2.1 (p + 4) (by omega), n6.2.2.2.2.1 (p + 4) (by omega), n5.2.2.2.2.1 (p + 4) (by omega), n4.2.2.1]; rfl
    | 5, _ => rw [o1 (p + 5) (by omega), n8.2.2.2.2.1 (p + 5) (by omega), n7.2.2.2.2.1 (p + 5) (by omega), n6.2.2.2.2.1 (p + 5) (by omega), n5.2.2.1]; rfl
    | 6, _ => rw [o1 (p + 6) (by omega), n8.2.2.2.2.1 (p + 6) (by omega), n7.2.2.2.2.1 (p + 6) (by omega), n6.2.2.1]; rfl
    | 7, _ => rw [o1 (p + 7) (by omega), n8.2.2.2.2.1 (p + 7) (by omega), n7.2.2.1]; rfl
    | 8, _ => rw [o1 (p + 8) (by omega), n8.2.2.1]; rfl
    | 9, _ => rw [m5 _ (by omega)]; exact hk9
    | 10, _ => rw [show p + 10 = p + 9 + 1 + 0 by omega]; exact m3 0 (by decide)
    | 11, _ => rw [show p + 11 = p + 9 + 1 + 1 by omega]; exact m3 1 (by decide)
    | 12, _ => rw [show p + 12 = p + 9 + 1 + 2 by omega]; exact m3 2 (by decide)
    | 13, _ => rw [show p + 13 = p + 9 + 1 + 3 by omega]; exact m3 3 (by decide)
    | 14, _ => rw [show p + 14 = p + 9 + 1 + 4 by omega]; exact m3 4 (by decide)
    | 15, _ => rw [show p + 15 = p + 9 + 1 + 5 by omega]; exact m3 5 (by decide)
    | n + 16, hj => exact absurd hj (by omega)
  · match j, hj with
    | 0, _ => rw [wR_hr, if_neg (by omega), o2 _ _ (by omega), n8.2.2.2.2.2.1 p (8 + 0) (by omega) (by omega), n7.2.2.2.2.2.1 p (8 + 0) (by omega) (by omega), n6.2.2.2.2.2.1 p (8 + 0) (by omega) (by omega), n5.2.2.2.2.2.1 p (8 + 0) (by omega) (by omega), n4.2.2.2.2.2.1 p (8 + 0) (by omega) (by omega), n3.2.2.2.2.2.1 p (8 + 0) (by omega) (by omega), n2.2.2.2.2.2.1 p (8 + 0) (by omega) (by omega)]; exact n1.2.2.2.1.trans (by omega)
    | 1, _ => rw [wR_hr, if_neg (by omega), o2 _ _ (by omega), n8.2.2.2.2.2.1 p (8 + 1) (by omega) (by omega), n7.2.2.2.2.2.1 p (8 + 1) (by omega) (by omega), n6.2.2.2.2.2.1 p (8 + 1) (by omega) (by omega), n5.2.2.2.2.2.1 p (8 + 1) (by omega) (by omega), n4.2.2.2.2.2.1 p (8 + 1) (by omega) (by omega), n3.2.2.2.2.2.1 p (8 + 1) (by omega) (by omega)]; exact n2.2.2.2.1.trans (by omega)
    | 2, _ => rw [wR_hr, if_neg (by omega), o2 _ _ (by omega), n8.2.2.2.2.2.1 p (8 + 2) (by omega) (by omega), n7.2.2.2.2.2.1 p (8 + 2) (by omega) (by omega), n6.2.2.2.2.2.1 p (8 + 2) (by omega) (by omega), n5.2.2.2.2.2.1 p (8 + 2) (by omega) (by omega), n4.2.2.2.2.2.1 p (8 + 2) (by omega) (by omega)]; exact n3.2.2.2.1.trans (by omega)
    | 3, _ => rw [wR_hr, if_neg (by omega), o2 _ _ (by omega), n8.2.2.2.2.2.1 p (8 + 3) (by omega) (by omega), n7.2.2.2.2.2.1 p (8 + 3) (by omega) (by omega), n6.2.2.2.2.2.1 p (8 + 3) (by omega) (by omega), n5.2.2.2.2.2.1 p (8 + 3) (by omega) (by omega)]; exact n4.2.2.2.1.trans (by omega)
    | 4, _ => rw [wR_hr, if_neg (by omega), o2 _ _ (by omega), n8.2.2.2.2.2.1 p (8 + 4) (by omega) (by omega), n7.2.2.2.2.2.1 p (8 + 4) (by omega) (by omega), n6.2.2.2.2.2.1 p (8 + 4) (by omega) (by omega)]; exact n5.2.2.2.1.trans (by omega)
    | 5, _ => rw [wR_hr, if_neg (by omega), o2 _ _ (by omega), n8.2.2.2.2.2.1 p (8 + 5) (by omega) (by omega), n7.2.2.2.2.2.1 p (8 + 5) (by omega) (by omega)]; exact n6.2.2.2.1.trans (by omega)
    | 6, _ => rw [wR_hr, if_neg (by omega), o2 _ _ (by omega), n8.2.2.2.2.2.1 p (8 + 6) (by omega) (by omega)]; exact n7.2.2.2.1.trans (by omega)
    | 7, _ => rw [wR_hr, if_neg (by omega), o2 _ _ (by omega)]; exact n8.2.2.2.1.trans (by omega)
    | 8, _ => rw [wR_hr, if_pos ⟨rfl, rfl⟩]
  · rw [wR_hr, if_neg (by omega), m4 j hj]
  · rw [wR_hk, o1 r (by omega), n8.2.2.2.2.1 r (by omega), n7.2.2.2.2.1 r (by omega), n6.2.2.2.2.1 r (by omega), n5.2.2.2.2.1 r (by omega), n4.2.2.2.2.1 r (by omega), n3.2.2.2.2.1 r (by omega), n2.2.2.2.2.1 r (by omega), n1.2.2.2.2.1 r (by omega)]
  · rw [wR_hr, if_neg (by omega), o2 r j (by omega), n8.2.2.2.2.2.1 r j (by omega) (by omega), n7.2.2.2.2.2.1 r j (by omega) (by omega), n6.2.2.2.2.2.1 r j (by omega) (by omega), n5.2.2.2.2.2.1 r j (by omega) (by omega), n4.2.2.2.2.2.1 r j (by omega) (by omega), n3.2.2.2.2.2.1 r j (by omega) (by omega), n2.2.2.2.2.2.1 r j (by omega) (by omega), n1.2.2.2.2.2.1 r j (by omega) (by omega)]
  · rw [wR_hi, wR_hl, (o3 r (by omega)).1, (o3 r (by omega)).2, n8.2.2.2.2.2.2.1 r (by omega), n7.2.2.2.2.2.2.1 r (by omega), n6.2.2.2.2.2.2.1 r (by omega), n5.2.2.2.2.2.2.1 r (by omega), n4.2.2.2.2.2.2.1 r (by omega), n3.2.2.2.2.2.2.1 r (by omega), n2.2.2.2.2.2.2.1 r (by omega), n1.2.2.2.2.2.2.1 r (by omega), n8.2.2.2.2.2.2.2.1 r (by omega), n7.2.2.2.2.2.2.2.1 r (by omega), n6.2.2.2.2.2.2.2.1 r (by omega), n5.2.2.2.2.2.2.2.1 r (by omega), n4.2.2.2.2.2.2.2.1 r (by omega), n3.2.2.2.2.2.2.2.1 r (by omega), n2.2.2.2.2.2.2.2.1 r (by omega), n1.2.2.2.2.2.2.2.1 r (by omega)]
    exact ⟨rfl, rfl⟩
end
