set_option maxRecDepth 100000
set_option maxHeartbeats 1000000
/-! the class: the least strengths found -/
section
variable {h : St} {a p s t : Nat} {P : PT}
/-- what holds in the search: of a bound pops behind -/
def FN (h : St) (a : Nat) (P : PT) (s t k : Nat) (em : Prop) : Prop := ∃ mk ls aw n nd pp cc, BH h a mk ls aw n nd ∧ AB P s t mk ls aw n nd pp cc 8 ∧ k ≤ pp ∧ (em → ls t = [])
theorem x_fn1 (hA : AS h a) (hG : PG h p P) (hs : s < P 0 7) (hd : p + 16 ≤ a ∨ a + 13 ≤ p) (ht : t < 201) (hP : PR h a P s) (hF : FN h a P s t 0 False) {w3 : Int32} : ∃ g k, LX0_findNeeds_1 (sI (sI (sI (sI (sR (sR fr0 0 a) 1 p) 2 (nI s)) 3 w3) 4 (nI t)) 5 (nI 0)) h = some (.inl 0, sI (sI (sI (sI (sR (sR fr0 0 a) 1 p) 2 (nI s)) 3 w3) 4 (nI t)) 5 (nI k), g) ∧ FN g a P s t 0 True ∧ Ch (ndD a) h g ∧ ∀ j, j ≠ 13 → hi g a j = hi h a j := by
  have hW := hG.w
  have hb := hW.all
  have key : ∃ o, LX0_findNeeds_1 (sI (sI (sI (sI (sR (sR fr0 0 a) 1 p) 2 (nI s)) 3 w3) 4 (nI t)) 5 (nI 0)) h = some o ∧ ∃ g k, o = (.inl 0, sI (sI (sI (sI (sR (sR fr0 0 a) 1 p) 2 (nI s)) 3 w3) 4 (nI t)) 5 (nI k), g) ∧ FN g a P s t 0 True ∧ Ch (ndD a) h g ∧ ∀ j, j ≠ 13 → hi g a j = hi h a j := by
    unfold LX0_findNeeds_1
    refine loop_x (fun k => sI (sI (sI (sI (sR (sR fr0 0 a) 1 p) 2 (nI s)) 3 w3) 4 (nI t)) 5 (nI k)) (fun k g => FN g a P s t k False ∧ Ch (ndD a) h g ∧ ∀ j, j ≠ 13 → hi g a j = hi h a j) (fun o => ∃ g k, o = (.inl 0, sI (sI (sI (sI (sR (sR fr0 0 a) 1 p) 2 (nI s)) 3 w3) 4 (nI t)) 5 (nI k), g) ∧ FN g a P s t 0 True ∧ Ch (ndD a) h g ∧ ∀ j, j ≠ 13 → hi g a j = hi h a j) 3073 rfl ⟨hF, Ch.rf _ _, fun _ _ => rfl⟩ (fun k g hk hI => ?_) (fun g hI => ?_)
    · obtain ⟨⟨mk, ls, aw, n, nd, pp, cc, hB, hAB, hkp, -⟩, hc, hf⟩ := hI
      have hA := hA.to hc.1
      have hGg := hG.ch hc (fun j hj => by unfold ndD; omega)
      have hPg := hP.keepN hc
      have k10 := hA.k10
      have k11 := hA.k11
      have k12 := hA.k12
      have e1 : DX11_cell (sI (sR fr0 0 (a + 10)) 1 (nI t)) g = some (hi g (a + 10) t, g) := x_cellN (by rw [k10]) (hA.ne 10) (by rw [k10]; exact ht) (by rw [k10]; decide)
      have hlk := hB.2.2.1 t ht
      cases hl : ls t with
      | nil =>
        rw [hl] at hlk
        have hlk : hi g (a + 10) t = -nI 1 := hlk
        refine Or.inr ⟨_, ?_, g, k, rfl, ⟨mk, ls, aw, n, nd, pp, cc, hB, hAB, Nat.zero_le _, fun _ => hl⟩, hc, hf⟩
        rw [hlk] at e1
        simp (disch := omega) only [ob_t, ob_n, ob_ite, e_cI, e_cL, e_cR, e_vI, e_vL, e_vR, e_d2, e_d2_a, e_d2_b, e_d2z, e_d2z_a, e_d2z_b, e_d1, e_d1_a, e_GI, e_GI_a, e_GL, e_GL_a, e_GR, e_GR_a, e_AI, e_AI_a, e_AI_b, e_AB, e_AB_a, e_AB_b, e_AZ, e_AZ_a, e_AZ_b, e_AL, e_AL_a, e_AL_b, e_AR, e_AR_a, e_AR_b, e_Len, e_Len_a, e_CI, e_CI_a, e_CI_b, e_CZ, e_CZ_a, e_And, e_kAnd, e_Or, e_kOr, e_Not, e_kNot, e_B, e_kB, e_T, e_kT, e_NN, e_kNN, e_NewA, e_NewA_a, e_NewC, e_kNewC, e_aN, e_aI, e_aI_a, e_aI_b, e_aL, e_aL_a, e_aL_b, e_aR, e_aR_a, e_aR_b, e_Call, e_kCall, e_CallV, e_kCallV, e_SetI, e_kSetI, e_SetL, e_kSetL, e_SetR, e_kSetR, e_Inc, e_Skip, e_Brk, e_Cnt, e_Ret, e_kRet, e_Ret0, e_Seq, e_kSeq0, e_kSeq1, e_kSeq2, e_kSeqR, e_If, e_kIf, e_Do, e_kDo, e_Sup, e_kN0, e_d3, e_k3a, e_k3b, e_k3c, e_P, e_kPa, e_kPb, e_UA, e_kUAa, e_kUAb, e_kUAc, e_UL, e_kULa, e_kULb, e_kULc, e_UF, e_kUFa, e_kUFb, e_Cp, e_kCp, e_Sw, e_kSwa, e_kSwb0, e_kSwb1, e_kSwbR, e_M1, e_kM1, e_MZ, e_kMZ, e_MN, e_kMN, e_Tv, e_kTv, e_Tc, e_kTc, e_lpS, e_kLp, e_kLpB0, e_kLpB1, e_kLpB2, e_kLpBR, e_kLpU, e_dwS, e_kDwB0, e_kDwC, f_II, f_LL, f_RR, f_IL, f_IR, f_LI, f_LR, f_RI, f_RL, o_iadd, o_isub, o_imul, o_iand, o_ior, o_ixor, o_ladd, o_lsub, o_lmul, o_land, o_lor, o_ishl, o_ishr, o_iushr, o_lshl, o_lshr, o_lcmp, o_i2l, o_l2i, o_i2b, o_i2s, o_lneg, o_ineg, o_imax, o_imin, o_idiv, o_irem, o_ldiv, o_lrem, r_lt, r_le, r_gt, r_ge, r_eq, r_ne, q_lt, q_le, q_gt, q_ge, q_eq, q_ne, decide_eq_true_eq, idI, and_true, true_and, and_false, false_and, or_true, true_or, or_false, false_or, not_true_eq_false, not_false_eq_true, if_true, if_false, ite_self, Bool.not_true, Bool.not_false, Bool.false_eq_true, Bool.true_eq_false, decide_true, decide_false, ne_eq, reduceIte, Nat.reduceEqDiff, Option.some.injEq, Prod.mk.injEq, eq_self, fa_lit, nI_add, pk_mul, nI_ltI, nI_leI, nI_eq, b01, b0, b1, x_hasBit, Nat.reduceLeDiff, Nat.reduceAdd, Nat.reduceMul, Nat.reduceSub, Nat.lt_irrefl, Nat.reduceLT, n_inb, nI_clamp, w_hr, w_hk, w_hl, w_eq, w_ne, wl_hr, wl_hk, wl_hi, wl_eq, wl_ne, hA.k, hA.k1, hA.k2, hA.k3, hA.k4, hA.k5, hA.k6, hA.k7, hA.k8, hA.k9, hA.k10, hA.k11, hA.k12, hA.r0, hA.r1, hA.r2, hA.r3, hA.r4, hA.r5, hA.r6, hA.r7, hA.r8, hA.r10, hA.r11, hA.r12, f_ss, f_sR, stI, fI, hk, e1]
      | cons i l =>
        rw [hl] at hlk
        obtain ⟨l1, l2, l3⟩ := hlk
        have hlt := hAB.lt hW hs
        have hn1 : n ≤ 3073 := by omega
        rw [l1] at e1
        have hm1 := n_m1 (a := i) (by omega)
        have e2 : DX11_cell (sI (sR fr0 0 (a + 11)) 1 (nI i)) g = some (hi g (a + 11) i, g) := x_cellN (by rw [k11]) (hA.ne 11) (by rw [k11]; show i < 3073; omega) (by rw [k11]; decide)
        have e3 : DX11_put (sI (sI (sR fr0 0 (a + 10)) 1 (nI t)) 2 (hi g (a + 11) i)) g = some ((), wI g (a + 10) t (hi g (a + 11) i)) := x_put (by rw [k10]) (hA.ne 10) (by rw [k10]; exact ht) (by rw [k10]; decide)
        obtain ⟨g2, hg2⟩ : ∃ g2, g2 = wI g (a + 10) t (hi g (a + 11) i) := ⟨_, rfl⟩
        rw [← hg2] at e3
        have c2 : Ch (ndD a) g g2 := by rw [hg2]; exact Ch.w (by unfold ndD; omega) _ _ _
        have hB2 : BH g2 a mk (fuL ls t l) aw n nd := by
          obtain ⟨b1, b2, b3, b4, b5⟩ := hB
          refine ⟨fun e he => ?_, fun j hj => ?_, fun u hu => ?_, ?_, fun x hx => ?_⟩
          · obtain ⟨b', q⟩ := b1 e he
            exact ⟨b', by rw [hg2, w_ne (by omega)]; exact q⟩
          · rw [hg2, w_ne (by omega)]; exact b2 j hj
          · have e : ∀ j, hi g2 (a + 11) j = hi g (a + 11) j := fun j => by rw [hg2]; exact w_ne (by omega) _ _
            by_cases z : u = t
            · subst z
              rw [fuL_eq, hg2, w_eq, ← hg2]
              exact lnk.ext (fun j _ => e j) (Nat.le_refl _) _ _ l3
            · have e10 : hi g2 (a + 10) u = hi g (a + 10) u := by rw [hg2]; exact w_ne (by omega) _ _
              rw [fuL_ne ls _ z, e10]
              exact lnk.ext (fun j _ => e j) (Nat.le_refl _) _ _ (b3 u hu)
          · rw [hg2, w_ne (by omega)]; exact b4
          · rw [hg2, w_ne (by omega)]; exact b5 x hx
        have hA2 := hA.to c2.1
        have k122 := hA2.k12
        have e4 : DX11_cell (sI (sR fr0 0 (a + 12)) 1 (nI i)) g2 = some (nI (encS (aw i)), g2) := by
          rw [x_cellN (by rw [k122]) (hA.ne 12) (by rw [k122]; show i < 3073; omega) (by rw [k122]; decide), hB2.2.1 i l2]
        obtain ⟨g3, mk', ls', aw', n', nd', cc', a3, b3, h3, c3, f3⟩ := x_settle hA2 (hGg.ch c2 (fun j hj => by unfold ndD; omega)) hs hd ht (hPg.keepN c2) hl hB2 hAB
        refine Or.inl ⟨g3, ?_, ⟨mk', ls', aw', n', nd', pp + 1, cc', b3, h3, by omega, fun q => q.elim⟩, (hc.tr c2).tr c3, fun j hj => ?_⟩
        · have r2 := c2.1.1
          have k2 := c2.1.2.1
          simp (disch := omega) only [ob_t, ob_n, ob_ite, e_cI, e_cL, e_cR, e_vI, e_vL, e_vR, e_d2, e_d2_a, e_d2_b, e_d2z, e_d2z_a, e_d2z_b, e_d1, e_d1_a, e_GI, e_GI_a, e_GL, e_GL_a, e_GR, e_GR_a, e_AI, e_AI_a, e_AI_b, e_AB, e_AB_a, e_AB_b, e_AZ, e_AZ_a, e_AZ_b, e_AL, e_AL_a, e_AL_b, e_AR, e_AR_a, e_AR_b, e_Len, e_Len_a, e_CI, e_CI_a, e_CI_b, e_CZ, e_CZ_a, e_And, e_kAnd, e_Or, e_kOr, e_Not, e_kNot, e_B, e_kB, e_T, e_kT, e_NN, e_kNN, e_NewA, e_NewA_a, e_NewC, e_kNewC, e_aN, e_aI, e_aI_a, e_aI_b, e_aL, e_aL_a, e_aL_b, e_aR, e_aR_a, e_aR_b, e_Call, e_kCall, e_CallV, e_kCallV, e_SetI, e_kSetI, e_SetL, e_kSetL, e_SetR, e_kSetR, e_Inc, e_Skip, e_Brk, e_Cnt, e_Ret, e_kRet, e_Ret0, e_Seq, e_kSeq0, e_kSeq1, e_kSeq2, e_kSeqR, e_If, e_kIf, e_Do, e_kDo, e_Sup, e_kN0, e_d3, e_k3a, e_k3b, e_k3c, e_P, e_kPa, e_kPb, e_UA, e_kUAa, e_kUAb, e_kUAc, e_UL, e_kULa, e_kULb, e_kULc, e_UF, e_kUFa, e_kUFb, e_Cp, e_kCp, e_Sw, e_kSwa, e_kSwb0, e_kSwb1, e_kSwbR, e_M1, e_kM1, e_MZ, e_kMZ, e_MN, e_kMN, e_Tv, e_kTv, e_Tc, e_kTc, e_lpS, e_kLp, e_kLpB0, e_kLpB1, e_kLpB2, e_kLpBR, e_kLpU, e_dwS, e_kDwB0, e_kDwC, f_II, f_LL, f_RR, f_IL, f_IR, f_LI, f_LR, f_RI, f_RL, o_iadd, o_isub, o_imul, o_iand, o_ior, o_ixor, o_ladd, o_lsub, o_lmul, o_land, o_lor, o_ishl, o_ishr, o_iushr, o_lshl, o_lshr, o_lcmp, o_i2l, o_l2i, o_i2b, o_i2s, o_lneg, o_ineg, o_imax, o_imin, o_idiv, o_irem, o_ldiv, o_lrem, r_lt, r_le, r_gt, r_ge, r_eq, r_ne, q_lt, q_le, q_gt, q_ge, q_eq, q_ne, decide_eq_true_eq, idI, and_true, true_and, and_false, false_and, or_true, true_or, or_false, false_or, not_true_eq_false, not_false_eq_true, if_true, if_false, ite_self, Bool.not_true, Bool.not_false, Bool.false_eq_true, Bool.true_eq_false, decide_true, decide_false, ne_eq, reduceIte, Nat.reduceEqDiff, Option.some.injEq, Prod.mk.injEq, eq_self, fa_lit, nI_add, pk_mul, nI_ltI, nI_leI, nI_eq, b01, b0, b1, x_hasBit, Nat.reduceLeDiff, Nat.reduceAdd, Nat.reduceMul, Nat.reduceSub, Nat.lt_irrefl, Nat.reduceLT, n_inb, nI_clamp, w_hr, w_hk, w_hl, w_eq, w_ne, wl_hr, wl_hk, wl_hi, wl_eq, wl_ne, hA.k, hA.k1, hA.k2, hA.k3, hA.k4, hA.k5, hA.k6, hA.k7, hA.k8, hA.k9, hA.k10, hA.k11, hA.k12, hA.r0, hA.r1, hA.r2, hA.r3, hA.r4, hA.r5, hA.r6, hA.r7, hA.r8, hA.r10, hA.r11, hA.r12, f_ss, f_sR, stI, fI, hk, e1, hm1, e2, e3, r2, k2, e4, a3]
        · rw [f3 j hj, hg2, w_ne (by omega)]
          exact hf j hj
    · obtain ⟨⟨mk, ls, aw, n, nd, pp, cc, hB, hAB, hkp, -⟩, hc, hf⟩ := hI
      have hlt := hAB.lt hW hs
      have h6 := hAB.2.2.2.2.2.1
      have hl : ls t = [] := List.length_eq_zero_iff.mp (fb_sm_zero (f := fun u => (ls u).length) (n := 201) (by omega) t ht)
      refine ⟨_, ?_, g, 3073, rfl, ⟨mk, ls, aw, n, nd, pp, cc, hB, hAB, Nat.zero_le _, fun _ => hl⟩, hc, hf⟩
      have hA := hA.to hc.1
      simp (disch := omega) only [ob_t, ob_n, ob_ite, e_cI, e_cL, e_cR, e_vI, e_vL, e_vR, e_d2, e_d2_a, e_d2_b, e_d2z, e_d2z_a, e_d2z_b, e_d1, e_d1_a, e_GI, e_GI_a, e_GL, e_GL_a, e_GR, e_GR_a, e_AI, e_AI_a, e_AI_b, e_AB, e_AB_a, e_AB_b, e_AZ, e_AZ_a, e_AZ_b, e_AL, e_AL_a, e_AL_b, e_AR, e_AR_a, e_AR_b, e_Len, e_Len_a, e_CI, e_CI_a, e_CI_b, e_CZ, e_CZ_a, e_And, e_kAnd, e_Or, e_kOr, e_Not, e_kNot, e_B, e_kB, e_T, e_kT, e_NN, e_kNN, e_NewA, e_NewA_a, e_NewC, e_kNewC, e_aN, e_aI, e_aI_a, e_aI_b, e_aL, e_aL_a, e_aL_b, e_aR, e_aR_a, e_aR_b, e_Call, e_kCall, e_CallV, e_kCallV, e_SetI, e_kSetI, e_SetL, e_kSetL, e_SetR, e_kSetR, e_Inc, e_Skip, e_Brk, e_Cnt, e_Ret, e_kRet, e_Ret0, e_Seq, e_kSeq0, e_kSeq1, e_kSeq2, e_kSeqR, e_If, e_kIf, e_Do, e_kDo, e_Sup, e_kN0, e_d3, e_k3a, e_k3b, e_k3c, e_P, e_kPa, e_kPb, e_UA, e_kUAa, e_kUAb, e_kUAc, e_UL, e_kULa, e_kULb, e_kULc, e_UF, e_kUFa, e_kUFb, e_Cp, e_kCp, e_Sw, e_kSwa, e_kSwb0, e_kSwb1, e_kSwbR, e_M1, e_kM1, e_MZ, e_kMZ, e_MN, e_kMN, e_Tv, e_kTv, e_Tc, e_kTc, e_lpS, e_kLp, e_kLpB0, e_kLpB1, e_kLpB2, e_kLpBR, e_kLpU, e_dwS, e_kDwB0, e_kDwC, f_II, f_LL, f_RR, f_IL, f_IR, f_LI, f_LR, f_RI, f_RL, o_iadd, o_isub, o_imul, o_iand, o_ior, o_ixor, o_ladd, o_lsub, o_lmul, o_land, o_lor, o_ishl, o_ishr, o_iushr, o_lshl, o_lshr, o_lcmp, o_i2l, o_l2i, o_i2b, o_i2s, o_lneg, o_ineg, o_imax, o_imin, o_idiv, o_irem, o_ldiv, o_lrem, r_lt, r_le, r_gt, r_ge, r_eq, r_ne, q_lt, q_le, q_gt, q_ge, q_eq, q_ne, decide_eq_true_eq, idI, and_true, true_and, and_false, false_and, or_true, true_or, or_false, false_or, not_true_eq_false, not_false_eq_true, if_true, if_false, ite_self, Bool.not_true, Bool.not_false, Bool.false_eq_true, Bool.true_eq_false, decide_true, decide_false, ne_eq, reduceIte, Nat.reduceEqDiff, Option.some.injEq, Prod.mk.injEq, eq_self, fa_lit, nI_add, pk_mul, nI_ltI, nI_leI, nI_eq, b01, b0, b1, x_hasBit, Nat.reduceLeDiff, Nat.reduceAdd, Nat.reduceMul, Nat.reduceSub, Nat.lt_irrefl, Nat.reduceLT, n_inb, nI_clamp, w_hr, w_hk, w_hl, w_eq, w_ne, wl_hr, wl_hk, wl_hi, wl_eq, wl_ne, hA.k, hA.k1, hA.k2, hA.k3, hA.k4, hA.k5, hA.k6, hA.k7, hA.k8, hA.k9, hA.k10, hA.k11, hA.k12, hA.r0, hA.r1, hA.r2, hA.r3, hA.r4, hA.r5, hA.r6, hA.r7, hA.r8, hA.r10, hA.r11, hA.r12, f_ss, f_sR, stI, fI, Nat.lt_irrefl]
  obtain ⟨o, q1, g, k, rfl, q2⟩ := key
  exact ⟨g, k, q1, q2⟩
theorem x_fn2 (hA : AS h a) (hG : PG h p P) (hs : s < P 0 7) (hd : p + 16 ≤ a ∨ a + 13 ≤ p) (hP : PR h a P s) (hF : FN h a P s 0 0 False) {w3 : Int32} : ∃ g, LX0_findNeeds_2 (sI (sI (sI (sR (sR fr0 0 a) 1 p) 2 (nI s)) 3 w3) 4 (nI 0)) h = some (.inl 0, sI (sI (sI (sR (sR fr0 0 a) 1 p) 2 (nI s)) 3 w3) 4 (nI 201), g) ∧ FN g a P s 201 0 False ∧ Ch (ndD a) h g ∧ ∀ j, j ≠ 13 → hi g a j = hi h a j := by
  have hW := hG.w
  have hb := hW.all
  unfold LX0_findNeeds_2
  refine loop_g (fun k => sI (sI (sI (sR (sR fr0 0 a) 1 p) 2 (nI s)) 3 w3) 4 (nI k)) (fun k g => FN g a P s k 0 False ∧ Ch (ndD a) h g ∧ ∀ j, j ≠ 13 → hi g a j = hi h a j) 201 rfl ⟨hF, Ch.rf _ _, fun _ _ => rfl⟩ (fun k g hk hI => ?_) (fun g hI => ?_)
  · obtain ⟨hFg, hc, hf⟩ := hI
    obtain ⟨g2, k2, L, ⟨mk, ls, aw, n, nd, pp, cc, hB, hAB, -, hl⟩, c2, f2⟩ := x_fn1 (hA.to hc.1) (hG.ch hc (fun j hj => by unfold ndD; omega)) hs hd hk (hP.keepN hc) hFg (w3 := w3)
    refine ⟨g2, ?_, ⟨mk, ls, aw, n, nd, pp, cc, hB, (hAB.next hW hs (hl trivial)).1, Nat.zero_le _, fun q => q.elim⟩, hc.tr c2, fun j hj => (f2 j hj).trans (hf j hj)⟩
    have hA := hA.to hc.1
    simp (disch := omega) only [ob_t, ob_n, ob_ite, e_cI, e_cL, e_cR, e_vI, e_vL, e_vR, e_d2, e_d2_a, e_d2_b, e_d2z, e_d2z_a, e_d2z_b, e_d1, e_d1_a, e_GI, e_GI_a, e_GL, e_GL_a, e_GR, e_GR_a, e_AI, e_AI_a, e_AI_b, e_AB, e_AB_a, e_AB_b, e_AZ, e_AZ_a, e_AZ_b, e_AL, e_AL_a, e_AL_b, e_AR, e_AR_a, e_AR_b, e_Len, e_Len_a, e_CI, e_CI_a, e_CI_b, e_CZ, e_CZ_a, e_And, e_kAnd, e_Or, e_kOr, e_Not, e_kNot, e_B, e_kB, e_T, e_kT, e_NN, e_kNN, e_NewA, e_NewA_a, e_NewC, e_kNewC, e_aN, e_aI, e_aI_a, e_aI_b, e_aL, e_aL_a, e_aL_b, e_aR, e_aR_a, e_aR_b, e_Call, e_kCall, e_CallV, e_kCallV, e_SetI, e_kSetI, e_SetL, e_kSetL, e_SetR, e_kSetR, e_Inc, e_Skip, e_Brk, e_Cnt, e_Ret, e_kRet, e_Ret0, e_Seq, e_kSeq0, e_kSeq1, e_kSeq2, e_kSeqR, e_If, e_kIf, e_Do, e_kDo, e_Sup, e_kN0, e_d3, e_k3a, e_k3b, e_k3c, e_P, e_kPa, e_kPb, e_UA, e_kUAa, e_kUAb, e_kUAc, e_UL, e_kULa, e_kULb, e_kULc, e_UF, e_kUFa, e_kUFb, e_Cp, e_kCp, e_Sw, e_kSwa, e_kSwb0, e_kSwb1, e_kSwbR, e_M1, e_kM1, e_MZ, e_kMZ, e_MN, e_kMN, e_Tv, e_kTv, e_Tc, e_kTc, e_lpS, e_kLp, e_kLpB0, e_kLpB1, e_kLpB2, e_kLpBR, e_kLpU, e_dwS, e_kDwB0, e_kDwC, f_II, f_LL, f_RR, f_IL, f_IR, f_LI, f_LR, f_RI, f_RL, o_iadd, o_isub, o_imul, o_iand, o_ior, o_ixor, o_ladd, o_lsub, o_lmul, o_land, o_lor, o_ishl, o_ishr, o_iushr, o_lshl, o_lshr, o_lcmp, o_i2l, o_l2i, o_i2b, o_i2s, o_lneg, o_ineg, o_imax, o_imin, o_idiv, o_irem, o_ldiv, o_lrem, r_lt, r_le, r_gt, r_ge, r_eq, r_ne, q_lt, q_le, q_gt, q_ge, q_eq, q_ne, decide_eq_true_eq, idI, and_true, true_and, and_false, false_and, or_true, true_or, or_false, false_or, not_true_eq_false, not_false_eq_true, if_true, if_false, ite_self, Bool.not_true, Bool.not_false, Bool.false_eq_true, Bool.true_eq_false, decide_true, decide_false, ne_eq, reduceIte, Nat.reduceEqDiff, Option.some.injEq, Prod.mk.injEq, eq_self, fa_lit, nI_add, pk_mul, nI_ltI, nI_leI, nI_eq, b01, b0, b1, x_hasBit, Nat.reduceLeDiff, Nat.reduceAdd, Nat.reduceMul, Nat.reduceSub, Nat.lt_irrefl, Nat.reduceLT, n_inb, nI_clamp, w_hr, w_hk, w_hl, w_eq, w_ne, wl_hr, wl_hk, wl_hi, wl_eq, wl_ne, hA.k, hA.k1, hA.k2, hA.k3, hA.k4, hA.k5, hA.k6, hA.k7, hA.k8, hA.k9, hA.k10, hA.k11, hA.k12, hA.r0, hA.r1, hA.r2, hA.r3, hA.r4, hA.r5, hA.r6, hA.r7, hA.r8, hA.r10, hA.r11, hA.r12, f_ss, f_sR, stI, fI, hk, L]
  · obtain ⟨hFg, hc, hf⟩ := hI
    have hA := hA.to hc.1
    simp (disch := omega) only [ob_t, ob_n, ob_ite, e_cI, e_cL, e_cR, e_vI, e_vL, e_vR, e_d2, e_d2_a, e_d2_b, e_d2z, e_d2z_a, e_d2z_b, e_d1, e_d1_a, e_GI, e_GI_a, e_GL, e_GL_a, e_GR, e_GR_a, e_AI, e_AI_a, e_AI_b, e_AB, e_AB_a, e_AB_b, e_AZ, e_AZ_a, e_AZ_b, e_AL, e_AL_a, e_AL_b, e_AR, e_AR_a, e_AR_b, e_Len, e_Len_a, e_CI, e_CI_a, e_CI_b, e_CZ, e_CZ_a, e_And, e_kAnd, e_Or, e_kOr, e_Not, e_kNot, e_B, e_kB, e_T, e_kT, e_NN, e_kNN, e_NewA, e_NewA_a, e_NewC, e_kNewC, e_aN, e_aI, e_aI_a, e_aI_b, e_aL, e_aL_a, e_aL_b, e_aR, e_aR_a, e_aR_b, e_Call, e_kCall, e_CallV, e_kCallV, e_SetI, e_kSetI, e_SetL, e_kSetL, e_SetR, e_kSetR, e_Inc, e_Skip, e_Brk, e_Cnt, e_Ret, e_kRet, e_Ret0, e_Seq, e_kSeq0, e_kSeq1, e_kSeq2, e_kSeqR, e_If, e_kIf, e_Do, e_kDo, e_Sup, e_kN0, e_d3, e_k3a, e_k3b, e_k3c, e_P, e_kPa, e_kPb, e_UA, e_kUAa, e_kUAb, e_kUAc, e_UL, e_kULa, e_kULb, e_kULc, e_UF, e_kUFa, e_kUFb, e_Cp, e_kCp, e_Sw, e_kSwa, e_kSwb0, e_kSwb1, e_kSwbR, e_M1, e_kM1, e_MZ, e_kMZ, e_MN, e_kMN, e_Tv, e_kTv, e_Tc, e_kTc, e_lpS, e_kLp, e_kLpB0, e_kLpB1, e_kLpB2, e_kLpBR, e_kLpU, e_dwS, e_kDwB0, e_kDwC, f_II, f_LL, f_RR, f_IL, f_IR, f_LI, f_LR, f_RI, f_RL, o_iadd, o_isub, o_imul, o_iand, o_ior, o_ixor, o_ladd, o_lsub, o_lmul, o_land, o_lor, o_ishl, o_ishr, o_iushr, o_lshl, o_lshr, o_lcmp, o_i2l, o_l2i, o_i2b, o_i2s, o_lneg, o_ineg, o_imax, o_imin, o_idiv, o_irem, o_ldiv, o_lrem, r_lt, r_le, r_gt, r_ge, r_eq, r_ne, q_lt, q_le, q_gt, q_ge, q_eq, q_ne, decide_eq_true_eq, idI, and_true, true_and, and_false, false_and, or_true, true_or, or_false, false_or, not_true_eq_false, not_false_eq_true, if_true, if_false, ite_self, Bool.not_true, Bool.not_false, Bool.false_eq_true, Bool.true_eq_false, decide_true, decide_false, ne_eq, reduceIte, Nat.reduceEqDiff, Option.some.injEq, Prod.mk.injEq, eq_self, fa_lit, nI_add, pk_mul, nI_ltI, nI_leI, nI_eq, b01, b0, b1, x_hasBit, Nat.reduceLeDiff, Nat.reduceAdd, Nat.reduceMul, Nat.reduceSub, Nat.lt_irrefl, Nat.reduceLT, n_inb, nI_clamp, w_hr, w_hk, w_hl, w_eq, w_ne, wl_hr, wl_hk, wl_hi, wl_eq, wl_ne, hA.k, hA.k1, hA.k2, hA.k3, hA.k4, hA.k5, hA.k6, hA.k7, hA.k8, hA.k9, hA.k10, hA.k11, hA.k12, hA.r0, hA.r1, hA.r2, hA.r3, hA.r4, hA.r5, hA.r6, hA.r7, hA.r8, hA.r10, hA.r11, hA.r12, f_ss, f_sR, stI, fI, Nat.lt_irrefl]
theorem x_findNeeds (hA : AS h a) (hG : PG h p P) (hs : s < P 0 7) (hd : p + 16 ≤ a ∨ a + 13 ≤ p) (hO : AO2 h a P) : ∃ g, DX0_findNeeds (sI (sR (sR fr0 0 a) 1 p) 2 (nI s)) h = some ((), g) ∧ hi g a 16 = nI s ∧ (∀ x, x < 8 → hi g (a + 3) x = nI (neE P s x) + -nI 1) ∧ Ch (fun o => ndD a o ∨ o = a + 5 ∨ o = a + 6 ∨ o = a + 7) h g ∧ ∀ j, j ≠ 13 → j ≠ 16 → hi g a j = hi h a j := by
  have hW := hG.w
  have hb := hW.all
  by_cases z : hi h a 16 = nI s
  · have hv : ∀ x, x < 8 → hi h (a + 3) x = nI (neE P s x) + -nI 1 := by
      rcases hO with q | ⟨s', q1, q2, q3⟩
      · rw [z] at q
        have := n_m1 (a := s) (by omega)
        rw [q] at this
        exact absurd this (by simp)
      · have : s' = s := (nI_eq (by omega) (by omega)).mp (q2.symm.trans z)
        subst this
        exact q3
    refine ⟨h, ?_, z, hv, Ch.rf _ _, fun _ _ _ => rfl⟩
    simp (disch := omega) only [ob_t, ob_n, ob_ite, e_cI, e_cL, e_cR, e_vI, e_vL, e_vR, e_d2, e_d2_a, e_d2_b, e_d2z, e_d2z_a, e_d2z_b, e_d1, e_d1_a, e_GI, e_GI_a, e_GL, e_GL_a, e_GR, e_GR_a, e_AI, e_AI_a, e_AI_b, e_AB, e_AB_a, e_AB_b, e_AZ, e_AZ_a, e_AZ_b, e_AL, e_AL_a, e_AL_b, e_AR, e_AR_a, e_AR_b, e_Len, e_Len_a, e_CI, e_CI_a, e_CI_b, e_CZ, e_CZ_a, e_And, e_kAnd, e_Or, e_kOr, e_Not, e_kNot, e_B, e_kB, e_T, e_kT, e_NN, e_kNN, e_NewA, e_NewA_a, e_NewC, e_kNewC, e_aN, e_aI, e_aI_a, e_aI_b, e_aL, e_aL_a, e_aL_b, e_aR, e_aR_a, e_aR_b, e_Call, e_kCall, e_CallV, e_kCallV, e_SetI, e_kSetI, e_SetL, e_kSetL, e_SetR, e_kSetR, e_Inc, e_Skip, e_Brk, e_Cnt, e_Ret, e_kRet, e_Ret0, e_Seq, e_kSeq0, e_kSeq1, e_kSeq2, e_kSeqR, e_If, e_kIf, e_Do, e_kDo, e_Sup, e_kN0, e_d3, e_k3a, e_k3b, e_k3c, e_P, e_kPa, e_kPb, e_UA, e_kUAa, e_kUAb, e_kUAc, e_UL, e_kULa, e_kULb, e_kULc, e_UF, e_kUFa, e_kUFb, e_Cp, e_kCp, e_Sw, e_kSwa, e_kSwb0, e_kSwb1, e_kSwbR, e_M1, e_kM1, e_MZ, e_kMZ, e_MN, e_kMN, e_Tv, e_kTv, e_Tc, e_kTc, e_lpS, e_kLp, e_kLpB0, e_kLpB1, e_kLpB2, e_kLpBR, e_kLpU, e_dwS, e_kDwB0, e_kDwC, f_II, f_LL, f_RR, f_IL, f_IR, f_LI, f_LR, f_RI, f_RL, o_iadd, o_isub, o_imul, o_iand, o_ior, o_ixor, o_ladd, o_lsub, o_lmul, o_land, o_lor, o_ishl, o_ishr, o_iushr, o_lshl, o_lshr, o_lcmp, o_i2l, o_l2i, o_i2b, o_i2s, o_lneg, o_ineg, o_imax, o_imin, o_idiv, o_irem, o_ldiv, o_lrem, r_lt, r_le, r_gt, r_ge, r_eq, r_ne, q_lt, q_le, q_gt, q_ge, q_eq, q_ne, decide_eq_true_eq, idI, and_true, true_and, and_false, false_and, or_true, true_or, or_false, false_or, not_true_eq_false, not_false_eq_true, if_true, if_false, ite_self, Bool.not_true, Bool.not_false, Bool.false_eq_true, Bool.true_eq_false, decide_true, decide_false, ne_eq, reduceIte, Nat.reduceEqDiff, Option.some.injEq, Prod.mk.injEq, eq_self, fa_lit, nI_add, pk_mul, nI_ltI, nI_leI, nI_eq, b01, b0, b1, x_hasBit, Nat.reduceLeDiff, Nat.reduceAdd, Nat.reduceMul, Nat.reduceSub, Nat.lt_irrefl, Nat.reduceLT, n_inb, nI_clamp, w_hr, w_hk, w_hl, w_eq, w_ne, wl_hr, wl_hk, wl_hi, wl_eq, wl_ne, hA.k, hA.k1, hA.k2, hA.k3, hA.k4, hA.k5, hA.k6, hA.k7, hA.k8, hA.k9, hA.k10, hA.k11, hA.k12, hA.r0, hA.r1, hA.r2, hA.r3, hA.r4, hA.r5, hA.r6, hA.r7, hA.r8, hA.r10, hA.r11, hA.r12, f_ss, f_sR, stI, fI, DX0_findNeeds, BX0_findNeeds, z]
  · obtain ⟨h1, hh1⟩ : ∃ h1, h1 = wI h a 16 (nI s) := ⟨_, rfl⟩
    have c1 : Ch (fun o => ndD a o ∨ o = a + 5 ∨ o = a + 6 ∨ o = a + 7) h h1 := by rw [hh1]; exact Ch.w (by unfold ndD; omega) _ _ _
    obtain ⟨h2, a2, p2, m2, c2⟩ := x_prepare (hA.to c1.1) (hG.ch c1 (fun j hj => by unfold ndD; omega)) hs hd
    have c2' : Ch (fun o => ndD a o ∨ o = a + 5 ∨ o = a + 6 ∨ o = a + 7) h1 h2 := c2.mono (fun o ho => by unfold ndD; omega)
    have c12 := c1.tr c2'
    obtain ⟨h3, a3, b3, -, c3⟩ := x_fillI (-nI 1) (hA.to c12.1).k3 (by decide)
    have c3' : Ch (fun o => ndD a o ∨ o = a + 5 ∨ o = a + 6 ∨ o = a + 7) h2 h3 := c3.mono (fun o ho => by have : o = a + 3 := ho; unfold ndD; omega)
    have c13 := c12.tr c3'
    obtain ⟨h4, a4, b4, -, c4⟩ := x_fillI (-nI 1) (hA.to c13.1).k10 (by decide)
    have c4' : Ch (fun o => ndD a o ∨ o = a + 5 ∨ o = a + 6 ∨ o = a + 7) h3 h4 := c4.mono (fun o ho => by have : o = a + 10 := ho; unfold ndD; omega)
    have c14 := c13.tr c4'
    obtain ⟨h5, hh5⟩ : ∃ h5, h5 = wI h4 a 13 (nI 0) := ⟨_, rfl⟩
    have c5 : Ch (fun o => ndD a o ∨ o = a + 5 ∨ o = a + 6 ∨ o = a + 7) h4 h5 := by rw [hh5]; exact Ch.w (by unfold ndD; omega) _ _ _
    have c15 := c14.tr c5
    have hA5 := hA.to c15.1
    have hG5 := hG.ch c15 (fun j hj => by unfold ndD; omega)
    have hm : ∀ e, e < 256 → hi h5 (a + 8) e = nI 0 := fun e he => by
      rw [hh5, w_ne (by omega), (c4.2 (a + 8) (by omega)).1, (c3.2 (a + 8) (by omega)).1]
      exact m2 e he
    have hB5 : BH h5 a (fun _ => 0) (fun _ => []) (fun _ => c0E P s) 0 (fun _ => 0) := by
      refine ⟨fun e he => ⟨0, hm e he, by decide, fun x hx => ⟨fun q => (by rw [Nat.zero_testBit] at q; cases q), fun q => absurd rfl q⟩⟩, fun i hi1 => absurd hi1 (Nat.not_lt_zero i), fun u hu => ?_, ?_, fun x hx => ?_⟩
      · show hi h5 (a + 10) u = -nI 1
        rw [hh5, w_ne (by omega)]
        exact b4 u hu
      · rw [hh5]; exact w_eq _ _ _ _
      · rw [hh5, w_ne (by omega), (c4.2 (a + 3) (by omega)).1, b3 x hx]
        show -nI 1 = nI 0 + -nI 1
        decide
    obtain ⟨h6, a6, b6, c6, f6⟩ := x_await hA5 hB5 (by decide) (u := 0) (by decide) (c0E P s)
    have e0 := AB.init hW hs (s := s)
    have eaw : fuN (fun _ => c0E P s) 0 (c0E P s) = fun _ => c0E P s := by
      funext i
      unfold fuN
      split <;> rfl
    rw [eaw] at b6
    have b6 : BH h6 a (fun _ => 0) (fuL (fun _ => []) 0 [0]) (fun _ => c0E P s) 1 (fun _ => 0) := b6
    have p5 : PR h5 a P s := by
      have q3 : Ch (ndD a) h2 h3 := c3.mono (fun o ho => by have : o = a + 3 := ho; unfold ndD; omega)
      have q4 : Ch (ndD a) h3 h4 := c4.mono (fun o ho => by have : o = a + 10 := ho; unfold ndD; omega)
      have q5 : Ch (ndD a) h4 h5 := by rw [hh5]; exact Ch.w (by unfold ndD; omega) _ _ _
      exact p2.keepN ((q3.tr q4).tr q5)
    obtain ⟨g, L, ⟨mk, ls, aw, n, nd, pp, cc, hB, hAB, -, -⟩, c7, f7⟩ := x_fn2 (hA5.to c6.1) (hG5.ch c6 (fun j hj => by unfold ndD; omega)) hs hd (p5.keepN c6) ⟨_, _, _, _, _, _, _, b6, e0, Nat.zero_le _, fun q => q.elim⟩ (w3 := nI (P 6 s))
    have hf : ∀ j, j ≠ 13 → hi g a j = hi h1 a j := fun j hj => by
      rw [f7 j hj, f6 j hj, hh5, w_ne (by omega), (c4.2 a (by omega)).1, (c3.2 a (by omega)).1, (c2.2 a (by omega)).1]
    refine ⟨g, ?_, ?_, fun x hx => ?_, (c15.tr (c6.mono (fun o ho => Or.inl ho))).tr (c7.mono (fun o ho => Or.inl ho)), fun j h13 h16 => ?_⟩
    · have ph := (hW.sl hs).1
      have hh := RP.shouse hG5.s hG5.r hW hs
      have kp := hG.s.k
      have rp := hG.s.r13
      have est : nI (P 6 s) ||| nI (2 ^ P 6 s) <<< (nI 3 &&& nI 31) = nI (encS (c0E P s)) := by
        have hx8 : 2 ^ P 6 s < 2 ^ 8 := pow_lt (by omega)
        rw [n_shlk (by decide) (by omega), fa_or, n_or2 (k := 3) (by omega)]
        unfold encS c0E
        congr 1
        omega
      have r1 := c1.1.1
      have k1 := c1.1.2.1
      have r2 := c2.1.1
      have k2 := c2.1.2.1
      have r3 := c3.1.1
      have k3 := c3.1.2.1
      have r4 := c4.1.1
      have k4 := c4.1.2.1
      have r5 := c5.1.1
      have k5 := c5.1.2.1
      have r6 := c6.1.1
      have k6 := c6.1.2.1
      simp (disch := omega) only [ob_t, ob_n, ob_ite, e_cI, e_cL, e_cR, e_vI, e_vL, e_vR, e_d2, e_d2_a, e_d2_b, e_d2z, e_d2z_a, e_d2z_b, e_d1, e_d1_a, e_GI, e_GI_a, e_GL, e_GL_a, e_GR, e_GR_a, e_AI, e_AI_a, e_AI_b, e_AB, e_AB_a, e_AB_b, e_AZ, e_AZ_a, e_AZ_b, e_AL, e_AL_a, e_AL_b, e_AR, e_AR_a, e_AR_b, e_Len, e_Len_a, e_CI, e_CI_a, e_CI_b, e_CZ, e_CZ_a, e_And, e_kAnd, e_Or, e_kOr, e_Not, e_kNot, e_B, e_kB, e_T, e_kT, e_NN, e_kNN, e_NewA, e_NewA_a, e_NewC, e_kNewC, e_aN, e_aI, e_aI_a, e_aI_b, e_aL, e_aL_a, e_aL_b, e_aR, e_aR_a, e_aR_b, e_Call, e_kCall, e_CallV, e_kCallV, e_SetI, e_kSetI, e_SetL, e_kSetL, e_SetR, e_kSetR, e_Inc, e_Skip, e_Brk, e_Cnt, e_Ret, e_kRet, e_Ret0, e_Seq, e_kSeq0, e_kSeq1, e_kSeq2, e_kSeqR, e_If, e_kIf, e_Do, e_kDo, e_Sup, e_kN0, e_d3, e_k3a, e_k3b, e_k3c, e_P, e_kPa, e_kPb, e_UA, e_kUAa, e_kUAb, e_kUAc, e_UL, e_kULa, e_kULb, e_kULc, e_UF, e_kUFa, e_kUFb, e_Cp, e_kCp, e_Sw, e_kSwa, e_kSwb0, e_kSwb1, e_kSwbR, e_M1, e_kM1, e_MZ, e_kMZ, e_MN, e_kMN, e_Tv, e_kTv, e_Tc, e_kTc, e_lpS, e_kLp, e_kLpB0, e_kLpB1, e_kLpB2, e_kLpBR, e_kLpU, e_dwS, e_kDwB0, e_kDwC, f_II, f_LL, f_RR, f_IL, f_IR, f_LI, f_LR, f_RI, f_RL, o_iadd, o_isub, o_imul, o_iand, o_ior, o_ixor, o_ladd, o_lsub, o_lmul, o_land, o_lor, o_ishl, o_ishr, o_iushr, o_lshl, o_lshr, o_lcmp, o_i2l, o_l2i, o_i2b, o_i2s, o_lneg, o_ineg, o_imax, o_imin, o_idiv, o_irem, o_ldiv, o_lrem, r_lt, r_le, r_gt, r_ge, r_eq, r_ne, q_lt, q_le, q_gt, q_ge, q_eq, q_ne, decide_eq_true_eq, idI, and_true, true_and, and_false, false_and, or_true, true_or, or_false, false_or, not_true_eq_false, not_false_eq_true, if_true, if_false, ite_self, Bool.not_true, Bool.not_false, Bool.false_eq_true, Bool.true_eq_false, decide_true, decide_false, ne_eq, reduceIte, Nat.reduceEqDiff, Option.some.injEq, Prod.mk.injEq, eq_self, fa_lit, nI_add, pk_mul, nI_ltI, nI_leI, nI_eq, b01, b0, b1, x_hasBit, Nat.reduceLeDiff, Nat.reduceAdd, Nat.reduceMul, Nat.reduceSub, Nat.lt_irrefl, Nat.reduceLT, n_inb, nI_clamp, w_hr, w_hk, w_hl, w_eq, w_ne, wl_hr, wl_hk, wl_hi, wl_eq, wl_ne, hA.k, hA.k1, hA.k2, hA.k3, hA.k4, hA.k5, hA.k6, hA.k7, hA.k8, hA.k9, hA.k10, hA.k11, hA.k12, hA.r0, hA.r1, hA.r2, hA.r3, hA.r4, hA.r5, hA.r6, hA.r7, hA.r8, hA.r10, hA.r11, hA.r12, f_ss, f_sR, stI, fI, DX0_findNeeds, BX0_findNeeds, z, ← hh1, r1, k1, a2, r2, k2, a3, r3, k3, a4, r4, k4, ← hh5, r5, k5, kp, rp, hh, n_shl, est, a6, r6, k6, L]
    · rw [hf 16 (by decide), hh1]
      exact w_eq _ _ _ _
    · rw [hB.2.2.2.2 x hx, hAB.done hW hs hx]
    · rw [hf j h13, hh1]
      exact w_ne (by omega) _ _
end
