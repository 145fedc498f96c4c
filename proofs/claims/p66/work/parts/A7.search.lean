set_option maxRecDepth 100000
set_option maxHeartbeats 1000000
/-! the class's Alone: the search -/
def SR (h : St) (a : Nat) (P : PT) (s t : Nat) : Prop := ∃ sn mw mh, SNa h a sn ∧ SNs sn (fiE P s t) ∧ MWa h a mw ∧ MWs P s mw (fiE P s t) ∧ MHs h a mh ∧ MHp mh (fiE P s t)
def srD (a : Nat) : Nat → Prop := fun o => o = a ∨ o = a + 1 ∨ o = a + 2 ∨ (a + 4 ≤ o ∧ o < a + 10)
def AO1 (h : St) (a : Nat) (P : PT) : Prop := hi h a 14 = -nI 1 ∨ ∃ s t, s < P 0 7 ∧ t < 2 ^ 20 ∧ hi h a 14 = nI s ∧ hi h a 15 = nI t ∧ SR h a P s t
theorem SR.ch {D : Nat → Prop} {h g : St} {a s t : Nat} {P : PT} (H : SR h a P s t) (q : Ch D h g) (h1 : ¬ D (a + 1)) (h2 : ¬ D (a + 2)) (h4 : ¬ D (a + 4)) : SR g a P s t := by
  obtain ⟨sn, mw, mh, b1, b2, b3, b4, b5, b6⟩ := H
  exact ⟨sn, mw, mh, fun x hx => by rw [(q.2 _ h1).1]; exact b1 x hx, b2, fun x hx => by rw [(q.2 _ h2).1]; exact b3 x hx, b4, fun x hx => by rw [(q.2 _ h4).1]; exact b5 x hx, b6⟩
section
variable {h : St} {a p s t : Nat} {P : PT}
theorem ent0 : entE (fun _ => c0E P s, 0, fun _ => 0) (c0E P s) 0 = bfE P s t 0 := by
  unfold entE
  rw [if_pos rfl]
  show _ = ((fun _ => c0E P s, 1, fun c => if c = c0E P s then 1 else 0) : BQ)
  refine Prod.ext (funext fun i => ?_) rfl
  show (if i = 0 then c0E P s else c0E P s) = _
  rw [ite_self]
theorem x_srloop (hA : AS h a) (hG : PG h p P) (hs : s < P 0 7) (hd : p + 16 ≤ a ∨ a + 13 ≤ p) (ht : t < 2 ^ 20) (hP : PR h a P s) (hL : LV h a P s (bfE P s t 0)) {f : Int32} : ∃ F g, LX0_search_1 (sI (sI (sI (sI (sR (sR fr0 0 a) 1 p) 2 (nI s)) 3 (nI t)) 4 f) 5 (nI 0)) h = some (.inl 0, F, g) ∧ LV g a P s (fiE P s t) ∧ Ch (lvD a) h g ∧ ∀ j, j ≠ 9 → hi g a j = hi h a j := by
  have hW := hG.w
  have hb := hW.all
  have h8 := hb.2.2.2.1
  unfold LX0_search_1
  obtain ⟨o, L, F, g, rfl, hq⟩ : ∃ o, (dLoop (fun f => (sI (sI (sI (sI (sR (sR fr0 0 (gR f 0)) 1 (gR f 1)) 2 (gI f 2)) 3 (gI f 3)) 4 (gI f 4)) 5 (gI f 5))) (dAnd (dCI r_lt (vI 5) (dGI 0 9 (vR 0))) (dCI r_lt (vI 5) (dLen (dGR 0 8 (vR 0))))) (dDo (dCallV 0 DX0_leave (aI (aI (aR (aR aN 0 (vR 0)) 1 (vR 1)) 2 (dAI (dGR 0 8 (vR 0)) (vI 5))) 3 (vI 3)))) (dInc 5 1) : Sm Unit) (sI (sI (sI (sI (sR (sR fr0 0 a) 1 p) 2 (nI s)) 3 (nI t)) 4 f) 5 (nI 0)) h = some o ∧ ∃ F g, o = (.inl 0, F, g) ∧ LV g a P s (fiE P s t) ∧ Ch (lvD a) h g ∧ ∀ j, j ≠ 9 → hi g a j = hi h a j := by
    refine loop_x (fun k => sI (sI (sI (sI (sR (sR fr0 0 a) 1 p) 2 (nI s)) 3 (nI t)) 4 f) 5 (nI k)) (fun k g => LV g a P s (bfE P s t k) ∧ Ch (lvD a) h g ∧ ∀ j, j ≠ 9 → hi g a j = hi h a j) (fun o => ∃ F g, o = (.inl 0, F, g) ∧ LV g a P s (fiE P s t) ∧ Ch (lvD a) h g ∧ ∀ j, j ≠ 9 → hi g a j = hi h a j) 2048 rfl ⟨hL, Ch.rf _ _, fun _ _ => rfl⟩ (fun k g hk hI => ?_) (fun g hI => ?_)
    · obtain ⟨hLg, hch, hfl⟩ := hI
      have hA := hA.to hch.1
      have hGg := hG.ch hch (fun i hi1 => by unfold lvD; omega)
      obtain ⟨i1, i2, i3⟩ := bfE_W (t := t) hW hs k
      have hnX := i1.le h8
      have e9 := hLg.1.2.2
      by_cases z : k < (bfE P s t k).2.1
      · have e0 : bfE P s t (k + 1) = rwE P s t k (bfE P s t k) (P 0 4) := by
          show (if k < (bfE P s t k).2.1 then _ else _) = _
          rw [if_pos z]
        have hPg : PR g a P s := ⟨fun b h1 h2 => by rw [(hch.2 _ (by unfold lvD; omega)).1, (hch.2 _ (by unfold lvD; omega)).1]; exact hP.1 b h1 h2, fun x hx => by rw [(hch.2 _ (by unfold lvD; omega)).1]; exact hP.2 x hx⟩
        obtain ⟨g2, a2, b2, c2, d2⟩ := x_leave (k := k) hA hGg hs hd ht hPg i1 (i2 z) z hLg
        have eq := hLg.1.2.1 k z
        have hk48 : k < 2048 := hk
        refine Or.inl ⟨g2, ?_, by rw [e0]; exact b2, hch.tr c2, fun j hj => by rw [d2 j hj]; exact hfl j hj⟩
        simp (disch := omega) only [ob_t, ob_n, ob_ite, e_cI, e_cL, e_cR, e_vI, e_vL, e_vR, e_d2, e_d2_a, e_d2_b, e_d2z, e_d2z_a, e_d2z_b, e_d1, e_d1_a, e_GI, e_GI_a, e_GL, e_GL_a, e_GR, e_GR_a, e_AI, e_AI_a, e_AI_b, e_AB, e_AB_a, e_AB_b, e_AZ, e_AZ_a, e_AZ_b, e_AL, e_AL_a, e_AL_b, e_AR, e_AR_a, e_AR_b, e_Len, e_Len_a, e_CI, e_CI_a, e_CI_b, e_CZ, e_CZ_a, e_And, e_kAnd, e_Or, e_kOr, e_Not, e_kNot, e_B, e_kB, e_T, e_kT, e_NN, e_kNN, e_NewA, e_NewA_a, e_NewC, e_kNewC, e_aN, e_aI, e_aI_a, e_aI_b, e_aL, e_aL_a, e_aL_b, e_aR, e_aR_a, e_aR_b, e_Call, e_kCall, e_CallV, e_kCallV, e_SetI, e_kSetI, e_SetL, e_kSetL, e_SetR, e_kSetR, e_Inc, e_Skip, e_Brk, e_Cnt, e_Ret, e_kRet, e_Ret0, e_Seq, e_kSeq0, e_kSeq1, e_kSeq2, e_kSeqR, e_If, e_kIf, e_Do, e_kDo, e_Sup, e_kN0, e_d3, e_k3a, e_k3b, e_k3c, e_P, e_kPa, e_kPb, e_UA, e_kUAa, e_kUAb, e_kUAc, e_UL, e_kULa, e_kULb, e_kULc, e_UF, e_kUFa, e_kUFb, e_Cp, e_kCp, e_Sw, e_kSwa, e_kSwb0, e_kSwb1, e_kSwbR, e_M1, e_kM1, e_MZ, e_kMZ, e_MN, e_kMN, e_Tv, e_kTv, e_Tc, e_kTc, e_lpS, e_kLp, e_kLpB0, e_kLpB1, e_kLpB2, e_kLpBR, e_kLpU, e_dwS, e_kDwB0, e_kDwC, f_II, f_LL, f_RR, f_IL, f_IR, f_LI, f_LR, f_RI, f_RL, o_iadd, o_isub, o_imul, o_iand, o_ior, o_ixor, o_ladd, o_lsub, o_lmul, o_land, o_lor, o_ishl, o_ishr, o_iushr, o_lshl, o_lshr, o_lcmp, o_i2l, o_l2i, o_i2b, o_i2s, o_lneg, o_ineg, o_imax, o_imin, o_idiv, o_irem, o_ldiv, o_lrem, r_lt, r_le, r_gt, r_ge, r_eq, r_ne, q_lt, q_le, q_gt, q_ge, q_eq, q_ne, decide_eq_true_eq, idI, and_true, true_and, and_false, false_and, or_true, true_or, or_false, false_or, not_true_eq_false, not_false_eq_true, if_true, if_false, ite_self, Bool.not_true, Bool.not_false, Bool.false_eq_true, Bool.true_eq_false, decide_true, decide_false, ne_eq, reduceIte, Nat.reduceEqDiff, Option.some.injEq, Prod.mk.injEq, eq_self, fa_lit, nI_add, pk_mul, nI_ltI, nI_leI, nI_eq, b01, b0, b1, x_hasBit, Nat.reduceLeDiff, Nat.reduceAdd, Nat.reduceMul, Nat.reduceSub, Nat.lt_irrefl, Nat.reduceLT, n_inb, nI_clamp, w_hr, w_hk, w_hl, w_eq, w_ne, wl_hr, wl_hk, wl_hi, wl_eq, wl_ne, hA.k, hA.k1, hA.k2, hA.k3, hA.k4, hA.k5, hA.k6, hA.k7, hA.k8, hA.k9, hA.k10, hA.k11, hA.k12, hA.r0, hA.r1, hA.r2, hA.r3, hA.r4, hA.r5, hA.r6, hA.r7, hA.r8, hA.r10, hA.r11, hA.r12, f_ss, f_sR, stI, fI, e9, z, n_ofN, hk48, eq, a2]
      · have e0 := fiE_of (P := P) (s := s) (t := t) k (by omega) (by omega)
        refine Or.inr ⟨(.inl 0, sI (sI (sI (sI (sR (sR fr0 0 a) 1 p) 2 (nI s)) 3 (nI t)) 4 f) 5 (nI k), g), ?_, _, _, rfl, by rw [← e0]; exact hLg, hch, hfl⟩
        simp (disch := omega) only [ob_t, ob_n, ob_ite, e_cI, e_cL, e_cR, e_vI, e_vL, e_vR, e_d2, e_d2_a, e_d2_b, e_d2z, e_d2z_a, e_d2z_b, e_d1, e_d1_a, e_GI, e_GI_a, e_GL, e_GL_a, e_GR, e_GR_a, e_AI, e_AI_a, e_AI_b, e_AB, e_AB_a, e_AB_b, e_AZ, e_AZ_a, e_AZ_b, e_AL, e_AL_a, e_AL_b, e_AR, e_AR_a, e_AR_b, e_Len, e_Len_a, e_CI, e_CI_a, e_CI_b, e_CZ, e_CZ_a, e_And, e_kAnd, e_Or, e_kOr, e_Not, e_kNot, e_B, e_kB, e_T, e_kT, e_NN, e_kNN, e_NewA, e_NewA_a, e_NewC, e_kNewC, e_aN, e_aI, e_aI_a, e_aI_b, e_aL, e_aL_a, e_aL_b, e_aR, e_aR_a, e_aR_b, e_Call, e_kCall, e_CallV, e_kCallV, e_SetI, e_kSetI, e_SetL, e_kSetL, e_SetR, e_kSetR, e_Inc, e_Skip, e_Brk, e_Cnt, e_Ret, e_kRet, e_Ret0, e_Seq, e_kSeq0, e_kSeq1, e_kSeq2, e_kSeqR, e_If, e_kIf, e_Do, e_kDo, e_Sup, e_kN0, e_d3, e_k3a, e_k3b, e_k3c, e_P, e_kPa, e_kPb, e_UA, e_kUAa, e_kUAb, e_kUAc, e_UL, e_kULa, e_kULb, e_kULc, e_UF, e_kUFa, e_kUFb, e_Cp, e_kCp, e_Sw, e_kSwa, e_kSwb0, e_kSwb1, e_kSwbR, e_M1, e_kM1, e_MZ, e_kMZ, e_MN, e_kMN, e_Tv, e_kTv, e_Tc, e_kTc, e_lpS, e_kLp, e_kLpB0, e_kLpB1, e_kLpB2, e_kLpBR, e_kLpU, e_dwS, e_kDwB0, e_kDwC, f_II, f_LL, f_RR, f_IL, f_IR, f_LI, f_LR, f_RI, f_RL, o_iadd, o_isub, o_imul, o_iand, o_ior, o_ixor, o_ladd, o_lsub, o_lmul, o_land, o_lor, o_ishl, o_ishr, o_iushr, o_lshl, o_lshr, o_lcmp, o_i2l, o_l2i, o_i2b, o_i2s, o_lneg, o_ineg, o_imax, o_imin, o_idiv, o_irem, o_ldiv, o_lrem, r_lt, r_le, r_gt, r_ge, r_eq, r_ne, q_lt, q_le, q_gt, q_ge, q_eq, q_ne, decide_eq_true_eq, idI, and_true, true_and, and_false, false_and, or_true, true_or, or_false, false_or, not_true_eq_false, not_false_eq_true, if_true, if_false, ite_self, Bool.not_true, Bool.not_false, Bool.false_eq_true, Bool.true_eq_false, decide_true, decide_false, ne_eq, reduceIte, Nat.reduceEqDiff, Option.some.injEq, Prod.mk.injEq, eq_self, fa_lit, nI_add, pk_mul, nI_ltI, nI_leI, nI_eq, b01, b0, b1, x_hasBit, Nat.reduceLeDiff, Nat.reduceAdd, Nat.reduceMul, Nat.reduceSub, Nat.lt_irrefl, Nat.reduceLT, n_inb, nI_clamp, w_hr, w_hk, w_hl, w_eq, w_ne, wl_hr, wl_hk, wl_hi, wl_eq, wl_ne, hA.k, hA.k1, hA.k2, hA.k3, hA.k4, hA.k5, hA.k6, hA.k7, hA.k8, hA.k9, hA.k10, hA.k11, hA.k12, hA.r0, hA.r1, hA.r2, hA.r3, hA.r4, hA.r5, hA.r6, hA.r7, hA.r8, hA.r10, hA.r11, hA.r12, f_ss, f_sR, stI, fI, e9, z]
    · obtain ⟨hLg, hch, hfl⟩ := hI
      have hA := hA.to hch.1
      have hnX := (bfE_W (t := t) hW hs 2048).1.le h8
      have e9 := hLg.1.2.2
      have z : ¬ 2048 < (bfE P s t 2048).2.1 := by omega
      refine ⟨(.inl 0, sI (sI (sI (sI (sR (sR fr0 0 a) 1 p) 2 (nI s)) 3 (nI t)) 4 f) 5 (nI 2048), g), ?_, _, _, rfl, hLg, hch, hfl⟩
      simp (disch := omega) only [ob_t, ob_n, ob_ite, e_cI, e_cL, e_cR, e_vI, e_vL, e_vR, e_d2, e_d2_a, e_d2_b, e_d2z, e_d2z_a, e_d2z_b, e_d1, e_d1_a, e_GI, e_GI_a, e_GL, e_GL_a, e_GR, e_GR_a, e_AI, e_AI_a, e_AI_b, e_AB, e_AB_a, e_AB_b, e_AZ, e_AZ_a, e_AZ_b, e_AL, e_AL_a, e_AL_b, e_AR, e_AR_a, e_AR_b, e_Len, e_Len_a, e_CI, e_CI_a, e_CI_b, e_CZ, e_CZ_a, e_And, e_kAnd, e_Or, e_kOr, e_Not, e_kNot, e_B, e_kB, e_T, e_kT, e_NN, e_kNN, e_NewA, e_NewA_a, e_NewC, e_kNewC, e_aN, e_aI, e_aI_a, e_aI_b, e_aL, e_aL_a, e_aL_b, e_aR, e_aR_a, e_aR_b, e_Call, e_kCall, e_CallV, e_kCallV, e_SetI, e_kSetI, e_SetL, e_kSetL, e_SetR, e_kSetR, e_Inc, e_Skip, e_Brk, e_Cnt, e_Ret, e_kRet, e_Ret0, e_Seq, e_kSeq0, e_kSeq1, e_kSeq2, e_kSeqR, e_If, e_kIf, e_Do, e_kDo, e_Sup, e_kN0, e_d3, e_k3a, e_k3b, e_k3c, e_P, e_kPa, e_kPb, e_UA, e_kUAa, e_kUAb, e_kUAc, e_UL, e_kULa, e_kULb, e_kULc, e_UF, e_kUFa, e_kUFb, e_Cp, e_kCp, e_Sw, e_kSwa, e_kSwb0, e_kSwb1, e_kSwbR, e_M1, e_kM1, e_MZ, e_kMZ, e_MN, e_kMN, e_Tv, e_kTv, e_Tc, e_kTc, e_lpS, e_kLp, e_kLpB0, e_kLpB1, e_kLpB2, e_kLpBR, e_kLpU, e_dwS, e_kDwB0, e_kDwC, f_II, f_LL, f_RR, f_IL, f_IR, f_LI, f_LR, f_RI, f_RL, o_iadd, o_isub, o_imul, o_iand, o_ior, o_ixor, o_ladd, o_lsub, o_lmul, o_land, o_lor, o_ishl, o_ishr, o_iushr, o_lshl, o_lshr, o_lcmp, o_i2l, o_l2i, o_i2b, o_i2s, o_lneg, o_ineg, o_imax, o_imin, o_idiv, o_irem, o_ldiv, o_lrem, r_lt, r_le, r_gt, r_ge, r_eq, r_ne, q_lt, q_le, q_gt, q_ge, q_eq, q_ne, decide_eq_true_eq, idI, and_true, true_and, and_false, false_and, or_true, true_or, or_false, false_or, not_true_eq_false, not_false_eq_true, if_true, if_false, ite_self, Bool.not_true, Bool.not_false, Bool.false_eq_true, Bool.true_eq_false, decide_true, decide_false, ne_eq, reduceIte, Nat.reduceEqDiff, Option.some.injEq, Prod.mk.injEq, eq_self, fa_lit, nI_add, pk_mul, nI_ltI, nI_leI, nI_eq, b01, b0, b1, x_hasBit, Nat.reduceLeDiff, Nat.reduceAdd, Nat.reduceMul, Nat.reduceSub, Nat.lt_irrefl, Nat.reduceLT, n_inb, nI_clamp, w_hr, w_hk, w_hl, w_eq, w_ne, wl_hr, wl_hk, wl_hi, wl_eq, wl_ne, hA.k, hA.k1, hA.k2, hA.k3, hA.k4, hA.k5, hA.k6, hA.k7, hA.k8, hA.k9, hA.k10, hA.k11, hA.k12, hA.r0, hA.r1, hA.r2, hA.r3, hA.r4, hA.r5, hA.r6, hA.r7, hA.r8, hA.r10, hA.r11, hA.r12, f_ss, f_sR, stI, fI, e9, z]
  exact ⟨F, g, L, hq⟩
theorem x_search (hA : AS h a) (hG : PG h p P) (hs : s < P 0 7) (hd : p + 16 ≤ a ∨ a + 13 ≤ p) (ht : t < 2 ^ 20) (hO : AO1 h a P) : ∃ g, DX0_search (sI (sI (sR (sR fr0 0 a) 1 p) 2 (nI s)) 3 (nI t)) h = some ((), g) ∧ SR g a P s t ∧ hi g a 14 = nI s ∧ hi g a 15 = nI t ∧ hi g a 16 = hi h a 16 ∧ Ch (srD a) h g := by
  have hW := hG.w
  have hb := hW.all
  have h8 := hb.2.2.2.1
  have hf := (hW.sl hs).1
  by_cases zc : hi h a 14 = nI s ∧ hi h a 15 = nI t
  · obtain ⟨z1, z2⟩ := zc
    rcases hO with y | ⟨s', t', y1, y2, y3, y4, y5⟩
    · rw [z1] at y
      have := n_m1 (a := s) (by omega)
      rw [y] at this
      exact (this.mp rfl).elim
    · have es : s' = s := (nI_eq (by omega) (by omega)).mp (y3.symm.trans z1)
      have et : t' = t := (nI_eq (by omega) (by omega)).mp (y4.symm.trans z2)
      subst es
      subst et
      refine ⟨h, ?_, y5, z1, z2, rfl, Ch.rf _ _⟩
      simp (disch := omega) only [ob_t, ob_n, ob_ite, e_cI, e_cL, e_cR, e_vI, e_vL, e_vR, e_d2, e_d2_a, e_d2_b, e_d2z, e_d2z_a, e_d2z_b, e_d1, e_d1_a, e_GI, e_GI_a, e_GL, e_GL_a, e_GR, e_GR_a, e_AI, e_AI_a, e_AI_b, e_AB, e_AB_a, e_AB_b, e_AZ, e_AZ_a, e_AZ_b, e_AL, e_AL_a, e_AL_b, e_AR, e_AR_a, e_AR_b, e_Len, e_Len_a, e_CI, e_CI_a, e_CI_b, e_CZ, e_CZ_a, e_And, e_kAnd, e_Or, e_kOr, e_Not, e_kNot, e_B, e_kB, e_T, e_kT, e_NN, e_kNN, e_NewA, e_NewA_a, e_NewC, e_kNewC, e_aN, e_aI, e_aI_a, e_aI_b, e_aL, e_aL_a, e_aL_b, e_aR, e_aR_a, e_aR_b, e_Call, e_kCall, e_CallV, e_kCallV, e_SetI, e_kSetI, e_SetL, e_kSetL, e_SetR, e_kSetR, e_Inc, e_Skip, e_Brk, e_Cnt, e_Ret, e_kRet, e_Ret0, e_Seq, e_kSeq0, e_kSeq1, e_kSeq2, e_kSeqR, e_If, e_kIf, e_Do, e_kDo, e_Sup, e_kN0, e_d3, e_k3a, e_k3b, e_k3c, e_P, e_kPa, e_kPb, e_UA, e_kUAa, e_kUAb, e_kUAc, e_UL, e_kULa, e_kULb, e_kULc, e_UF, e_kUFa, e_kUFb, e_Cp, e_kCp, e_Sw, e_kSwa, e_kSwb0, e_kSwb1, e_kSwbR, e_M1, e_kM1, e_MZ, e_kMZ, e_MN, e_kMN, e_Tv, e_kTv, e_Tc, e_kTc, e_lpS, e_kLp, e_kLpB0, e_kLpB1, e_kLpB2, e_kLpBR, e_kLpU, e_dwS, e_kDwB0, e_kDwC, f_II, f_LL, f_RR, f_IL, f_IR, f_LI, f_LR, f_RI, f_RL, o_iadd, o_isub, o_imul, o_iand, o_ior, o_ixor, o_ladd, o_lsub, o_lmul, o_land, o_lor, o_ishl, o_ishr, o_iushr, o_lshl, o_lshr, o_lcmp, o_i2l, o_l2i, o_i2b, o_i2s, o_lneg, o_ineg, o_imax, o_imin, o_idiv, o_irem, o_ldiv, o_lrem, r_lt, r_le, r_gt, r_ge, r_eq, r_ne, q_lt, q_le, q_gt, q_ge, q_eq, q_ne, decide_eq_true_eq, idI, and_true, true_and, and_false, false_and, or_true, true_or, or_false, false_or, not_true_eq_false, not_false_eq_true, if_true, if_false, ite_self, Bool.not_true, Bool.not_false, Bool.false_eq_true, Bool.true_eq_false, decide_true, decide_false, ne_eq, reduceIte, Nat.reduceEqDiff, Option.some.injEq, Prod.mk.injEq, eq_self, fa_lit, nI_add, pk_mul, nI_ltI, nI_leI, nI_eq, b01, b0, b1, x_hasBit, Nat.reduceLeDiff, Nat.reduceAdd, Nat.reduceMul, Nat.reduceSub, Nat.lt_irrefl, Nat.reduceLT, n_inb, nI_clamp, w_hr, w_hk, w_hl, w_eq, w_ne, wl_hr, wl_hk, wl_hi, wl_eq, wl_ne, hA.k, hA.k1, hA.k2, hA.k3, hA.k4, hA.k5, hA.k6, hA.k7, hA.k8, hA.k9, hA.k10, hA.k11, hA.k12, hA.r0, hA.r1, hA.r2, hA.r3, hA.r4, hA.r5, hA.r6, hA.r7, hA.r8, hA.r10, hA.r11, hA.r12, f_ss, f_sR, stI, fI, DX0_search, BX0_search, z1, z2]
  · obtain ⟨g1, hg1⟩ : ∃ x, x = wI (wI h a 14 (nI s)) a 15 (nI t) := ⟨_, rfl⟩
    have c1 : Ch (srD a) h g1 := by rw [hg1]; exact (Ch.w (D := srD a) (Or.inl rfl) _ _ _).tr (Ch.w (Or.inl rfl) _ _ _)
    have hA1 := hA.to c1.1
    have hG1 := hG.ch c1 (fun i hi1 => by unfold srD; omega)
    obtain ⟨g2, a2, b2, b8, c2⟩ := x_prepare hA1 hG1 hs hd
    have c2' : Ch (srD a) g1 g2 := c2.mono (fun o ho => by unfold srD; omega)
    have hA2 := hA1.to c2.1
    obtain ⟨g3, a3, b3, -, c3⟩ := x_fillI (-nI 1) hA2.k1 (by decide)
    have hA3 := hA2.to c3.1
    obtain ⟨g4, a4, b4, -, c4⟩ := x_fillI (-nI 1) hA3.k2 (by decide)
    have hA4 := hA3.to c4.1
    obtain ⟨g5, a5, b5, -, c5⟩ := x_fillI (nI 0) hA4.k4 (by decide)
    have hA5 := hA4.to c5.1
    obtain ⟨g6, hg6⟩ : ∃ x, x = wI g5 a 9 (nI 0) := ⟨_, rfl⟩
    have hA6 : AS g6 a := by rw [hg6]; exact hA5.to ⟨rfl, rfl, rfl, rfl⟩
    have q6 : Ch (srD a) h g6 := by
      rw [hg6]
      exact ((((c1.tr c2').tr (c3.mono (fun o ho => by unfold srD; have : o = a + 1 := ho; omega))).tr (c4.mono (fun o ho => by unfold srD; have : o = a + 2 := ho; omega))).tr (c5.mono (fun o ho => by unfold srD; have : o = a + 4 := ho; omega))).tr (Ch.w (Or.inl rfl) _ _ _)
    have hG6 := hG.ch q6 (fun i hi1 => by unfold srD; omega)
    have e6 := RP.shouse hG6.s hG6.r hW hs
    have k1 := hA6.k1
    have e7 : DX11_put (sI (sI (sR fr0 0 (a + 1)) 1 (nI (P 6 s))) 2 (nI 0)) g6 = some ((), wI g6 (a + 1) (P 6 s) (nI 0)) := x_put (by rw [k1]) (hA.ne 1) (by rw [k1]; show _ < 8; omega) (by rw [k1]; decide)
    obtain ⟨g7, hg7⟩ : ∃ x, x = wI g6 (a + 1) (P 6 s) (nI 0) := ⟨_, rfl⟩
    have hA7 : AS g7 a := by rw [hg7]; exact hA6.to ⟨rfl, rfl, rfl, rfl⟩
    have k6 := hA7.k6
    have k2 := hA7.k2
    have v6 : ∀ b, 1 ≤ b → b ≤ 8 → hi g7 (a + 6) b = nI (pop (lbN P s (b - 1))) := fun b h1 h2 => by
      rw [hg7, w_ne (by omega), hg6, w_ne (by omega), (c5.2 _ (by omega)).1, (c4.2 _ (by omega)).1, (c3.2 _ (by omega)).1]
      exact (b2.1 b h1 h2).2
    have e8 : DX11_cell (sI (sR fr0 0 (a + 6)) 1 (nI 1)) g7 = some (nI (pop (lbN P s 0)), g7) := by
      rw [x_cellN (k := 1) (by rw [k6]) (hA.ne 6) (by rw [k6]; decide) (by rw [k6]; decide), v6 1 (by decide) (by decide)]
    have e9 : DX11_put (sI (sI (sR fr0 0 (a + 2)) 1 (nI (P 6 s))) 2 (nI (pop (lbN P s 0)))) g7 = some ((), wI g7 (a + 2) (P 6 s) (nI (pop (lbN P s 0)))) := x_put (by rw [k2]) (hA.ne 2) (by rw [k2]; show _ < 8; omega) (by rw [k2]; decide)
    obtain ⟨g8, hg8⟩ : ∃ x, x = wI g7 (a + 2) (P 6 s) (nI (pop (lbN P s 0))) := ⟨_, rfl⟩
    have hA8 : AS g8 a := by rw [hg8]; exact hA7.to ⟨rfl, rfl, rfl, rfl⟩
    have q8 : Ch (srD a) h g8 := by
      rw [hg8, hg7]
      exact (q6.tr (Ch.w (by unfold srD; omega) _ _ _)).tr (Ch.w (by unfold srD; omega) _ _ _)
    have hQ8 : QS g8 a (fun _ => c0E P s, 0, fun _ => 0) := by
      refine ⟨fun e he => ⟨0, ?_, by decide, fun x _ => ?_⟩, fun i hi1 => absurd hi1 (Nat.not_lt_zero i), ?_⟩
      · rw [hg8, hg7, hg6, w_ne (by omega), w_ne (by omega), w_ne (by omega), (c5.2 _ (by omega)).1, (c4.2 _ (by omega)).1, (c3.2 _ (by omega)).1]
        exact b8 e he
      · rw [Nat.zero_testBit]
        exact ⟨fun z => (by cases z), fun z => absurd rfl z⟩
      · rw [hg8, hg7, hg6, w_ne (by omega), w_ne (by omega)]; exact w_eq _ _ _ _
    have hM8 : MHs g8 a (fun _ => 0) := fun n hn1 => by
      rw [hg8, hg7, hg6, w_ne (by omega), w_ne (by omega), w_ne (by omega)]
      exact b5 n hn1
    have hp2 : 2 ^ P 6 s < 256 := pow_lt (b := 8) (by omega)
    obtain ⟨g9, a9, b9, d9, c9, f9⟩ := x_enter (x := P 6 s) (e := 2 ^ P 6 s) (v := 0) hA8 hQ8 hM8 (fun _ => by decide) (by omega) hp2 (by decide) (fun _ => by show 0 < 2048; decide) (fun i hi1 => absurd hi1 (Nat.not_lt_zero i))
    have he0 : entE (fun _ => c0E P s, 0, fun _ => 0) (256 * P 6 s + 2 ^ P 6 s) 0 = bfE P s t 0 := ent0
    rw [he0] at b9
    have hcm : (256 * P 6 s + 2 ^ P 6 s) % 256 = 2 ^ P 6 s := by
      generalize 2 ^ P 6 s = q at hp2
      omega
    have hcd : c0E P s / 256 = P 6 s := by
      unfold c0E
      have := Nat.two_pow_pos (P 6 s)
      generalize 2 ^ P 6 s = q at hp2 this
      omega
    have H9 : MHp (if (0 : Nat) = 0 ∧ 0 < 8 then fuN (fun _ => 0) 0 (max 0 (pop (2 ^ P 6 s))) else fun _ => 0) (bfE P s t 0) := by
      have := MH_ent (mh := fun _ => 0) (Y := (fun _ => c0E P s, 0, fun _ => 0)) (c := 256 * P 6 s + 2 ^ P 6 s) (v := 0) (pop_12 _) ⟨fun c n hc _ => (by cases hc), fun n _ hz => absurd rfl hz, fun n => Nat.zero_le 8⟩
      rw [he0, hcm] at this
      exact this
    have hA9 := hA8.to c9.1
    have c9' : Ch (srD a) g8 g9 := c9.mono (fun o ho => by unfold srD; omega)
    have q9 := q8.tr c9'
    have hG9 := hG.ch q9 (fun i hi1 => by unfold srD; omega)
    have hP9 : PR g9 a P s := by
      refine ⟨fun b h1 h2 => ⟨?_, ?_⟩, fun x hx => ?_⟩
      · rw [(c9.2 _ (by omega)).1, hg8, hg7, hg6, w_ne (by omega), w_ne (by omega), w_ne (by omega), (c5.2 _ (by omega)).1, (c4.2 _ (by omega)).1, (c3.2 _ (by omega)).1]
        exact (b2.1 b h1 h2).1
      · rw [(c9.2 _ (by omega)).1, hg8, w_ne (by omega)]
        exact v6 b h1 h2
      · rw [(c9.2 _ (by omega)).1, hg8, hg7, hg6, w_ne (by omega), w_ne (by omega), w_ne (by omega), (c5.2 _ (by omega)).1, (c4.2 _ (by omega)).1, (c3.2 _ (by omega)).1]
        exact b2.2 x hx
    have hL9 : LV g9 a P s (bfE P s t 0) := by
      refine ⟨b9, fun x => if x = P 6 s then 1 else 0, fun x => if x = P 6 s then pop (lbN P s 0) + 1 else 0, _, fun x hx => ?_, ⟨fun c hc => ?_, fun x hx => ?_⟩, fun x hx => ?_, ⟨fun c hc b hb1 hb2 => ?_, fun x hx1 hx2 => ?_, if_pos rfl⟩, d9, H9⟩
      · rw [(c9.2 _ (by omega)).1, hg8, w_ne (by omega), hg7]
        show _ = nI (if x = P 6 s then 1 else 0) + _
        by_cases z : x = P 6 s
        · rw [if_pos z, z, w_eq]; decide
        · rw [if_neg z, w_ne (by omega), hg6, w_ne (by omega), (c5.2 _ (by omega)).1, (c4.2 _ (by omega)).1, b3 x hx]; decide
      · by_cases z : c = c0E P s
        · have e : (bfE P s t 0).2.2 c = 1 := if_pos z
          rw [e, z, hcd]; show (if P 6 s = P 6 s then 1 else 0) ≠ 0 ∧ (if P 6 s = P 6 s then 1 else 0) ≤ 1; rw [if_pos rfl]
          decide
        · exact absurd (if_neg z) hc
      · by_cases z : x = P 6 s
        · have e : (bfE P s t 0).2.2 (c0E P s) = 1 := if_pos rfl
          exact ⟨c0E P s, by rw [e]; decide, by rw [hcd, z], by show _ = if x = P 6 s then 1 else 0; rw [e, if_pos z]⟩
        · exact absurd (show (if x = P 6 s then 1 else 0) = 0 from if_neg z) hx
      · rw [(c9.2 _ (by omega)).1, hg8]
        show _ = nI (if x = P 6 s then pop (lbN P s 0) + 1 else 0) + _
        by_cases z : x = P 6 s
        · rw [if_pos z, z, w_eq]; exact (pk_m1 _).symm
        · rw [if_neg z, w_ne (by omega), hg7, hg6, w_ne (by omega), w_ne (by omega), (c5.2 _ (by omega)).1, b4 x hx]; decide
      · by_cases z : c = c0E P s
        · rw [z, show c0E P s % 256 = 2 ^ P 6 s from hcm, Nat.testBit_two_pow] at hb1
          exact absurd (of_decide_eq_true hb1).symm hb2
        · exact absurd (show (bfE P s t 0).2.2 c = 0 from if_neg z) hc
      · exact absurd (show (if x = P 6 s then pop (lbN P s 0) + 1 else 0) = 0 from if_neg hx1) hx2
    obtain ⟨F, gz, az, bz, cz, dz⟩ := x_srloop hA9 hG9 hs hd ht hP9 hL9 (f := nI (P 6 s))
    have hfl : ∀ j, j ≠ 9 → hi gz a j = hi g1 a j := fun j hj => by
      rw [dz j hj, f9 j hj, hg8, hg7, hg6, w_ne (by omega), w_ne (by omega), w_ne (by omega), (c5.2 _ (by omega)).1, (c4.2 _ (by omega)).1, (c3.2 _ (by omega)).1, (c2.2 _ (by omega)).1]
    obtain ⟨-, sn, mw, mh, s1, s2, m1, m2, n1, n2⟩ := bz
    refine ⟨gz, ?_, ⟨sn, mw, mh, s1, s2, m1, m2, n1, n2⟩, ?_, ?_, ?_, q9.tr (cz.mono (fun o ho => by unfold lvD at ho; unfold srD; omega))⟩
    · have hr2 := c2.1.1
      have hk2 := c2.1.2.1
      have hr3 := c3.1.1
      have hk3 := c3.1.2.1
      have hr4 := c4.1.1
      have hk4 := c4.1.2.1
      have hr5 := c5.1.1
      have hk5 := c5.1.2.1
      have hr9 := c9.1.1
      have hk9 := c9.1.2.1
      have kp := hG.s.k
      have rp := hG.s.r13
      rw [hg1] at a2 hr2 hk2
      rw [hg6] at e6 e7 hg7
      rw [hg7] at e8 e9 hg8
      rw [hg8] at a9 hr9 hk9
      by_cases z1 : hi h a 14 = nI s
      · have z2 : ¬ hi h a 15 = nI t := fun y => zc ⟨z1, y⟩
        simp (disch := omega) only [ob_t, ob_n, ob_ite, e_cI, e_cL, e_cR, e_vI, e_vL, e_vR, e_d2, e_d2_a, e_d2_b, e_d2z, e_d2z_a, e_d2z_b, e_d1, e_d1_a, e_GI, e_GI_a, e_GL, e_GL_a, e_GR, e_GR_a, e_AI, e_AI_a, e_AI_b, e_AB, e_AB_a, e_AB_b, e_AZ, e_AZ_a, e_AZ_b, e_AL, e_AL_a, e_AL_b, e_AR, e_AR_a, e_AR_b, e_Len, e_Len_a, e_CI, e_CI_a, e_CI_b, e_CZ, e_CZ_a, e_And, e_kAnd, e_Or, e_kOr, e_Not, e_kNot, e_B, e_kB, e_T, e_kT, e_NN, e_kNN, e_NewA, e_NewA_a, e_NewC, e_kNewC, e_aN, e_aI, e_aI_a, e_aI_b, e_aL, e_aL_a, e_aL_b, e_aR, e_aR_a, e_aR_b, e_Call, e_kCall, e_CallV, e_kCallV, e_SetI, e_kSetI, e_SetL, e_kSetL, e_SetR, e_kSetR, e_Inc, e_Skip, e_Brk, e_Cnt, e_Ret, e_kRet, e_Ret0, e_Seq, e_kSeq0, e_kSeq1, e_kSeq2, e_kSeqR, e_If, e_kIf, e_Do, e_kDo, e_Sup, e_kN0, e_d3, e_k3a, e_k3b, e_k3c, e_P, e_kPa, e_kPb, e_UA, e_kUAa, e_kUAb, e_kUAc, e_UL, e_kULa, e_kULb, e_kULc, e_UF, e_kUFa, e_kUFb, e_Cp, e_kCp, e_Sw, e_kSwa, e_kSwb0, e_kSwb1, e_kSwbR, e_M1, e_kM1, e_MZ, e_kMZ, e_MN, e_kMN, e_Tv, e_kTv, e_Tc, e_kTc, e_lpS, e_kLp, e_kLpB0, e_kLpB1, e_kLpB2, e_kLpBR, e_kLpU, e_dwS, e_kDwB0, e_kDwC, f_II, f_LL, f_RR, f_IL, f_IR, f_LI, f_LR, f_RI, f_RL, o_iadd, o_isub, o_imul, o_iand, o_ior, o_ixor, o_ladd, o_lsub, o_lmul, o_land, o_lor, o_ishl, o_ishr, o_iushr, o_lshl, o_lshr, o_lcmp, o_i2l, o_l2i, o_i2b, o_i2s, o_lneg, o_ineg, o_imax, o_imin, o_idiv, o_irem, o_ldiv, o_lrem, r_lt, r_le, r_gt, r_ge, r_eq, r_ne, q_lt, q_le, q_gt, q_ge, q_eq, q_ne, decide_eq_true_eq, idI, and_true, true_and, and_false, false_and, or_true, true_or, or_false, false_or, not_true_eq_false, not_false_eq_true, if_true, if_false, ite_self, Bool.not_true, Bool.not_false, Bool.false_eq_true, Bool.true_eq_false, decide_true, decide_false, ne_eq, reduceIte, Nat.reduceEqDiff, Option.some.injEq, Prod.mk.injEq, eq_self, fa_lit, nI_add, pk_mul, nI_ltI, nI_leI, nI_eq, b01, b0, b1, x_hasBit, Nat.reduceLeDiff, Nat.reduceAdd, Nat.reduceMul, Nat.reduceSub, Nat.lt_irrefl, Nat.reduceLT, n_inb, nI_clamp, w_hr, w_hk, w_hl, w_eq, w_ne, wl_hr, wl_hk, wl_hi, wl_eq, wl_ne, hA.k, hA.k1, hA.k2, hA.k3, hA.k4, hA.k5, hA.k6, hA.k7, hA.k8, hA.k9, hA.k10, hA.k11, hA.k12, hA.r0, hA.r1, hA.r2, hA.r3, hA.r4, hA.r5, hA.r6, hA.r7, hA.r8, hA.r10, hA.r11, hA.r12, f_ss, f_sR, stI, fI, DX0_search, BX0_search, z1, z2, a2, a3, a4, a5, e6, e7, e8, e9, n_shl, a9, az, hr2, hk2, hr3, hk3, hr4, hk4, hr5, hk5, hr9, hk9, kp, rp]
      · simp (disch := omega) only [ob_t, ob_n, ob_ite, e_cI, e_cL, e_cR, e_vI, e_vL, e_vR, e_d2, e_d2_a, e_d2_b, e_d2z, e_d2z_a, e_d2z_b, e_d1, e_d1_a, e_GI, e_GI_a, e_GL, e_GL_a, e_GR, e_GR_a, e_AI, e_AI_a, e_AI_b, e_AB, e_AB_a, e_AB_b, e_AZ, e_AZ_a, e_AZ_b, e_AL, e_AL_a, e_AL_b, e_AR, e_AR_a, e_AR_b, e_Len, e_Len_a, e_CI, e_CI_a, e_CI_b, e_CZ, e_CZ_a, e_And, e_kAnd, e_Or, e_kOr, e_Not, e_kNot, e_B, e_kB, e_T, e_kT, e_NN, e_kNN, e_NewA, e_NewA_a, e_NewC, e_kNewC, e_aN, e_aI, e_aI_a, e_aI_b, e_aL, e_aL_a, e_aL_b, e_aR, e_aR_a, e_aR_b, e_Call, e_kCall, e_CallV, e_kCallV, e_SetI, e_kSetI, e_SetL, e_kSetL, e_SetR, e_kSetR, e_Inc, e_Skip, e_Brk, e_Cnt, e_Ret, e_kRet, e_Ret0, e_Seq, e_kSeq0, e_kSeq1, e_kSeq2, e_kSeqR, e_If, e_kIf, e_Do, e_kDo, e_Sup, e_kN0, e_d3, e_k3a, e_k3b, e_k3c, e_P, e_kPa, e_kPb, e_UA, e_kUAa, e_kUAb, e_kUAc, e_UL, e_kULa, e_kULb, e_kULc, e_UF, e_kUFa, e_kUFb, e_Cp, e_kCp, e_Sw, e_kSwa, e_kSwb0, e_kSwb1, e_kSwbR, e_M1, e_kM1, e_MZ, e_kMZ, e_MN, e_kMN, e_Tv, e_kTv, e_Tc, e_kTc, e_lpS, e_kLp, e_kLpB0, e_kLpB1, e_kLpB2, e_kLpBR, e_kLpU, e_dwS, e_kDwB0, e_kDwC, f_II, f_LL, f_RR, f_IL, f_IR, f_LI, f_LR, f_RI, f_RL, o_iadd, o_isub, o_imul, o_iand, o_ior, o_ixor, o_ladd, o_lsub, o_lmul, o_land, o_lor, o_ishl, o_ishr, o_iushr, o_lshl, o_lshr, o_lcmp, o_i2l, o_l2i, o_i2b, o_i2s, o_lneg, o_ineg, o_imax, o_imin, o_idiv, o_irem, o_ldiv, o_lrem, r_lt, r_le, r_gt, r_ge, r_eq, r_ne, q_lt, q_le, q_gt, q_ge, q_eq, q_ne, decide_eq_true_eq, idI, and_true, true_and, and_false, false_and, or_true, true_or, or_false, false_or, not_true_eq_false, not_false_eq_true, if_true, if_false, ite_self, Bool.not_true, Bool.not_false, Bool.false_eq_true, Bool.true_eq_false, decide_true, decide_false, ne_eq, reduceIte, Nat.reduceEqDiff, Option.some.injEq, Prod.mk.injEq, eq_self, fa_lit, nI_add, pk_mul, nI_ltI, nI_leI, nI_eq, b01, b0, b1, x_hasBit, Nat.reduceLeDiff, Nat.reduceAdd, Nat.reduceMul, Nat.reduceSub, Nat.lt_irrefl, Nat.reduceLT, n_inb, nI_clamp, w_hr, w_hk, w_hl, w_eq, w_ne, wl_hr, wl_hk, wl_hi, wl_eq, wl_ne, hA.k, hA.k1, hA.k2, hA.k3, hA.k4, hA.k5, hA.k6, hA.k7, hA.k8, hA.k9, hA.k10, hA.k11, hA.k12, hA.r0, hA.r1, hA.r2, hA.r3, hA.r4, hA.r5, hA.r6, hA.r7, hA.r8, hA.r10, hA.r11, hA.r12, f_ss, f_sR, stI, fI, DX0_search, BX0_search, z1, a2, a3, a4, a5, e6, e7, e8, e9, n_shl, a9, az, hr2, hk2, hr3, hk3, hr4, hk4, hr5, hk5, hr9, hk9, kp, rp]
    · rw [hfl 14 (by decide), hg1, w_ne (by omega)]; exact w_eq _ _ _ _
    · rw [hfl 15 (by decide), hg1]; exact w_eq _ _ _ _
    · rw [hfl 16 (by decide), hg1, w_ne (by omega), w_ne (by omega)]
end
