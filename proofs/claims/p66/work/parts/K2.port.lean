set_option maxRecDepth 100000
set_option maxHeartbeats 2000000
/-! the calls that read the text; images -/
section
variable {W h g : St} {P P' : PT}
theorem Inv.side {D : Nat → Prop} (H : Inv W h P) (q : Ch D h g) (hD : ∀ o, D o → (31 ≤ o ∧ o < 35) ∨ (51 ≤ o ∧ o < 72) ∨ (95 ≤ o ∧ o < 102) ∨ (115 ≤ o ∧ o < 122)) : Inv W g P := by
  have hc := o_is
  obtain ⟨S, hS⟩ := H.wi
  refine ⟨H.sh.to q.1, RP.ch q (fun j hj z => by have := hD _ z; omega) H.2.1, H.w, H.fr.keep q (fun o h1 h2 z => by have := hD o z; omega), ⟨S, hS.keep q (fun o h1 h2 z => by have := hD o z; omega)⟩, H.a1.keep q (fun o h1 h2 z => by have := hD o z; omega), H.a2.keep q (Or.inl (fun z => by have := hD _ z; omega)) (fun z => by have := hD _ z; omega), H.cn.keep q (fun o z => by have := hD o z; omega)⟩
def fdV (a b c d e : Int32) (i : Nat) : Int32 := if i = 0 then a else if i = 1 then b else if i = 2 then c else if i = 3 then d else e
theorem c_feed (H : Inv W h P) (a b c d e : Int32) {n : Nat} (hn1 : n + 20 ≤ 800) (s1 : hi h 32 1 = nI n) : ∃ g, DX11_feed (sI (sI (sI (sI (sI (sR fr0 0 oX) 1 a) 2 b) 3 c) 4 d) 5 e) h = some (nI (n + 20), g) ∧ Inv W g P ∧ hi g 32 1 = nI (n + 20) ∧ ∀ j, j < 800 → hi g 33 j = if n ≤ j ∧ j < n + 20 then btE (fdV a b c d e ((j - n) / 4)) ((j - n) % 4) else hi h 33 j := by
  have hO := H.co
  have hP := H.ps
  have hcc := o_is
  have e1 : (nI 800 < nI (n + 20)) = False := by rw [nI_ltI (by decide) (by omega)]; exact eq_false (by omega)
  obtain ⟨g1, a1, q1, u1, v1⟩ := x_tapeAdd hO a (n := n) (by omega) s1
  obtain ⟨g2, a2, q2, u2, v2⟩ := x_tapeAdd (hO.to q1.1) b (n := n + 4) (by omega) u1
  obtain ⟨g3, a3, q3, u3, v3⟩ := x_tapeAdd ((hO.to q1.1).to q2.1) c (n := n + 4 + 4) (by omega) u2
  obtain ⟨g4, a4, q4, u4, v4⟩ := x_tapeAdd (((hO.to q1.1).to q2.1).to q3.1) d (n := n + 4 + 4 + 4) (by omega) u3
  obtain ⟨g5, a5, q5, u5, v5⟩ := x_tapeAdd ((((hO.to q1.1).to q2.1).to q3.1).to q4.1) e (n := n + 4 + 4 + 4 + 4) (by omega) u4
  have qa : Ch (fun o => o = 32 ∨ o = 33) h g5 := (((q1.tr q2).tr q3).tr q4).tr q5
  refine ⟨g5, ?_, H.side qa (fun o ho => by omega), by rw [u5], fun j hj => ?_⟩
  · simp (disch := omega) only [ob_t, ob_n, ob_ite, e_cI, e_cL, e_cR, e_vI, e_vL, e_vR, e_d2, e_d2_a, e_d2_b, e_d2z, e_d2z_a, e_d2z_b, e_d1, e_d1_a, e_GI, e_GI_a, e_GL, e_GL_a, e_GR, e_GR_a, e_AI, e_AI_a, e_AI_b, e_AB, e_AB_a, e_AB_b, e_AZ, e_AZ_a, e_AZ_b, e_AL, e_AL_a, e_AL_b, e_AR, e_AR_a, e_AR_b, e_Len, e_Len_a, e_CI, e_CI_a, e_CI_b, e_CZ, e_CZ_a, e_And, e_kAnd, e_Or, e_kOr, e_Not, e_kNot, e_B, e_kB, e_T, e_kT, e_NN, e_kNN, e_NewA, e_NewA_a, e_NewC, e_kNewC, e_aN, e_aI, e_aI_a, e_aI_b, e_aL, e_aL_a, e_aL_b, e_aR, e_aR_a, e_aR_b, e_Call, e_kCall, e_CallV, e_kCallV, e_SetI, e_kSetI, e_SetL, e_kSetL, e_SetR, e_kSetR, e_Inc, e_Skip, e_Brk, e_Cnt, e_Ret, e_kRet, e_Ret0, e_Seq, e_kSeq0, e_kSeq1, e_kSeq2, e_kSeqR, e_If, e_kIf, e_Do, e_kDo, e_Sup, e_kN0, e_d3, e_k3a, e_k3b, e_k3c, e_P, e_kPa, e_kPb, e_UA, e_kUAa, e_kUAb, e_kUAc, e_UL, e_kULa, e_kULb, e_kULc, e_UF, e_kUFa, e_kUFb, e_Cp, e_kCp, e_Sw, e_kSwa, e_kSwb0, e_kSwb1, e_kSwbR, e_M1, e_kM1, e_MZ, e_kMZ, e_MN, e_kMN, e_Tv, e_kTv, e_Tc, e_kTc, e_lpS, e_kLp, e_kLpB0, e_kLpB1, e_kLpB2, e_kLpBR, e_kLpU, e_dwS, e_kDwB0, e_kDwC, f_II, f_LL, f_RR, f_IL, f_IR, f_LI, f_LR, f_RI, f_RL, o_iadd, o_isub, o_imul, o_iand, o_ior, o_ixor, o_ladd, o_lsub, o_lmul, o_land, o_lor, o_ishl, o_ishr, o_iushr, o_lshl, o_lshr, o_lcmp, o_i2l, o_l2i, o_i2b, o_i2s, o_lneg, o_ineg, o_imax, o_imin, o_idiv, o_irem, o_ldiv, o_lrem, r_lt, r_le, r_gt, r_ge, r_eq, r_ne, q_lt, q_le, q_gt, q_ge, q_eq, q_ne, decide_eq_true_eq, idI, and_true, true_and, and_false, false_and, or_true, true_or, or_false, false_or, not_true_eq_false, not_false_eq_true, if_true, if_false, ite_self, Bool.not_true, Bool.not_false, Bool.false_eq_true, Bool.true_eq_false, decide_true, decide_false, ne_eq, reduceIte, Nat.reduceEqDiff, Option.some.injEq, Prod.mk.injEq, eq_self, fa_lit, nI_add, pk_mul, nI_ltI, nI_leI, nI_eq, b01, b0, b1, x_hasBit, Nat.reduceLeDiff, Nat.reduceAdd, Nat.reduceMul, Nat.reduceSub, Nat.lt_irrefl, Nat.reduceLT, hO.koX, hO.k32, hO.k33, hO.k34, hO.k67, hO.k68, hO.k69, hO.k70, hO.k71, hO.k100, hO.k101, hO.k115, hO.k116, hO.k117, hO.k118, hO.k119, hO.k120, hO.k121, hO.roX_0, hO.roX_1, hO.roX_2, hO.roX_3, hO.roX_4, hO.roX_5, hO.roX_6, hO.roX_7, hO.roX_8, hO.roX_9, hO.roX_10, hO.roX_11, hO.roX_12, hO.roX_13, hO.r32_0, hO.r68_0, hO.r68_1, hO.r68_2, hO.r100_0, hO.r115_2, hO.r115_3, hO.r118_1, hP.k, hP.k9, hP.r8, hP.r9, hP.r10, hP.r11, hP.r12, hP.r13, hP.r14, hP.r15, hP.r16, hP.c3, hP.c4, hP.c5, hP.c6, hP.c7, hP.c8, n_inb, nI_clamp, w_hr, w_hk, w_hl, w_eq, w_ne, wl_hr, wl_hk, wl_hi, wl_eq, wl_ne, f_ss, f_sR, f_sL, lc0, lc1, lc01, DX11_feed, BX11_feed, s1, e1, a1, a2, a3, a4, a5, u5, q1.1.1, q2.1.1, q3.1.1, q4.1.1, q5.1.1, q1.1.2.1, q2.1.2.1, q3.1.2.1, q4.1.2.1, q5.1.2.1, Nat.add_assoc]
  · rw [v5 j hj, v4 j hj, v3 j hj, v2 j hj, v1 j hj]
    unfold fdV
    by_cases z0 : n ≤ j ∧ j < n + 20
    · rw [if_pos z0]
      by_cases y0 : j < n + 4
      · rw [if_neg (by omega), if_neg (by omega), if_neg (by omega), if_neg (by omega), if_pos (by omega), if_pos (by omega), show (j - n) % 4 = j - n by omega]
      · by_cases y1 : j < n + 8
        · rw [if_neg (by omega), if_neg (by omega), if_neg (by omega), if_pos (by omega), if_neg (by omega), if_pos (by omega), show (j - n) % 4 = j - (n + 4) by omega]
        · by_cases y2 : j < n + 12
          · rw [if_neg (by omega), if_neg (by omega), if_pos (by omega), if_neg (by omega), if_neg (by omega), if_pos (by omega), show (j - n) % 4 = j - (n + 4 + 4) by omega]
          · by_cases y3 : j < n + 16
            · rw [if_neg (by omega), if_pos (by omega), if_neg (by omega), if_neg (by omega), if_neg (by omega), if_pos (by omega), show (j - n) % 4 = j - (n + 4 + 4 + 4) by omega]
            · rw [if_pos (by omega), if_neg (by omega), if_neg (by omega), if_neg (by omega), if_neg (by omega), show (j - n) % 4 = j - (n + 4 + 4 + 4 + 4) by omega]
    · rw [if_neg z0, if_neg (by omega), if_neg (by omega), if_neg (by omega), if_neg (by omega), if_neg (by omega)]
theorem c_port (H : Inv W h P) (T : TXh h) {B : Nat → Int32} {n : Nat} (hn1 : n ≤ 800) (s1 : hi h 32 1 = nI n) (hB : ∀ k, k < n → hi h 33 k = B k) {P1 : PT} (e1 : bAll B n (n + 1) (skp B n 0) Z0 = .inr P1) : ∃ g, DX11_port (sR fr0 0 oX) h = some (nI (P1 0 0), g) ∧ Inv W g (finP P1) := by
  have hO := H.co
  have hP := H.ps
  have hQ : PS h oQ := H.sh.2.2.1
  have hcc := o_is
  obtain ⟨g1, r, x1, c1, O⟩ := x_read (B := B) (n := n) T ⟨hO, hn1, s1, hB⟩ hQ
  have nq : ∀ o, (o ≠ 32 ∧ o ≠ 34 ∧ (o < 51 ∨ 67 ≤ o)) → ¬ cqD o := fun o ho z => by unfold cqD at z; omega
  have c2 : Ch cqD g1 (wI g1 32 1 (nI 0)) := Ch.w (D := cqD) (Or.inl rfl) _ _ _
  have c12 := c1.tr c2
  obtain ⟨P2, e2, rfl, hR1, hW1, f0, f1⟩ | ⟨e, e2, rfl, K⟩ := O
  · have : P2 = P1 := by rw [e1] at e2; cases e2; rfl
    subst this
    have hR2 : RP (wI g1 32 1 (nI 0)) oQ (finP P2) := RP.ch (Ch.w (D := fun o => o = 32) rfl g1 1 (nI 0)) (fun j hj => by omega) hR1
    obtain ⟨g3, x3, c3, a0, a9, a1, a2, a3, a4, a5, a6, a7, a8, a10, a11, a12, a13, a14, a15⟩ := x_pcopy (p := oP) (q := oQ) (hP.to c12.1) (hQ.to c12.1) (by omega)
    have hR3 : RP g3 oP (finP P2) := RP.copied hR2 hW1 a0 a9 a1 a2 a3 a4 a5 a6 a7 a8 (fun j i h1 h2 h3 => by
      rcases (show j = 10 ∨ j = 11 ∨ j = 12 ∨ j = 13 by omega) with rfl | rfl | rfl | rfl
      · exact a10 i h3
      · exact a11 i h3
      · exact a12 i h3
      · exact a13 i h3) a14 a15
    obtain ⟨g4, x4, c4, v1, v2, v3, v4, v5⟩ := x_stale ((hO.to c12.1).to c3.1) ((H.ds.to c12.1).to c3.1) ((H.as.to c12.1).to c3.1)
    have hg : ∀ o, (o ≠ 32 ∧ o ≠ 34 ∧ (o < 35 ∨ 67 ≤ o)) → o ≠ 72 → o ≠ 102 → o ≠ 115 → ∀ k, hi g4 o k = hi h o k := fun o ho r1 r2 r3 k => by
      rw [v5 o r1 r2 r3 k, (c3.2 o (by omega)).1, (c12.2 o (nq o (by omega))).1]
    have q5 : Ch (fun o => 31 ≤ o ∧ o < 122 ∧ ¬ (87 ≤ o ∧ o < 95)) h g4 := ((c12.mono (fun o ho => by unfold cqD at ho; show 31 ≤ o ∧ o < 122 ∧ ¬ (87 ≤ o ∧ o < 95); omega)).tr (c3.mono (fun o ho => by show 31 ≤ o ∧ o < 122 ∧ ¬ (87 ≤ o ∧ o < 95); omega))).tr (c4.mono (fun o ho => by unfold stD at ho; show 31 ≤ o ∧ o < 122 ∧ ¬ (87 ≤ o ∧ o < 95); omega))
    have v17 : hi g4 oP 0 = nI (finP P2 0 0) := by
      rw [v5 _ (by omega) (by omega) (by omega)]
      exact hR3.1 0 0 (Or.inl ⟨rfl, by decide⟩)
    have e00 : finP P2 0 0 = P2 0 0 := by unfold finP up; rw [if_neg (by omega)]
    refine ⟨g4, ?_, H.toP q5 (fun o ho => ho) ⟨fun j i hin => ?_, fun i hi1 => ?_⟩ hW1 (Or.inl ⟨v1, ?_⟩) v2 v3⟩
    · rw [← e00]
      simp (disch := omega) only [DX11_port, BX11_port, nI_n10, ob_t, ob_n, ob_ite, e_cI, e_cL, e_cR, e_vI, e_vL, e_vR, e_d2, e_d2_a, e_d2_b, e_d2z, e_d2z_a, e_d2z_b, e_d1, e_d1_a, e_GI, e_GI_a, e_GL, e_GL_a, e_GR, e_GR_a, e_AI, e_AI_a, e_AI_b, e_AB, e_AB_a, e_AB_b, e_AZ, e_AZ_a, e_AZ_b, e_AL, e_AL_a, e_AL_b, e_AR, e_AR_a, e_AR_b, e_Len, e_Len_a, e_CI, e_CI_a, e_CI_b, e_CZ, e_CZ_a, e_And, e_kAnd, e_Or, e_kOr, e_Not, e_kNot, e_B, e_kB, e_T, e_kT, e_NN, e_kNN, e_NewA, e_NewA_a, e_NewC, e_kNewC, e_aN, e_aI, e_aI_a, e_aI_b, e_aL, e_aL_a, e_aL_b, e_aR, e_aR_a, e_aR_b, e_Call, e_kCall, e_CallV, e_kCallV, e_SetI, e_kSetI, e_SetL, e_kSetL, e_SetR, e_kSetR, e_Inc, e_Skip, e_Brk, e_Cnt, e_Ret, e_kRet, e_Ret0, e_Seq, e_kSeq0, e_kSeq1, e_kSeq2, e_kSeqR, e_If, e_kIf, e_Do, e_kDo, e_Sup, e_kN0, e_d3, e_k3a, e_k3b, e_k3c, e_P, e_kPa, e_kPb, e_UA, e_kUAa, e_kUAb, e_kUAc, e_UL, e_kULa, e_kULb, e_kULc, e_UF, e_kUFa, e_kUFb, e_Cp, e_kCp, e_Sw, e_kSwa, e_kSwb0, e_kSwb1, e_kSwbR, e_M1, e_kM1, e_MZ, e_kMZ, e_MN, e_kMN, e_Tv, e_kTv, e_Tc, e_kTc, e_lpS, e_kLp, e_kLpB0, e_kLpB1, e_kLpB2, e_kLpBR, e_kLpU, e_dwS, e_kDwB0, e_kDwC, f_II, f_LL, f_RR, f_IL, f_IR, f_LI, f_LR, f_RI, f_RL, and_true, true_and, and_false, false_and, or_true, true_or, or_false, false_or, not_true_eq_false, not_false_eq_true, if_true, if_false, ite_self, Bool.not_true, Bool.not_false, Bool.false_eq_true, Bool.true_eq_false, decide_true, decide_false, ne_eq, reduceIte, Nat.reduceEqDiff, Option.some.injEq, Prod.mk.injEq, eq_self, r_lt, r_le, r_gt, r_ge, r_eq, r_ne, q_lt, q_le, q_gt, q_ge, q_eq, q_ne, decide_eq_true_eq, b01, b0, b1, o_iadd, o_imul, n_inb, nI_clamp, w_hr, w_hk, w_hl, w_eq, w_ne, wl_hr, wl_hk, wl_hi, wl_eq, wl_ne, stI, idI, fL, f_ss, f_sR, f_sL, lc0, lc1, lc01, fa_lit, fa_litL, fI, hO.koX, hO.k32, hO.k33, hO.k34, hO.k67, hO.k68, hO.k69, hO.k70, hO.k71, hO.k100, hO.k101, hO.k115, hO.k116, hO.k117, hO.k118, hO.k119, hO.k120, hO.k121, hO.roX_0, hO.roX_1, hO.roX_2, hO.roX_3, hO.roX_4, hO.roX_5, hO.roX_6, hO.roX_7, hO.roX_8, hO.roX_9, hO.roX_10, hO.roX_11, hO.roX_12, hO.roX_13, hO.r32_0, hO.r68_0, hO.r68_1, hO.r68_2, hO.r100_0, hO.r115_2, hO.r115_3, hO.r118_1, hP.k, x1, x3, x4, v17, c1.1.1, c1.1.2.1, c3.1.1, c3.1.2.1, c4.1.1, c4.1.2.1]
    · have := hin.j16
      rw [v5 _ (by omega) (by omega) (by omega)]
      exact hR3.1 j i hin
    · rw [v5 _ (by omega) (by omega) (by omega), v5 _ (by omega) (by omega) (by omega)]
      exact hR3.2 i hi1
    · obtain ⟨S, hS⟩ := H.fr.rc
      exact ⟨S, fun j i hjk => by
        have := hjk.1
        rw [hg _ (by omega) (by omega) (by omega) (by omega)]
        exact hS j i hjk⟩
  · rw [e1] at e2; cases e2
theorem PG.cn {q : Nat} (H : PG h q P') (k : CNs g h) (hq : 122 ≤ q) : PG g q P' := by
  obtain ⟨h1, h2, h3⟩ := H
  refine ⟨h1.to k.1, ⟨fun a b hab => ?_, fun b hb => ?_⟩, h3⟩
  · rw [(k.2 _ (by omega)).1]; exact h2.1 a b hab
  · rw [(k.2 _ (by omega)).1, (k.2 _ (by omega)).1]; exact h2.2 b hb
theorem c_back (H : Inv W h P) {q : Nat} (hq : hr h 67 2 = q) (hq1 : 122 ≤ q) (b4 : PG h q P') : ∃ g, DX11_back (sI (sR fr0 0 oX) 1 (nI 2)) h = some (nI 0, g) ∧ Inv W g P' := by
  have hO := H.co
  have hP := H.ps
  have hcc := o_is
  have k67 := hO.k67
  have e1 : (nI 2 < nI 0) = False := eq_false (by decide)
  have e2 : (Int32.ofNat 3 ≤ nI 2) = False := eq_false (by decide)
  have hq0 : (q = 0) = False := eq_false (by omega)
  obtain ⟨g1, c1, q1, a0, a9, a1, a2, a3, a4, a5, a6, a7, a8, a10, a11, a12, a13, a14, a15⟩ := x_pcopy (p := oP) (q := q) hP b4.1 (by omega)
  have hR1 : RP g1 oP P' := RP.copied b4.2.1 b4.2.2 a0 a9 a1 a2 a3 a4 a5 a6 a7 a8 (fun j i h1 h2 h3 => by
    rcases (show j = 10 ∨ j = 11 ∨ j = 12 ∨ j = 13 by omega) with rfl | rfl | rfl | rfl
    · exact a10 i h3
    · exact a11 i h3
    · exact a12 i h3
    · exact a13 i h3) a14 a15
  obtain ⟨g2, c2, q2, s1, s2, s3, s4, s5⟩ := x_stale (hO.to q1.1) (H.ds.to q1.1) (H.as.to q1.1)
  have hg : ∀ r, ¬ (35 ≤ r ∧ r < 51) → r ≠ 72 → r ≠ 102 → r ≠ 115 → ∀ i, hi g2 r i = hi h r i := fun r r0 r1 r2 r3 i => by
    rw [s5 r r1 r2 r3 i, (q1.2 r (by omega)).1]
  have r1 := q1.1.1
  have r1' := q1.1.2.1
  refine ⟨g2, ?_, H.toP ((q1.mono (fun o ho => by show 31 ≤ o ∧ o < 122 ∧ ¬ (87 ≤ o ∧ o < 95); omega)).tr (q2.mono (fun o ho => by unfold stD at ho; show 31 ≤ o ∧ o < 122 ∧ ¬ (87 ≤ o ∧ o < 95); omega))) (fun o ho => ho) ⟨fun j i hin => ?_, fun i hi1 => ?_⟩ b4.2.2 (Or.inl ⟨s1, ?_⟩) s2 s3⟩
  · simp (disch := omega) only [ob_t, ob_n, ob_ite, e_cI, e_cL, e_cR, e_vI, e_vL, e_vR, e_d2, e_d2_a, e_d2_b, e_d2z, e_d2z_a, e_d2z_b, e_d1, e_d1_a, e_GI, e_GI_a, e_GL, e_GL_a, e_GR, e_GR_a, e_AI, e_AI_a, e_AI_b, e_AB, e_AB_a, e_AB_b, e_AZ, e_AZ_a, e_AZ_b, e_AL, e_AL_a, e_AL_b, e_AR, e_AR_a, e_AR_b, e_Len, e_Len_a, e_CI, e_CI_a, e_CI_b, e_CZ, e_CZ_a, e_And, e_kAnd, e_Or, e_kOr, e_Not, e_kNot, e_B, e_kB, e_T, e_kT, e_NN, e_kNN, e_NewA, e_NewA_a, e_NewC, e_kNewC, e_aN, e_aI, e_aI_a, e_aI_b, e_aL, e_aL_a, e_aL_b, e_aR, e_aR_a, e_aR_b, e_Call, e_kCall, e_CallV, e_kCallV, e_SetI, e_kSetI, e_SetL, e_kSetL, e_SetR, e_kSetR, e_Inc, e_Skip, e_Brk, e_Cnt, e_Ret, e_kRet, e_Ret0, e_Seq, e_kSeq0, e_kSeq1, e_kSeq2, e_kSeqR, e_If, e_kIf, e_Do, e_kDo, e_Sup, e_kN0, e_d3, e_k3a, e_k3b, e_k3c, e_P, e_kPa, e_kPb, e_UA, e_kUAa, e_kUAb, e_kUAc, e_UL, e_kULa, e_kULb, e_kULc, e_UF, e_kUFa, e_kUFb, e_Cp, e_kCp, e_Sw, e_kSwa, e_kSwb0, e_kSwb1, e_kSwbR, e_M1, e_kM1, e_MZ, e_kMZ, e_MN, e_kMN, e_Tv, e_kTv, e_Tc, e_kTc, e_lpS, e_kLp, e_kLpB0, e_kLpB1, e_kLpB2, e_kLpBR, e_kLpU, e_dwS, e_kDwB0, e_kDwC, f_II, f_LL, f_RR, f_IL, f_IR, f_LI, f_LR, f_RI, f_RL, o_iadd, o_isub, o_imul, o_iand, o_ior, o_ixor, o_ladd, o_lsub, o_lmul, o_land, o_lor, o_ishl, o_ishr, o_iushr, o_lshl, o_lshr, o_lcmp, o_i2l, o_l2i, o_i2b, o_i2s, o_lneg, o_ineg, o_imax, o_imin, o_idiv, o_irem, o_ldiv, o_lrem, r_lt, r_le, r_gt, r_ge, r_eq, r_ne, q_lt, q_le, q_gt, q_ge, q_eq, q_ne, decide_eq_true_eq, idI, and_true, true_and, and_false, false_and, or_true, true_or, or_false, false_or, not_true_eq_false, not_false_eq_true, if_true, if_false, ite_self, Bool.not_true, Bool.not_false, Bool.false_eq_true, Bool.true_eq_false, decide_true, decide_false, ne_eq, reduceIte, Nat.reduceEqDiff, Option.some.injEq, Prod.mk.injEq, eq_self, fa_lit, nI_add, pk_mul, nI_ltI, nI_leI, nI_eq, b01, b0, b1, x_hasBit, Nat.reduceLeDiff, Nat.reduceAdd, Nat.reduceMul, Nat.reduceSub, Nat.lt_irrefl, Nat.reduceLT, hO.koX, hO.k32, hO.k33, hO.k34, hO.k67, hO.k68, hO.k69, hO.k70, hO.k71, hO.k100, hO.k101, hO.k115, hO.k116, hO.k117, hO.k118, hO.k119, hO.k120, hO.k121, hO.roX_0, hO.roX_1, hO.roX_2, hO.roX_3, hO.roX_4, hO.roX_5, hO.roX_6, hO.roX_7, hO.roX_8, hO.roX_9, hO.roX_10, hO.roX_11, hO.roX_12, hO.roX_13, hO.r32_0, hO.r68_0, hO.r68_1, hO.r68_2, hO.r100_0, hO.r115_2, hO.r115_3, hO.r118_1, hP.k, hP.k9, hP.r8, hP.r9, hP.r10, hP.r11, hP.r12, hP.r13, hP.r14, hP.r15, hP.r16, hP.c3, hP.c4, hP.c5, hP.c6, hP.c7, hP.c8, n_inb, nI_clamp, w_hr, w_hk, w_hl, w_eq, w_ne, wl_hr, wl_hk, wl_hi, wl_eq, wl_ne, f_ss, f_sR, f_sL, lc0, lc1, lc01, DX11_back, BX11_back, e1, e2, hq, hq0, c1, c2, r1, r1']
  · have := hin.j16
    rw [s5 _ (by omega) (by omega) (by omega)]
    exact hR1.1 j i hin
  · rw [s5 _ (by omega) (by omega) (by omega), s5 _ (by omega) (by omega) (by omega)]
    exact hR1.2 i hi1
  · obtain ⟨S, hS⟩ := H.fr.rc
    exact ⟨S, fun j i hjk => by
      have := hjk.1
      rw [hg _ (by omega) (by omega) (by omega) (by omega)]
      exact hS j i hjk⟩
theorem c_image (H : Inv W h P) (h0 : hr h 67 2 = 0) (hn1 : 122 ≤ hn h) : ∃ g, DX11_image (sI (sR fr0 0 oX) 1 (nI 2)) h = some (nI 0, g) ∧ Inv g g P ∧ PG g (hn h) P ∧ hr g 67 2 = hn h ∧ hn g = hn h + 16 ∧ hs g = hs h + 260 := by
  have hO := H.co
  have hcc := o_is
  have k67 := hO.k67
  have r4 := hO.roX_4
  have kX := hO.koX
  have e1 : (nI 2 < nI 0) = False := eq_false (by decide)
  have e2 : (Int32.ofNat 3 ≤ nI 2) = False := eq_false (by decide)
  have eA : (dGR 11 4 (vR 0)) (sI (sR fr0 0 oX) 1 (nI 2)) h = some (67, h) := by
    simp only [e_GR, e_vR, ob_t, e_GR_a, f_II, f_LL, f_RR, f_IL, f_IR, f_LI, f_LR, f_RI, f_RL, kX, r4, and_true, true_and, and_false, false_and, or_true, true_or, or_false, false_or, not_true_eq_false, not_false_eq_true, if_true, if_false, ite_self, Bool.not_true, Bool.not_false, Bool.false_eq_true, Bool.true_eq_false, decide_true, decide_false, ne_eq, reduceIte, Nat.reduceEqDiff, Option.some.injEq, Prod.mk.injEq, eq_self]
  have eV : (vI 1) (sI (sR fr0 0 oX) 1 (nI 2)) h = some (nI 2, h) := by
    simp only [e_vI, f_II, f_LL, f_RR, f_IL, f_IR, f_LI, f_LR, f_RI, f_RL, and_true, true_and, and_false, false_and, or_true, true_or, or_false, false_or, not_true_eq_false, not_false_eq_true, if_true, if_false, ite_self, Bool.not_true, Bool.not_false, Bool.false_eq_true, Bool.true_eq_false, decide_true, decide_false, ne_eq, reduceIte, Nat.reduceEqDiff, Option.some.injEq, Prod.mk.injEq, eq_self]
  have ei : inb (nI 2) 3 = true := n_inb (by decide) (by decide)
  have ec : (nI 2).toNatClampNeg = 2 := nI_clamp (by omega)
  have eC : (dNot (dNN (dAR (dGR 11 4 (vR 0)) (vI 1)))) (sI (sR fr0 0 oX) 1 (nI 2)) h = some (!decide (hr h 67 2 ≠ 0), h) := by
    rw [e_Not, e_NN, e_AR, eA, ob_t, e_AR_a, eV, ob_t, e_AR_b, k67, if_pos ⟨rfl, ei⟩, ec, ob_t, e_kNN, ob_t, e_kNot]
  obtain ⟨p, hp⟩ : ∃ p, p = hn h := ⟨_, rfl⟩
  have hkp : hk (wN h (5, 0) 17) p = (5, 0) := by rw [hp]; exact wN_hk'
  obtain ⟨g1, c1, m1, m2, m3, m4, m5, m6⟩ := x_newPort (h := wN h (5, 0) 17) (p := p) (by omega) (by rw [wN_hn, hp]) hkp
  have k1 : hk g1 67 = (17, 3) := by rw [m4 67 (by omega), wN_hk (by omega), k67]
  have hnp : hn h = p := hp.symm
  have e17 : clN 5 = 17 := rfl
  have eN : (dNewC 5 DX5_init) (sI (sR fr0 0 oX) 1 (nI 2)) h = some (p, g1) := by
    rw [e_NewC, e17, hnp, c1, ob_t, e_kNewC]
  have eS : stR 67 (nI 2) p g1 = some (wR g1 67 2 p) := by
    unfold stR
    rw [k1, if_pos ⟨rfl, ei, by rw [m3.k]⟩, ec]
  obtain ⟨g2, hg2⟩ : ∃ x, x = wR g1 67 2 p := ⟨_, rfl⟩
  have c0 : (dIf (dNot (dNN (dAR (dGR 11 4 (vR 0)) (vI 1)))) (d3 stR (dGR 11 4 (vR 0)) (vI 1) (dNewC 5 DX5_init)) dSkip : Sm Int32) (sI (sR fr0 0 oX) 1 (nI 2)) h = some (.inl 0, sI (sR fr0 0 oX) 1 (nI 2), g2) := by
    rw [e_If, eC, ob_t, e_kIf, if_pos (by rw [h0]; rfl), e_d3, eA, ob_t, e_k3a, eV, ob_t, e_k3b, eN, ob_t, e_k3c, eS, ob_t, hg2]
    rfl
  have lw : Lw h g2 := fun o ho => by
    rw [hg2]
    refine ⟨?_, fun j => ?_, fun j => ?_, fun z j => ?_⟩
    · rw [wR_hk, m4 o (by omega), wN_hk (by omega)]
    · rw [wR_hi, (m6 o (by omega)).1, wN_hi (by omega)]
    · rw [wR_hl, (m6 o (by omega)).2, wN_hl (by omega)]
    · rw [wR_hr, if_neg (by omega), m5 o j (by omega), wN_hr (by omega)]
  have H2 := H.lw lw
  have q1 : hr g2 67 2 = p := by rw [hg2, wR_hr, if_pos ⟨rfl, rfl⟩]
  have hS2 : PS g2 p := by
    rw [hg2]
    refine ⟨m3.1, m3.2.1, fun j hj => ?_, fun j hj => ?_⟩
    · rw [wR_hr, if_neg (by omega)]; exact m3.2.2.1 j hj
    · rw [wR_hr, if_neg (by omega)]; exact m3.2.2.2 j hj
  obtain ⟨g3, c3, q3, a0, a9, a1, a2, a3, a4, a5, a6, a7, a8, a10, a11, a12, a13, a14, a15⟩ := x_pcopy (p := p) (q := oP) hS2 H2.ps (by omega)
  have hR3 : RP g3 p P := RP.copied H2.pg.r H.w a0 a9 a1 a2 a3 a4 a5 a6 a7 a8 (fun j i h1 h2 h3 => by
    rcases (show j = 10 ∨ j = 11 ∨ j = 12 ∨ j = 13 by omega) with rfl | rfl | rfl | rfl
    · exact a10 i h3
    · exact a11 i h3
    · exact a12 i h3
    · exact a13 i h3) a14 a15
  have lw3 : Lw g2 g3 := fun o ho => ⟨by rw [q3.1.2.1], (q3.2 o (by omega)).1, (q3.2 o (by omega)).2, fun z j => by rw [q3.1.1]⟩
  have hO2 := H2.co
  have k67g := hO2.k67
  have koXg := hO2.koX
  have r4g := hO2.roX_4
  have r2g := hO2.roX_2
  have kq := hS2.k
  refine ⟨g3, ?_, H2.lw lw3, ?_, ?_, ?_, ?_⟩
  · obtain ⟨X, hX⟩ : ∃ X : Sm Int32, X = dIf (dNot (dNN (dAR (dGR 11 4 (vR 0)) (vI 1)))) (d3 stR (dGR 11 4 (vR 0)) (vI 1) (dNewC 5 DX5_init)) dSkip := ⟨_, rfl⟩
    rw [← hX] at c0
    have eB : BX11_image = (dSeq (dIf (dOr (dCZ q_lt (vI 1)) (dCI r_ge (vI 1) (dLen (dGR 11 4 (vR 0))))) (dRet (cI (-2))) dSkip) (dSeq X (dSeq (dDo (dCallV 5 DX5_copy (aR (aR aN 0 (dAR (dGR 11 4 (vR 0)) (vI 1))) 1 (dGR 11 2 (vR 0))))) (dRet (cI 0))))) := by
      rw [hX]
      rfl
    simp (disch := omega) only [ob_t, ob_n, ob_ite, e_cI, e_cL, e_cR, e_vI, e_vL, e_vR, e_d2, e_d2_a, e_d2_b, e_d2z, e_d2z_a, e_d2z_b, e_d1, e_d1_a, e_GI, e_GI_a, e_GL, e_GL_a, e_GR, e_GR_a, e_AI, e_AI_a, e_AI_b, e_AB, e_AB_a, e_AB_b, e_AZ, e_AZ_a, e_AZ_b, e_AL, e_AL_a, e_AL_b, e_AR, e_AR_a, e_AR_b, e_Len, e_Len_a, e_CI, e_CI_a, e_CI_b, e_CZ, e_CZ_a, e_And, e_kAnd, e_Or, e_kOr, e_Not, e_kNot, e_B, e_kB, e_T, e_kT, e_NN, e_kNN, e_NewA, e_NewA_a, e_NewC, e_kNewC, e_aN, e_aI, e_aI_a, e_aI_b, e_aL, e_aL_a, e_aL_b, e_aR, e_aR_a, e_aR_b, e_Call, e_kCall, e_CallV, e_kCallV, e_SetI, e_kSetI, e_SetL, e_kSetL, e_SetR, e_kSetR, e_Inc, e_Skip, e_Brk, e_Cnt, e_Ret, e_kRet, e_Ret0, e_Seq, e_kSeq0, e_kSeq1, e_kSeq2, e_kSeqR, e_If, e_kIf, e_Do, e_kDo, e_Sup, e_kN0, e_d3, e_k3a, e_k3b, e_k3c, e_P, e_kPa, e_kPb, e_UA, e_kUAa, e_kUAb, e_kUAc, e_UL, e_kULa, e_kULb, e_kULc, e_UF, e_kUFa, e_kUFb, e_Cp, e_kCp, e_Sw, e_kSwa, e_kSwb0, e_kSwb1, e_kSwbR, e_M1, e_kM1, e_MZ, e_kMZ, e_MN, e_kMN, e_Tv, e_kTv, e_Tc, e_kTc, e_lpS, e_kLp, e_kLpB0, e_kLpB1, e_kLpB2, e_kLpBR, e_kLpU, e_dwS, e_kDwB0, e_kDwC, f_II, f_LL, f_RR, f_IL, f_IR, f_LI, f_LR, f_RI, f_RL, and_true, true_and, and_false, false_and, or_true, true_or, or_false, false_or, not_true_eq_false, not_false_eq_true, if_true, if_false, ite_self, Bool.not_true, Bool.not_false, Bool.false_eq_true, Bool.true_eq_false, decide_true, decide_false, ne_eq, reduceIte, Nat.reduceEqDiff, Option.some.injEq, Prod.mk.injEq, eq_self, o_iadd, o_imul, r_lt, r_le, r_gt, r_ge, r_eq, r_ne, q_lt, q_le, q_gt, q_ge, q_eq, q_ne, decide_eq_true_eq, lc0, lc1, lc01, nI_eq, Nat.reduceLeDiff, Nat.reduceLT, b01, b0, b1, n_inb, nI_clamp, f_ss, f_sL, f_sR, DX11_image, eB, fa_lit, q_lt, r_ge, hO.koX, hO.roX_4, k67, e1, e2, c0, k67g, koXg, r4g, r2g, q1, kq, c3]
  · rw [hnp]
    exact ⟨hS2.to q3.1, hR3, H.w⟩
  · rw [q3.1.1, q1, hnp]
  · rw [q3.1.2.2.1, hg2, wR_hn, m1, hnp]
  · rw [q3.1.2.2.2, hg2, wR_hs, m2, wN_hs]
end
