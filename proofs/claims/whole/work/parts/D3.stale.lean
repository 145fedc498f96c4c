set_option maxRecDepth 100000
set_option maxHeartbeats 1000000
/-! a change of the PORT: what is kept, what is forgotten -/
section
variable {L : Nat} {xs : Nat → Int32} {h g : St} {P P' : PT}
def mz (i : Nat) : Nat := [1, 9, 8, 24, 10, 3, 3, 18, 48, 80].getD i 0
theorem MP.chs {m a : Nat} (H : MP h m a P) (ha : 1 ≤ a) (q : ∀ i j, i < 10 → mz i ≤ j → hi g (m + 6 + i) j = hi h (m + 6 + i) j) : MP g m a P := by
  have q6 : ∀ j, 1 ≤ j → hi g (m + 6) j = hi h (m + 6) j := fun j z => q 0 j (by decide) z
  have q7 : ∀ j, 9 ≤ j → hi g (m + 7) j = hi h (m + 7) j := fun j z => q 1 j (by decide) z
  have q8 : ∀ j, 8 ≤ j → hi g (m + 8) j = hi h (m + 8) j := fun j z => q 2 j (by decide) z
  have q9 : ∀ j, 24 ≤ j → hi g (m + 9) j = hi h (m + 9) j := fun j z => q 3 j (by decide) z
  have q10 : ∀ j, 10 ≤ j → hi g (m + 10) j = hi h (m + 10) j := fun j z => q 4 j (by decide) z
  have q11 : ∀ j, 3 ≤ j → hi g (m + 11) j = hi h (m + 11) j := fun j z => q 5 j (by decide) z
  have q12 : ∀ j, 3 ≤ j → hi g (m + 12) j = hi h (m + 12) j := fun j z => q 6 j (by decide) z
  have q13 : ∀ j, 18 ≤ j → hi g (m + 13) j = hi h (m + 13) j := fun j z => q 7 j (by decide) z
  have q14 : ∀ j, 48 ≤ j → hi g (m + 14) j = hi h (m + 14) j := fun j z => q 8 j (by decide) z
  have q15 : ∀ j, 80 ≤ j → hi g (m + 15) j = hi h (m + 15) j := fun j z => q 9 j (by decide) z
  obtain ⟨b1, b2, b3, b4, b5, b6, b7, b8, b9, b10⟩ := H
  refine ⟨?_, fun w hw => ?_, fun k hk1 => ?_, fun k hk1 => ⟨?_, ?_⟩, fun k hk1 => ⟨?_, ?_⟩, fun s hs => ⟨?_, ?_, fun i hi1 => ?_⟩, fun k t hk1 ht => ?_, fun j t hj ht => ?_, fun j hj hz => ?_, b10⟩
  · rw [q6 _ (by omega)]; exact b1
  · rw [q7 _ (by omega)]; exact b2 w hw
  · rw [q8 _ (by omega)]; exact b3 k hk1
  · rw [q9 _ (by omega)]; exact (b4 k hk1).1
  · rw [q9 _ (by omega)]; exact (b4 k hk1).2
  · rw [q10 _ (by omega)]; exact (b5 k hk1).1
  · rw [q10 _ (by omega)]; exact (b5 k hk1).2
  · rw [q11 _ (by omega)]; exact (b6 s hs).1
  · rw [q12 _ (by omega)]; exact (b6 s hs).2.1
  · rw [q13 _ (by omega)]; exact (b6 s hs).2.2 i hi1
  · rw [q14 _ (by omega)]; exact b7 k t hk1 ht
  · rw [q15 _ (by omega)]; exact b8 j t hj ht
  · rw [q15 _ (by omega)]; exact b9 j hj hz
def chg (o : Nat) : Prop := (35 ≤ o ∧ o < 51) ∨ (72 ≤ o ∧ o < 86) ∨ o = 102 ∨ o = 115 ∨ o = 122 ∨ (128 ≤ o ∧ o < 138) ∨ (139 ≤ o ∧ o < 158)
theorem Inv.toP (H : Inv L xs h P) (q : Ch chg h g) (hm : ∀ k, k = 6 ∨ k = 14 ∨ k = 15 → hi g oM k = hi h oM k) (hR : RP g oP P') (hW : WFP P') (f : Fresh g oD P') (a1 : hi g oA 14 = -nI 1) (a2 : hi g oA 16 = -nI 1) (wo : hi g 115 0 = nI 0) (hM : MP g oM 0 P') (hI : ∀ i j, i < 10 → mz i ≤ j → hi g (oM + 6 + i) j = hi h (oM + 6 + i) j) : Inv L xs g P' := by
  have hcc := o_is
  have ns : ∀ o, (o < 35 ∨ (51 ≤ o ∧ o < 72) ∨ (86 ≤ o ∧ o < 102) ∨ (102 < o ∧ o < 115) ∨ (115 < o ∧ o < 122) ∨ (122 < o ∧ o < 128) ∨ o = 138 ∨ 158 ≤ o) → ¬ chg o := fun o ho z => by
    unfold chg at z
    omega
  obtain ⟨S, hS⟩ := H.wi
  refine ⟨H.sh.to q.1, hR, hW, f, ⟨S, hS.keep q (fun o h1 h2 => ns o (by omega))⟩, Or.inl a1, Or.inl a2, Or.inl wo, hM, H.sl.keep q (fun o h1 h2 => ns o (by omega)) (fun o h1 h2 => ns o (by omega)), H.tp.keep q (fun o h1 h2 => ns o (by omega)) (ns _ (by omega)) hm, ⟨fun k hk1 => ?_, ?_⟩, H.nm.keep q.1, H.cn.keep q (fun o ho => ns o (by omega))⟩
  · rw [q.1.1]
    have h3 := (q.2 (oM + 16) (ns _ (by omega))).1 k
    rcases H.im.1 k hk1 with ⟨b1, b2⟩ | ⟨b1, b2, b3, P0, b4, b5⟩
    · exact Or.inl ⟨b1, by rw [h3]; exact b2⟩
    · exact Or.inr ⟨b1, by rw [q.1.2.2.1]; exact b2, by rw [h3]; exact b3, P0, b4.ch q (fun j hj => ns _ (by omega)), b5.chs (by omega) hI⟩
  · rw [q.1.1]
    exact H.im.2
theorem Fresh.rc {d : Nat} (H : Fresh h d P) : ∃ S, RC h (d + 1) S := by
  rcases H with ⟨-, S, h2⟩ | ⟨-, S, h2⟩
  · exact ⟨S, h2⟩
  · exact ⟨_, h2.2.2⟩
def stD (o : Nat) : Prop := o = 72 ∨ o = 102 ∨ o = 115
theorem x_stale (hO : CO h) (hD : DS h oD) (hA : AS h oA) : ∃ g, DX11_makeStale (sR fr0 0 oX) h = some ((), g) ∧ Ch stD h g ∧ hi g oD 0 = nI 0 ∧ hi g oA 14 = -nI 1 ∧ hi g oA 16 = -nI 1 ∧ hi g 115 0 = nI 0 ∧ ∀ r, r ≠ 72 → r ≠ 102 → r ≠ 115 → ∀ k, hi g r k = hi h r k := by
  have hcc := o_is
  refine ⟨wI (wI (wI (wI h oD 0 (nI 0)) 115 0 (nI 0)) oA 14 (-nI 1)) oA 16 (-nI 1), ?_, ?_, ?_, ?_, ?_, ?_, fun r r1 r2 r3 k => ?_⟩
  · simp (disch := omega) only [ob_t, ob_n, ob_ite, e_cI, e_cL, e_cR, e_vI, e_vL, e_vR, e_d2, e_d2_a, e_d2_b, e_d2z, e_d2z_a, e_d2z_b, e_d1, e_d1_a, e_GI, e_GI_a, e_GL, e_GL_a, e_GR, e_GR_a, e_AI, e_AI_a, e_AI_b, e_AB, e_AB_a, e_AB_b, e_AZ, e_AZ_a, e_AZ_b, e_AL, e_AL_a, e_AL_b, e_AR, e_AR_a, e_AR_b, e_Len, e_Len_a, e_CI, e_CI_a, e_CI_b, e_CZ, e_CZ_a, e_And, e_kAnd, e_Or, e_kOr, e_Not, e_kNot, e_B, e_kB, e_T, e_kT, e_NN, e_kNN, e_NewA, e_NewA_a, e_NewC, e_kNewC, e_aN, e_aI, e_aI_a, e_aI_b, e_aL, e_aL_a, e_aL_b, e_aR, e_aR_a, e_aR_b, e_Call, e_kCall, e_CallV, e_kCallV, e_SetI, e_kSetI, e_SetL, e_kSetL, e_SetR, e_kSetR, e_Inc, e_Skip, e_Brk, e_Cnt, e_Ret, e_kRet, e_Ret0, e_Seq, e_kSeq0, e_kSeq1, e_kSeq2, e_kSeqR, e_If, e_kIf, e_Do, e_kDo, e_Sup, e_kN0, e_d3, e_k3a, e_k3b, e_k3c, e_P, e_kPa, e_kPb, e_UA, e_kUAa, e_kUAb, e_kUAc, e_UL, e_kULa, e_kULb, e_kULc, e_UF, e_kUFa, e_kUFb, e_Cp, e_kCp, e_Sw, e_kSwa, e_kSwb0, e_kSwb1, e_kSwbR, e_M1, e_kM1, e_MZ, e_kMZ, e_MN, e_kMN, e_Tv, e_kTv, e_Tc, e_kTc, e_lpS, e_kLp, e_kLpB0, e_kLpB1, e_kLpB2, e_kLpBR, e_kLpU, e_dwS, e_kDwB0, e_kDwC, f_II, f_LL, f_RR, f_IL, f_IR, f_LI, f_LR, f_RI, f_RL, o_iadd, o_isub, o_imul, o_iand, o_ior, o_ixor, o_ladd, o_lsub, o_lmul, o_land, o_lor, o_ishl, o_ishr, o_iushr, o_lshl, o_lcmp, o_i2l, o_l2i, o_i2b, o_i2s, o_lneg, o_imax, o_imin, o_idiv, o_irem, o_ldiv, o_lrem, r_lt, r_le, r_gt, r_ge, r_eq, r_ne, q_lt, q_le, q_gt, q_ge, q_eq, q_ne, decide_eq_true_eq, idI, and_true, true_and, and_false, false_and, or_true, true_or, or_false, false_or, not_true_eq_false, not_false_eq_true, if_true, if_false, ite_self, Bool.not_true, Bool.not_false, Bool.false_eq_true, Bool.true_eq_false, decide_true, decide_false, ne_eq, reduceIte, Nat.reduceEqDiff, Option.some.injEq, Prod.mk.injEq, eq_self, fa_lit, nI_add, pk_mul, nI_ltI, nI_leI, nI_eq, b01, b0, b1, x_hasBit, Nat.reduceLeDiff, Nat.reduceAdd, Nat.reduceMul, Nat.reduceSub, Nat.lt_irrefl, Nat.reduceLT, hO.koX, hO.k32, hO.k33, hO.k34, hO.k67, hO.k68, hO.k69, hO.k70, hO.k71, hO.k100, hO.k101, hO.k115, hO.k116, hO.k117, hO.k118, hO.k119, hO.k120, hO.k121, hO.roX_0, hO.roX_1, hO.roX_2, hO.roX_3, hO.roX_4, hO.roX_5, hO.roX_6, hO.roX_7, hO.roX_8, hO.roX_9, hO.roX_10, hO.roX_11, hO.roX_12, hO.roX_13, hO.r32_0, hO.r68_0, hO.r68_1, hO.r68_2, hO.r100_0, hO.r115_2, hO.r115_3, hO.r118_1, n_inb, nI_clamp, w_hr, w_hk, w_hl, w_eq, w_ne, wl_hr, wl_hk, wl_hi, wl_eq, wl_ne, f_ss, f_sR, f_sL, lc0, lc1, lc01, hD.k, hA.k, fZ, fI, DX11_makeStale, BX11_makeStale, DX0_forget, BX0_forget]
  · exact (((Ch.w (D := stD) (Or.inl hcc.2.2.2.1) h 0 _).tr (Ch.w (D := stD) (Or.inr (Or.inr rfl)) _ 0 _)).tr (Ch.w (D := stD) (Or.inr (Or.inl hcc.2.2.2.2.2.1)) _ 14 _)).tr (Ch.w (D := stD) (Or.inr (Or.inl hcc.2.2.2.2.2.1)) _ 16 _)
  · rw [w_ne (by omega), w_ne (by omega), w_ne (by omega), w_eq]
  · rw [w_ne (by omega), w_eq]
  · rw [w_eq]
  · rw [w_ne (by omega), w_ne (by omega), w_eq]
  · rw [w_ne (by omega), w_ne (by omega), w_ne (by omega), w_ne (by omega)]
end
