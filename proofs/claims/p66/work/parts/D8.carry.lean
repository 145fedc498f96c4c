set_option maxRecDepth 100000
set_option maxHeartbeats 2000000
/-! calls: carry -/
section
variable {W : St} {h g : St} {P P' : PT}
theorem x_add (hO : CO h) (hP : PS h oP) (u v w x : Int32) {n : Nat} (hn1 : n < 32) (y1 : hi h (oP + 9) 1 = nI n) : DX1_add (sI (sI (sI (sI (sR fr0 0 (oP + 9)) 1 u) 2 v) 3 w) 4 x) h = some ((), wI (wI (wI (wI (wI h (oP + 10) n u) (oP + 11) n v) (oP + 12) n w) (oP + 13) n x) (oP + 9) 1 (nI (n + 1))) := by
  have hcc := o_is
  have k10 := hP.k10
  have k11 := hP.k11
  have k12 := hP.k12
  have k13 := hP.k13
  have e1 : (nI 32 ≤ nI n) = False := by rw [nI_leI (by decide) (by omega)]; exact eq_false (by omega)
  have c1 : DX11_put (sI (sI (sR fr0 0 (oP + 10)) 1 (nI n)) 2 u) h = some ((), wI h (oP + 10) n u) := x_put (by rw [k10]) (by omega) (by rw [k10]; exact hn1) (by rw [k10]; decide)
  have c2 : DX11_put (sI (sI (sR fr0 0 (oP + 11)) 1 (nI n)) 2 v) (wI h (oP + 10) n u) = some ((), wI (wI h (oP + 10) n u) (oP + 11) n v) := x_put (by show (hk h _).1 = 13; rw [k11]) (by omega) (by show n < (hk h _).2; rw [k11]; exact hn1) (by show (hk h _).2 < _; rw [k11]; decide)
  have c3 : DX11_put (sI (sI (sR fr0 0 (oP + 12)) 1 (nI n)) 2 w) (wI (wI h (oP + 10) n u) (oP + 11) n v) = some ((), wI (wI (wI h (oP + 10) n u) (oP + 11) n v) (oP + 12) n w) := x_put (by show (hk h _).1 = 13; rw [k12]) (by omega) (by show n < (hk h _).2; rw [k12]; exact hn1) (by show (hk h _).2 < _; rw [k12]; decide)
  have c4 : DX11_put (sI (sI (sR fr0 0 (oP + 13)) 1 (nI n)) 2 x) (wI (wI (wI h (oP + 10) n u) (oP + 11) n v) (oP + 12) n w) = some ((), wI (wI (wI (wI h (oP + 10) n u) (oP + 11) n v) (oP + 12) n w) (oP + 13) n x) := x_put (by show (hk h _).1 = 13; rw [k13]) (by omega) (by show n < (hk h _).2; rw [k13]; exact hn1) (by show (hk h _).2 < _; rw [k13]; decide)
  simp (disch := omega) only [ob_t, ob_n, ob_ite, e_cI, e_cL, e_cR, e_vI, e_vL, e_vR, e_d2, e_d2_a, e_d2_b, e_d2z, e_d2z_a, e_d2z_b, e_d1, e_d1_a, e_GI, e_GI_a, e_GL, e_GL_a, e_GR, e_GR_a, e_AI, e_AI_a, e_AI_b, e_AB, e_AB_a, e_AB_b, e_AZ, e_AZ_a, e_AZ_b, e_AL, e_AL_a, e_AL_b, e_AR, e_AR_a, e_AR_b, e_Len, e_Len_a, e_CI, e_CI_a, e_CI_b, e_CZ, e_CZ_a, e_And, e_kAnd, e_Or, e_kOr, e_Not, e_kNot, e_B, e_kB, e_T, e_kT, e_NN, e_kNN, e_NewA, e_NewA_a, e_NewC, e_kNewC, e_aN, e_aI, e_aI_a, e_aI_b, e_aL, e_aL_a, e_aL_b, e_aR, e_aR_a, e_aR_b, e_Call, e_kCall, e_CallV, e_kCallV, e_SetI, e_kSetI, e_SetL, e_kSetL, e_SetR, e_kSetR, e_Inc, e_Skip, e_Brk, e_Cnt, e_Ret, e_kRet, e_Ret0, e_Seq, e_kSeq0, e_kSeq1, e_kSeq2, e_kSeqR, e_If, e_kIf, e_Do, e_kDo, e_Sup, e_kN0, e_d3, e_k3a, e_k3b, e_k3c, e_P, e_kPa, e_kPb, e_UA, e_kUAa, e_kUAb, e_kUAc, e_UL, e_kULa, e_kULb, e_kULc, e_UF, e_kUFa, e_kUFb, e_Cp, e_kCp, e_Sw, e_kSwa, e_kSwb0, e_kSwb1, e_kSwbR, e_M1, e_kM1, e_MZ, e_kMZ, e_MN, e_kMN, e_Tv, e_kTv, e_Tc, e_kTc, e_lpS, e_kLp, e_kLpB0, e_kLpB1, e_kLpB2, e_kLpBR, e_kLpU, e_dwS, e_kDwB0, e_kDwC, f_II, f_LL, f_RR, f_IL, f_IR, f_LI, f_LR, f_RI, f_RL, o_iadd, o_isub, o_imul, o_iand, o_ior, o_ixor, o_ladd, o_lsub, o_lmul, o_land, o_lor, o_ishl, o_ishr, o_iushr, o_lshl, o_lshr, o_lcmp, o_i2l, o_l2i, o_i2b, o_i2s, o_lneg, o_ineg, o_imax, o_imin, o_idiv, o_irem, o_ldiv, o_lrem, r_lt, r_le, r_gt, r_ge, r_eq, r_ne, q_lt, q_le, q_gt, q_ge, q_eq, q_ne, decide_eq_true_eq, idI, and_true, true_and, and_false, false_and, or_true, true_or, or_false, false_or, not_true_eq_false, not_false_eq_true, if_true, if_false, ite_self, Bool.not_true, Bool.not_false, Bool.false_eq_true, Bool.true_eq_false, decide_true, decide_false, ne_eq, reduceIte, Nat.reduceEqDiff, Option.some.injEq, Prod.mk.injEq, eq_self, fa_lit, nI_add, pk_mul, nI_ltI, nI_leI, nI_eq, b01, b0, b1, x_hasBit, Nat.reduceLeDiff, Nat.reduceAdd, Nat.reduceMul, Nat.reduceSub, Nat.lt_irrefl, Nat.reduceLT, hO.koX, hO.k32, hO.k33, hO.k34, hO.k67, hO.k68, hO.k69, hO.k70, hO.k71, hO.k100, hO.k101, hO.k115, hO.k116, hO.k117, hO.k118, hO.k119, hO.k120, hO.k121, hO.roX_0, hO.roX_1, hO.roX_2, hO.roX_3, hO.roX_4, hO.roX_5, hO.roX_6, hO.roX_7, hO.roX_8, hO.roX_9, hO.roX_10, hO.roX_11, hO.roX_12, hO.roX_13, hO.r32_0, hO.r68_0, hO.r68_1, hO.r68_2, hO.r100_0, hO.r115_2, hO.r115_3, hO.r118_1, hP.k, hP.k9, hP.r8, hP.r9, hP.r10, hP.r11, hP.r12, hP.r13, hP.r14, hP.r15, hP.r16, hP.c3, hP.c4, hP.c5, hP.c6, hP.c7, hP.c8, n_inb, nI_clamp, w_hr, w_hk, w_hl, w_eq, w_ne, wl_hr, wl_hk, wl_hi, wl_eq, wl_ne, f_ss, f_sR, f_sL, lc0, lc1, lc01, DX1_add, BX1_add, y1, e1, c1, c2, c3, c4, fI]
def carP (P : PT) (m s w d : Nat) : PT := up (up (up (up (up (up (up (up P 10 (P 9 1) m) 11 (P 9 1) s) 12 (P 9 1) w) 13 (P 9 1) d) 14 (P 9 2) 0) 15 (P 9 2) 0) 9 1 (P 9 1 + 1)) 9 2 (P 9 2 + 1)
theorem carP_lo (P : PT) (m s w d : Nat) {j : Nat} (k : Nat) (q : j < 9 ∨ (10 ≤ j ∧ j ≤ 13 ∧ k ≠ P 9 1) ∨ (j = 9 ∧ k ≠ 2 ∧ k ≠ 1) ∨ (14 ≤ j ∧ k ≠ P 9 2)) : carP P m s w d j k = P j k := by
  unfold carP
  rw [up_o _ _ (by omega), up_o _ _ (by omega), up_o _ _ (by omega), up_o _ _ (by omega), up_o _ _ (by omega), up_o _ _ (by omega), up_o _ _ (by omega), up_o _ _ (by omega)]
theorem carP_2 (P : PT) (m s w d : Nat) : carP P m s w d 9 2 = P 9 2 + 1 := up_eq _ _ _ _
theorem carP_1 (P : PT) (m s w d : Nat) : carP P m s w d 9 1 = P 9 1 + 1 := by
  unfold carP
  rw [up_o _ _ (by omega), up_eq]
theorem carP_15 (P : PT) (m s w d : Nat) : carP P m s w d 15 (P 9 2) = 0 := by
  unfold carP
  rw [up_o _ _ (by omega), up_o _ _ (by omega), up_eq]
theorem carP_14 (P : PT) (m s w d : Nat) : carP P m s w d 14 (P 9 2) = 0 := by
  unfold carP
  rw [up_o _ _ (by omega), up_o _ _ (by omega), up_o _ _ (by omega), up_eq]
theorem carP_13 (P : PT) (m s w d : Nat) : carP P m s w d 13 (P 9 1) = d := by
  unfold carP
  rw [up_o _ _ (by omega), up_o _ _ (by omega), up_o _ _ (by omega), up_o _ _ (by omega), up_eq]
theorem carP_12 (P : PT) (m s w d : Nat) : carP P m s w d 12 (P 9 1) = w := by
  unfold carP
  rw [up_o _ _ (by omega), up_o _ _ (by omega), up_o _ _ (by omega), up_o _ _ (by omega), up_o _ _ (by omega), up_eq]
theorem carP_11 (P : PT) (m s w d : Nat) : carP P m s w d 11 (P 9 1) = s := by
  unfold carP
  rw [up_o _ _ (by omega), up_o _ _ (by omega), up_o _ _ (by omega), up_o _ _ (by omega), up_o _ _ (by omega), up_o _ _ (by omega), up_eq]
theorem carP_10 (P : PT) (m s w d : Nat) : carP P m s w d 10 (P 9 1) = m := by
  unfold carP
  rw [up_o _ _ (by omega), up_o _ _ (by omega), up_o _ _ (by omega), up_o _ _ (by omega), up_o _ _ (by omega), up_o _ _ (by omega), up_o _ _ (by omega), up_eq]
/-- the class's part of a CARRY -/
def carH (h : St) (P : PT) (m s w d : Nat) : St := wI (wI (wI (wI (wI (wI (wI (wI h (oP + 10) (P 9 1) (nI m)) (oP + 11) (P 9 1) (nI s)) (oP + 12) (P 9 1) (nI w)) (oP + 13) (P 9 1) (nI d)) (oP + 9) 1 (nI (P 9 1 + 1))) (oP + 14) (P 9 2) (-nI 1)) (oP + 15) (P 9 2) (-nI 1)) (oP + 9) 2 (nI (P 9 2 + 1))
def carD (o : Nat) : Prop := 44 ≤ o ∧ o < 51
theorem carH_ch (h : St) (P : PT) (m s w d : Nat) : Ch carD h (carH h P m s w d) := by
  have hcc := o_is
  unfold carH
  exact (((((((Ch.w (D := carD) (by unfold carD; omega) h _ _).tr (Ch.w (D := carD) (by unfold carD; omega) _ _ _)).tr (Ch.w (D := carD) (by unfold carD; omega) _ _ _)).tr (Ch.w (D := carD) (by unfold carD; omega) _ _ _)).tr (Ch.w (D := carD) (by unfold carD; omega) _ _ _)).tr (Ch.w (D := carD) (by unfold carD; omega) _ _ _)).tr (Ch.w (D := carD) (by unfold carD; omega) _ _ _)).tr (Ch.w (D := carD) (by unfold carD; omega) _ _ _)
theorem carH_rp (hR : RP h oP P) (m s w d : Nat) : RP (carH h P m s w d) oP (carP P m s w d) := by
  have hcc := o_is
  have q := carH_ch h P m s w d
  refine ⟨fun j k hin => ?_, fun k hk1 => ?_⟩
  · by_cases j9 : j < 9
    · rw [carP_lo P m s w d k (by omega), (q.2 _ (by unfold carD; omega)).1]
      exact hR.1 j k (hin.lo (fun k => carP_lo P m s w d k (by omega)) (fun k => carP_lo P m s w d k (by omega)) j9)
    · by_cases e9 : j = 9
      · subst e9
        have hk3 := hin.k3
        unfold carH
        match k, hk3 with
        | 0, _ =>
          rw [carP_lo P m s w d 0 (by omega), w_ne (by omega), w_ne (by omega), w_ne (by omega), w_ne (by omega), w_ne (by omega), w_ne (by omega), w_ne (by omega), w_ne (by omega)]
          exact hR.cs (by decide)
        | 1, _ => rw [carP_1, w_ne (by omega), w_ne (by omega), w_ne (by omega), w_eq]
        | 2, _ => rw [carP_2, w_eq]
      · have hu := hin.up (by omega)
        rw [carP_1] at hu
        unfold carH
        rw [w_ne (by omega), w_ne (by omega), w_ne (by omega), w_ne (by omega)]
        by_cases ek : k = P 9 1
        · subst ek
          by_cases e13 : j = 13
          · subst e13
            rw [w_eq, carP_13]
          · rw [w_ne (by omega)]
            by_cases e12 : j = 12
            · subst e12
              rw [w_eq, carP_12]
            · rw [w_ne (by omega)]
              by_cases e11 : j = 11
              · subst e11
                rw [w_eq, carP_11]
              · rw [w_ne (by omega)]
                have e10 : j = 10 := by omega
                subst e10
                rw [w_eq, carP_10]
        · rw [w_ne (by omega), w_ne (by omega), w_ne (by omega), w_ne (by omega), carP_lo P m s w d k (by omega)]
          exact hR.1 j k (by unfold PIn; omega)
  · rw [carP_2] at hk1
    unfold carH
    by_cases ek : k = P 9 2
    · subst ek
      rw [carP_14, carP_15, w_ne (by omega), w_ne (by omega), w_eq, w_ne (by omega), w_eq]
      exact ⟨by decide, by decide⟩
    · rw [carP_lo P m s w d k (by omega), carP_lo P m s w d k (by omega), w_ne (by omega), w_ne (by omega), w_ne (by omega), w_ne (by omega), w_ne (by omega), w_ne (by omega), w_ne (by omega), w_ne (by omega), w_ne (by omega), w_ne (by omega), w_ne (by omega), w_ne (by omega), w_ne (by omega), w_ne (by omega), w_ne (by omega), w_ne (by omega)]
      exact hR.2 k (by omega)
end
