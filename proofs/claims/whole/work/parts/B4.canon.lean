set_option maxRecDepth 100000
set_option maxHeartbeats 1000000
/-! what the DAYS come to, told of the Port alone -/
def Z0 : PT := fun _ _ => 0
def tdN (P : PT) (d : Nat) : PT := runN P (asTold P Z0) d
theorem told6 (P S T : PT) (k : Nat) (hk1 : k < 6) : asTold P S 0 k = asTold P T 0 k := by
  rcases (show k = 0 ∨ k = 1 ∨ k = 2 ∨ k = 3 ∨ k = 4 ∨ k = 5 by omega) with rfl | rfl | rfl | rfl | rfl | rfl <;> rfl
theorem td_eq {P : PT} (hW : WFP P) (S : PT) (d : Nat) {j k : Nat} (hu : UIn P j k) (hn1 : j ≠ 0 ∨ k < 6) : runN P (asTold P S) d j k = tdN P d j k := (runN_same hW (told6 P S Z0) d).at hu hn1
theorem td_eq1 {P : PT} (hW : WFP P) (S : PT) (d : Nat) {j k : Nat} (hu : UIn P j k) : runN P (asTold P S) (d + 1) j k = tdN P (d + 1) j k := runN_same1 hW (told6 P S Z0) d j k hu
theorem heN_c {T U : PT} {s : Nat} : ∀ n, n ≤ 8 → (∀ a, a < n → T 4 (8 * s + a) = U 4 (8 * s + a)) → heN T s n = heN U s n := by
  intro n
  induction n with
  | zero => intro _ _; rfl
  | succ n ih =>
    intro hn1 q
    unfold heN
    rw [ih (by omega) (fun a ha => q a (by omega)), q n (by omega)]
theorem heard_eq {P : PT} (hW : WFP P) (S : PT) (d : Nat) {s : Nat} (hs : s < P 0 7) : heard P (runN P (asTold P S) d) s = heard P (tdN P d) s := by
  have hb := hW.all
  exact heN_c _ hb.2.2.2.1 (fun a ha => td_eq hW S d (by unfold UIn; omega) (by omega))
theorem td3 {P : PT} (hW : WFP P) (d : Nat) {s : Nat} (hs : s < P 0 7) : tdN P d 3 s < 2 ^ P 7 s := WFS3 hW (WFX_told hW Z0) d hs
theorem td4 {P : PT} (hW : WFP P) (d : Nat) {k : Nat} (hk1 : k < 24) : tdN P d 4 k < 64 := WFS4 hW (WFX_told hW Z0) d hk1
theorem td6 {P : PT} (hW : WFP P) (d : Nat) {k : Nat} (hk1 : k < 32) : tdN P d 6 k ≤ 5 := (WFB_run hW (WFX_told hW Z0) d).2.2.2.2.2.2.2.2.1 k hk1
theorem td7 {P : PT} (hW : WFP P) (d : Nat) {k : Nat} (hk1 : k < 32) : tdN P d 7 k ≤ 201 := (WFB_run hW (WFX_told hW Z0) d).2.2.2.2.2.2.2.2.2 k hk1
section
variable {L : Nat} {xs : Nat → Int32} {h g : St} {P S : PT}
theorem k_carrierOn (H : Inv L xs g P) (b : DRel g oD P (asTold P S)) {m day : Nat} (hm : m < P 0 6) (hday : day ≤ P 0 1) : DX3_carrierOn (sI (sI (sR fr0 0 oD) 1 (nI m)) 2 (nI day)) g = some (nI (tdN P day 1 m), g) := by
  have hb := H.w.all
  rw [x_carrierOn H.ds H.w b (by omega) hday, td_eq H.w S day (by unfold UIn; omega) (by omega)]
theorem k_slateOn (H : Inv L xs g P) (b : DRel g oD P (asTold P S)) {s day : Nat} (hs : s < P 0 7) (hday : day ≤ P 0 1) : DX3_slateOn (sI (sI (sR fr0 0 oD) 1 (nI s)) 2 (nI day)) g = some (nI (tdN P day 2 s), g) := by
  have hb := H.w.all
  rw [x_slateOn H.ds H.w b (by omega) hday, td_eq H.w S day (by unfold UIn; omega) (by omega)]
theorem k_leftOn (H : Inv L xs g P) (b : DRel g oD P (asTold P S)) {s day : Nat} (hs : s < P 0 7) (hday : day ≤ P 0 1) : DX3_leftOn (sI (sI (sR fr0 0 oD) 1 (nI s)) 2 (nI day)) g = some (nI (tdN P day 3 s), g) := by
  have hb := H.w.all
  rw [x_leftOn H.ds H.w b (by omega) hday, td_eq H.w S day (by unfold UIn; omega) (by omega)]
theorem k_knownOn (H : Inv L xs g P) (b : DRel g oD P (asTold P S)) {a s day : Nat} (ha : a < P 0 4) (hs : s < P 0 7) (hday : day ≤ P 0 1) : DX3_knownOn (sI (sI (sI (sR fr0 0 oD) 1 (nI a)) 2 (nI s)) 3 (nI day)) g = some (nI (tdN P day 4 (8 * s + a)), g) := by
  have hb := H.w.all
  rw [x_knownOn H.ds H.w b (by omega) (by omega) hday, td_eq H.w S day (by unfold UIn; omega) (by omega)]
theorem k_outOn (H : Inv L xs g P) (b : DRel g oD P (asTold P S)) {day : Nat} (hday : day < P 0 1) : DX3_outOn (sI (sR fr0 0 oD) 1 (nI day)) g = some (nI (tdN P (day + 1) 0 6), g) := by
  rw [x_outOn H.ds H.w b hday, td_eq1 H.w S day (by unfold UIn; omega)]
theorem k_reasonOf (H : Inv L xs g P) (b : DRel g oD P (asTold P S)) {i : Nat} (hi1 : i < 32) : DX3_reasonOf (sI (sR fr0 0 oD) 1 (nI i)) g = some (nI (tdN P (P 0 1) 6 i), g) := by
  rw [x_reasonOf H.ds b hi1, td_eq H.w S _ (by unfold UIn; omega) (by omega)]
theorem k_loadOf (H : Inv L xs g P) (b : DRel g oD P (asTold P S)) {i : Nat} (hi1 : i < 32) : DX3_loadOf (sI (sR fr0 0 oD) 1 (nI i)) g = some (nI (tdN P (P 0 1) 7 i) + -nI 1, g) := by
  rw [x_loadOf H.ds b hi1, td_eq H.w S _ (by unfold UIn; omega) (by omega)]
theorem k_hearersOn (H : Inv L xs g P) (b : DRel g oD P (asTold P S)) {s day : Nat} (hs : s < P 0 7) (hday : day ≤ P 0 1) : DX3_hearersOn (sI (sI (sR (sR fr0 0 oD) 1 oP) 2 (nI s)) 3 (nI day)) g = some (nI (heard P (tdN P day) s), g) := by
  have hb := H.w.all
  rw [x_hearersOn H.ds H.pg (WFX_told H.w S) b (by omega) hday, heard_eq H.w S day hs]
theorem n_shl2 {k : Nat} (hk1 : k < 32) : (nI 1 <<< (nI k &&& nI 31) : Int32) = nI (2 ^ k) := by
  have h1 : 2 ^ k < 2 ^ 32 := pow_lt hk1
  rw [n_shlk hk1 (by omega), Nat.one_mul]
theorem m_isCarry {m : Nat} (H : MG h m P) (v : Int32) : DX12_isCarry (sI (sR fr0 0 m) 1 v) h = some (if nI 0 ≤ v ∧ v < nI (P 9 1) then nI 1 else nI 0, h) := by
  have hM := H.s
  have hb := H.w.all
  have e1 := m_carryMany H
  have e2 := n_rng v (n := P 9 1) (by omega)
  simp (disch := omega) only [DX12_isCarry, BX12_isCarry, ob_t, ob_n, ob_ite, e_cI, e_cL, e_cR, e_vI, e_vL, e_vR, e_d2, e_d2_a, e_d2_b, e_d2z, e_d2z_a, e_d2z_b, e_d1, e_d1_a, e_GI, e_GI_a, e_GL, e_GL_a, e_GR, e_GR_a, e_AI, e_AI_a, e_AI_b, e_AB, e_AB_a, e_AB_b, e_AZ, e_AZ_a, e_AZ_b, e_AL, e_AL_a, e_AL_b, e_AR, e_AR_a, e_AR_b, e_Len, e_Len_a, e_CI, e_CI_a, e_CI_b, e_CZ, e_CZ_a, e_And, e_kAnd, e_Or, e_kOr, e_Not, e_kNot, e_B, e_kB, e_T, e_kT, e_NN, e_kNN, e_NewA, e_NewA_a, e_NewC, e_kNewC, e_aN, e_aI, e_aI_a, e_aI_b, e_aL, e_aL_a, e_aL_b, e_aR, e_aR_a, e_aR_b, e_Call, e_kCall, e_CallV, e_kCallV, e_SetI, e_kSetI, e_SetL, e_kSetL, e_SetR, e_kSetR, e_Inc, e_Skip, e_Brk, e_Cnt, e_Ret, e_kRet, e_Ret0, e_Seq, e_kSeq0, e_kSeq1, e_kSeq2, e_kSeqR, e_If, e_kIf, e_Do, e_kDo, e_Sup, e_kN0, e_d3, e_k3a, e_k3b, e_k3c, e_P, e_kPa, e_kPb, e_UA, e_kUAa, e_kUAb, e_kUAc, e_UL, e_kULa, e_kULb, e_kULc, e_UF, e_kUFa, e_kUFb, e_Cp, e_kCp, e_Sw, e_kSwa, e_kSwb0, e_kSwb1, e_kSwbR, e_M1, e_kM1, e_MZ, e_kMZ, e_MN, e_kMN, e_Tv, e_kTv, e_Tc, e_kTc, e_lpS, e_kLp, e_kLpB0, e_kLpB1, e_kLpB2, e_kLpBR, e_kLpU, e_dwS, e_kDwB0, e_kDwC, f_II, f_LL, f_RR, f_IL, f_IR, f_LI, f_LR, f_RI, f_RL, and_true, true_and, and_false, false_and, or_true, true_or, or_false, false_or, not_true_eq_false, not_false_eq_true, if_true, if_false, ite_self, Bool.not_true, Bool.not_false, Bool.false_eq_true, Bool.true_eq_false, decide_true, decide_false, ne_eq, reduceIte, Nat.reduceEqDiff, Option.some.injEq, Prod.mk.injEq, eq_self, hM.k, e1, o_i2l, o_lsub, nI_l, fa_litL, m_in, e2, lg_b]
/-- bits, counts, sums of what is done -/
def flN (P T : PT) (s : Nat) : Nat → Nat
  | 0 => 0
  | a + 1 => if T 4 (8 * s + a) = allW P s then flN P T s a ||| 2 ^ a else flN P T s a
def dnN (T : PT) : Nat → Nat
  | 0 => 0
  | i + 1 => if T 6 i = 0 then dnN T i ||| 2 ^ i else dnN T i
def ctN (P T : PT) (j v : Nat) : Nat → Nat
  | 0 => 0
  | i + 1 => if P j i = v ∧ T 6 i = 0 then ctN P T j v i + 1 else ctN P T j v i
def tlN (P T : PT) (v : Nat) : Nat → Nat
  | 0 => 0
  | i + 1 => if P 10 i = v ∧ T 6 i = 0 then tlN P T v i + (T 7 i - 1) else tlN P T v i
theorem ctN_le (P T : PT) (j v : Nat) : ∀ n, ctN P T j v n ≤ n := by
  intro n
  induction n with
  | zero => exact Nat.le_refl _
  | succ n ih =>
    show (if P j n = v ∧ T 6 n = 0 then ctN P T j v n + 1 else ctN P T j v n) ≤ _
    split <;> omega
/-- what is done has a load -/
theorem done7 {P : PT} (S : PT) : ∀ d i, runN P S d 6 i = 0 → runN P S d 7 i ≠ 0 := by
  have hs : ∀ (U : PT) (d i : Nat), (∀ c, U 6 c = 0 → U 7 c ≠ 0) → ∀ c, stepS P U d i 6 c = 0 → stepS P U d i 7 c ≠ 0 := by
    intro U d i hU c
    unfold stepS
    split
    · split
      · rename_i z
        rw [car6, car7]
        intro h6
        split
        · omega
        · rename_i hc
          have e6 : up U 6 i (hinS P U i) 6 c = U 6 c := by simp [up, hc]
          have e7 : up U 6 i (hinS P U i) 7 c = U 7 c := by simp [up]
          rw [e6] at h6
          rw [e7]
          exact hU c h6
      · rename_i z
        intro h6
        have e7 : up U 6 i (hinS P U i) 7 c = U 7 c := by simp [up]
        rw [e7]
        by_cases hc : c = i
        · subst hc
          rw [up_eq] at h6
          exact absurd h6 z
        · have e6 : up U 6 i (hinS P U i) 6 c = U 6 c := by simp [up, hc]
          rw [e6] at h6
          exact hU c h6
    · exact hU c
  intro d
  induction d with
  | zero =>
    intro i h6
    exact absurd h6 (by simp [runN, begS])
  | succ d ih =>
    have hk : ∀ k c, dayN P (runN P S d) d k 6 c = 0 → dayN P (runN P S d) d k 7 c ≠ 0 := by
      intro k
      induction k with
      | zero =>
        intro c h6
        have e6 : up (up (runN P S d) 0 6 0) 0 7 0 6 c = runN P S d 6 c := by simp [up]
        have e7 : up (up (runN P S d) 0 6 0) 0 7 0 7 c = runN P S d 7 c := by simp [up]
        show up (up (runN P S d) 0 6 0) 0 7 0 7 c ≠ 0
        rw [e7]
        refine ih c ?_
        rw [← e6]
        exact h6
      | succ k ihk => exact hs _ _ _ ihk
    intro i
    exact hk (P 9 1) i
theorem x_countDone (H : Inv L xs g P) (b : DRel g oD P (asTold P S)) {j v : Nat} (hj : j = 10 ∨ j = 11) (hv : v < 2 ^ 20) : DX3_countDone (sI (sI (sR (sR fr0 0 oD) 1 (oP + j)) 2 (nI v)) 3 (nI (P 9 1))) g = some (nI (ctN P (tdN P (P 0 1)) j v (P 9 1)), g) := by
  have hb := H.w.all
  have hD := H.ds
  have hO := H.co
  have hP := H.ps
  have Lp : LX3_countDone_1 (sI (sI (sI (sI (sR (sR fr0 0 oD) 1 (oP + j)) 2 (nI v)) 3 (nI (P 9 1))) 4 (nI 0)) 5 (nI 0)) g = some (.inl 0, sI (sI (sI (sI (sR (sR fr0 0 oD) 1 (oP + j)) 2 (nI v)) 3 (nI (P 9 1))) 4 (nI (ctN P (tdN P (P 0 1)) j v (P 9 1)))) 5 (nI (P 9 1)), g) := by
    unfold LX3_countDone_1
    rw [e_Loop]
    refine iter_upto (fun k => (sI (sI (sI (sI (sR (sR fr0 0 oD) 1 (oP + j)) 2 (nI v)) 3 (nI (P 9 1))) 4 (nI (ctN P (tdN P (P 0 1)) j v k))) 5 (nI k), g)) _ (P 9 1) (fun k hk => ?_) ?_
    · have e1 := RP.car hP H.pg.r H.w (j := j) (by omega) (by omega) hk
      have e2 := k_reasonOf H b (i := k) (by omega)
      have hcy := H.w.cy hk
      have hpj : P j k < 8 := by rcases hj with rfl | rfl <;> omega
      have h6 := td6 H.w (P 0 1) (k := k) (by omega)
      by_cases z : P j k = v
      · by_cases y : tdN P (P 0 1) 6 k = 0
        · simp (disch := omega) only [ob_t, ob_n, ob_ite, e_cI, e_cL, e_cR, e_vI, e_vL, e_vR, e_d2, e_d2_a, e_d2_b, e_d2z, e_d2z_a, e_d2z_b, e_d1, e_d1_a, e_GI, e_GI_a, e_GL, e_GL_a, e_GR, e_GR_a, e_AI, e_AI_a, e_AI_b, e_AB, e_AB_a, e_AB_b, e_AZ, e_AZ_a, e_AZ_b, e_AL, e_AL_a, e_AL_b, e_AR, e_AR_a, e_AR_b, e_Len, e_Len_a, e_CI, e_CI_a, e_CI_b, e_CZ, e_CZ_a, e_And, e_kAnd, e_Or, e_kOr, e_Not, e_kNot, e_B, e_kB, e_T, e_kT, e_NN, e_kNN, e_NewA, e_NewA_a, e_NewC, e_kNewC, e_aN, e_aI, e_aI_a, e_aI_b, e_aL, e_aL_a, e_aL_b, e_aR, e_aR_a, e_aR_b, e_Call, e_kCall, e_CallV, e_kCallV, e_SetI, e_kSetI, e_SetL, e_kSetL, e_SetR, e_kSetR, e_Inc, e_Skip, e_Brk, e_Cnt, e_Ret, e_kRet, e_Ret0, e_Seq, e_kSeq0, e_kSeq1, e_kSeq2, e_kSeqR, e_If, e_kIf, e_Do, e_kDo, e_Sup, e_kN0, e_d3, e_k3a, e_k3b, e_k3c, e_P, e_kPa, e_kPb, e_UA, e_kUAa, e_kUAb, e_kUAc, e_UL, e_kULa, e_kULb, e_kULc, e_UF, e_kUFa, e_kUFb, e_Cp, e_kCp, e_Sw, e_kSwa, e_kSwb0, e_kSwb1, e_kSwbR, e_M1, e_kM1, e_MZ, e_kMZ, e_MN, e_kMN, e_Tv, e_kTv, e_Tc, e_kTc, e_lpS, e_kLp, e_kLpB0, e_kLpB1, e_kLpB2, e_kLpBR, e_kLpU, e_dwS, e_kDwB0, e_kDwC, f_II, f_LL, f_RR, f_IL, f_IR, f_LI, f_LR, f_RI, f_RL, o_iadd, o_isub, o_imul, o_iand, o_ior, o_ixor, o_ladd, o_lsub, o_lmul, o_land, o_lor, o_ishl, o_ishr, o_iushr, o_lshl, o_lcmp, o_i2l, o_l2i, o_i2b, o_i2s, o_lneg, o_imax, o_imin, o_idiv, o_irem, o_ldiv, o_lrem, r_lt, r_le, r_gt, r_ge, r_eq, r_ne, q_lt, q_le, q_gt, q_ge, q_eq, q_ne, decide_eq_true_eq, idI, and_true, true_and, and_false, false_and, or_true, true_or, or_false, false_or, not_true_eq_false, not_false_eq_true, if_true, if_false, ite_self, Bool.not_true, Bool.not_false, Bool.false_eq_true, Bool.true_eq_false, decide_true, decide_false, ne_eq, reduceIte, Nat.reduceEqDiff, Option.some.injEq, Prod.mk.injEq, eq_self, fa_lit, nI_add, pk_mul, nI_ltI, nI_leI, nI_eq, b01, b0, b1, x_hasBit, Nat.reduceLeDiff, Nat.reduceAdd, Nat.reduceMul, Nat.reduceSub, Nat.lt_irrefl, Nat.reduceLT, hO.koX, hO.k32, hO.k33, hO.k34, hO.k67, hO.k68, hO.k69, hO.k70, hO.k71, hO.k100, hO.k101, hO.k115, hO.k116, hO.k117, hO.k118, hO.k119, hO.k120, hO.k121, hO.roX_0, hO.roX_1, hO.roX_2, hO.roX_3, hO.roX_4, hO.roX_5, hO.roX_6, hO.roX_7, hO.roX_8, hO.roX_9, hO.roX_10, hO.roX_11, hO.roX_12, hO.roX_13, hO.r32_0, hO.r68_0, hO.r68_1, hO.r68_2, hO.r100_0, hO.r115_2, hO.r115_3, hO.r118_1, hP.k, hP.k9, hP.r8, hP.r9, hP.r10, hP.r11, hP.r12, hP.r13, hP.r14, hP.r15, hP.r16, hP.c3, hP.c4, hP.c5, hP.c6, hP.c7, hP.c8, n_inb, nI_clamp, w_hr, w_hk, w_hl, w_eq, w_ne, wl_hr, wl_hk, wl_hi, wl_eq, wl_ne, f_ss, f_sR, f_sL, lc0, lc1, lc01, hk, e1, e2, hD.k, z, y, ctN]
        · simp (disch := omega) only [ob_t, ob_n, ob_ite, e_cI, e_cL, e_cR, e_vI, e_vL, e_vR, e_d2, e_d2_a, e_d2_b, e_d2z, e_d2z_a, e_d2z_b, e_d1, e_d1_a, e_GI, e_GI_a, e_GL, e_GL_a, e_GR, e_GR_a, e_AI, e_AI_a, e_AI_b, e_AB, e_AB_a, e_AB_b, e_AZ, e_AZ_a, e_AZ_b, e_AL, e_AL_a, e_AL_b, e_AR, e_AR_a, e_AR_b, e_Len, e_Len_a, e_CI, e_CI_a, e_CI_b, e_CZ, e_CZ_a, e_And, e_kAnd, e_Or, e_kOr, e_Not, e_kNot, e_B, e_kB, e_T, e_kT, e_NN, e_kNN, e_NewA, e_NewA_a, e_NewC, e_kNewC, e_aN, e_aI, e_aI_a, e_aI_b, e_aL, e_aL_a, e_aL_b, e_aR, e_aR_a, e_aR_b, e_Call, e_kCall, e_CallV, e_kCallV, e_SetI, e_kSetI, e_SetL, e_kSetL, e_SetR, e_kSetR, e_Inc, e_Skip, e_Brk, e_Cnt, e_Ret, e_kRet, e_Ret0, e_Seq, e_kSeq0, e_kSeq1, e_kSeq2, e_kSeqR, e_If, e_kIf, e_Do, e_kDo, e_Sup, e_kN0, e_d3, e_k3a, e_k3b, e_k3c, e_P, e_kPa, e_kPb, e_UA, e_kUAa, e_kUAb, e_kUAc, e_UL, e_kULa, e_kULb, e_kULc, e_UF, e_kUFa, e_kUFb, e_Cp, e_kCp, e_Sw, e_kSwa, e_kSwb0, e_kSwb1, e_kSwbR, e_M1, e_kM1, e_MZ, e_kMZ, e_MN, e_kMN, e_Tv, e_kTv, e_Tc, e_kTc, e_lpS, e_kLp, e_kLpB0, e_kLpB1, e_kLpB2, e_kLpBR, e_kLpU, e_dwS, e_kDwB0, e_kDwC, f_II, f_LL, f_RR, f_IL, f_IR, f_LI, f_LR, f_RI, f_RL, o_iadd, o_isub, o_imul, o_iand, o_ior, o_ixor, o_ladd, o_lsub, o_lmul, o_land, o_lor, o_ishl, o_ishr, o_iushr, o_lshl, o_lcmp, o_i2l, o_l2i, o_i2b, o_i2s, o_lneg, o_imax, o_imin, o_idiv, o_irem, o_ldiv, o_lrem, r_lt, r_le, r_gt, r_ge, r_eq, r_ne, q_lt, q_le, q_gt, q_ge, q_eq, q_ne, decide_eq_true_eq, idI, and_true, true_and, and_false, false_and, or_true, true_or, or_false, false_or, not_true_eq_false, not_false_eq_true, if_true, if_false, ite_self, Bool.not_true, Bool.not_false, Bool.false_eq_true, Bool.true_eq_false, decide_true, decide_false, ne_eq, reduceIte, Nat.reduceEqDiff, Option.some.injEq, Prod.mk.injEq, eq_self, fa_lit, nI_add, pk_mul, nI_ltI, nI_leI, nI_eq, b01, b0, b1, x_hasBit, Nat.reduceLeDiff, Nat.reduceAdd, Nat.reduceMul, Nat.reduceSub, Nat.lt_irrefl, Nat.reduceLT, hO.koX, hO.k32, hO.k33, hO.k34, hO.k67, hO.k68, hO.k69, hO.k70, hO.k71, hO.k100, hO.k101, hO.k115, hO.k116, hO.k117, hO.k118, hO.k119, hO.k120, hO.k121, hO.roX_0, hO.roX_1, hO.roX_2, hO.roX_3, hO.roX_4, hO.roX_5, hO.roX_6, hO.roX_7, hO.roX_8, hO.roX_9, hO.roX_10, hO.roX_11, hO.roX_12, hO.roX_13, hO.r32_0, hO.r68_0, hO.r68_1, hO.r68_2, hO.r100_0, hO.r115_2, hO.r115_3, hO.r118_1, hP.k, hP.k9, hP.r8, hP.r9, hP.r10, hP.r11, hP.r12, hP.r13, hP.r14, hP.r15, hP.r16, hP.c3, hP.c4, hP.c5, hP.c6, hP.c7, hP.c8, n_inb, nI_clamp, w_hr, w_hk, w_hl, w_eq, w_ne, wl_hr, wl_hk, wl_hi, wl_eq, wl_ne, f_ss, f_sR, f_sL, lc0, lc1, lc01, hk, e1, e2, hD.k, z, y, ctN]
      · simp (disch := omega) only [ob_t, ob_n, ob_ite, e_cI, e_cL, e_cR, e_vI, e_vL, e_vR, e_d2, e_d2_a, e_d2_b, e_d2z, e_d2z_a, e_d2z_b, e_d1, e_d1_a, e_GI, e_GI_a, e_GL, e_GL_a, e_GR, e_GR_a, e_AI, e_AI_a, e_AI_b, e_AB, e_AB_a, e_AB_b, e_AZ, e_AZ_a, e_AZ_b, e_AL, e_AL_a, e_AL_b, e_AR, e_AR_a, e_AR_b, e_Len, e_Len_a, e_CI, e_CI_a, e_CI_b, e_CZ, e_CZ_a, e_And, e_kAnd, e_Or, e_kOr, e_Not, e_kNot, e_B, e_kB, e_T, e_kT, e_NN, e_kNN, e_NewA, e_NewA_a, e_NewC, e_kNewC, e_aN, e_aI, e_aI_a, e_aI_b, e_aL, e_aL_a, e_aL_b, e_aR, e_aR_a, e_aR_b, e_Call, e_kCall, e_CallV, e_kCallV, e_SetI, e_kSetI, e_SetL, e_kSetL, e_SetR, e_kSetR, e_Inc, e_Skip, e_Brk, e_Cnt, e_Ret, e_kRet, e_Ret0, e_Seq, e_kSeq0, e_kSeq1, e_kSeq2, e_kSeqR, e_If, e_kIf, e_Do, e_kDo, e_Sup, e_kN0, e_d3, e_k3a, e_k3b, e_k3c, e_P, e_kPa, e_kPb, e_UA, e_kUAa, e_kUAb, e_kUAc, e_UL, e_kULa, e_kULb, e_kULc, e_UF, e_kUFa, e_kUFb, e_Cp, e_kCp, e_Sw, e_kSwa, e_kSwb0, e_kSwb1, e_kSwbR, e_M1, e_kM1, e_MZ, e_kMZ, e_MN, e_kMN, e_Tv, e_kTv, e_Tc, e_kTc, e_lpS, e_kLp, e_kLpB0, e_kLpB1, e_kLpB2, e_kLpBR, e_kLpU, e_dwS, e_kDwB0, e_kDwC, f_II, f_LL, f_RR, f_IL, f_IR, f_LI, f_LR, f_RI, f_RL, o_iadd, o_isub, o_imul, o_iand, o_ior, o_ixor, o_ladd, o_lsub, o_lmul, o_land, o_lor, o_ishl, o_ishr, o_iushr, o_lshl, o_lcmp, o_i2l, o_l2i, o_i2b, o_i2s, o_lneg, o_imax, o_imin, o_idiv, o_irem, o_ldiv, o_lrem, r_lt, r_le, r_gt, r_ge, r_eq, r_ne, q_lt, q_le, q_gt, q_ge, q_eq, q_ne, decide_eq_true_eq, idI, and_true, true_and, and_false, false_and, or_true, true_or, or_false, false_or, not_true_eq_false, not_false_eq_true, if_true, if_false, ite_self, Bool.not_true, Bool.not_false, Bool.false_eq_true, Bool.true_eq_false, decide_true, decide_false, ne_eq, reduceIte, Nat.reduceEqDiff, Option.some.injEq, Prod.mk.injEq, eq_self, fa_lit, nI_add, pk_mul, nI_ltI, nI_leI, nI_eq, b01, b0, b1, x_hasBit, Nat.reduceLeDiff, Nat.reduceAdd, Nat.reduceMul, Nat.reduceSub, Nat.lt_irrefl, Nat.reduceLT, hO.koX, hO.k32, hO.k33, hO.k34, hO.k67, hO.k68, hO.k69, hO.k70, hO.k71, hO.k100, hO.k101, hO.k115, hO.k116, hO.k117, hO.k118, hO.k119, hO.k120, hO.k121, hO.roX_0, hO.roX_1, hO.roX_2, hO.roX_3, hO.roX_4, hO.roX_5, hO.roX_6, hO.roX_7, hO.roX_8, hO.roX_9, hO.roX_10, hO.roX_11, hO.roX_12, hO.roX_13, hO.r32_0, hO.r68_0, hO.r68_1, hO.r68_2, hO.r100_0, hO.r115_2, hO.r115_3, hO.r118_1, hP.k, hP.k9, hP.r8, hP.r9, hP.r10, hP.r11, hP.r12, hP.r13, hP.r14, hP.r15, hP.r16, hP.c3, hP.c4, hP.c5, hP.c6, hP.c7, hP.c8, n_inb, nI_clamp, w_hr, w_hk, w_hl, w_eq, w_ne, wl_hr, wl_hk, wl_hi, wl_eq, wl_ne, f_ss, f_sR, f_sL, lc0, lc1, lc01, hk, e1, e2, hD.k, z, ctN]
    · simp (disch := omega) only [ob_t, ob_n, ob_ite, e_cI, e_cL, e_cR, e_vI, e_vL, e_vR, e_d2, e_d2_a, e_d2_b, e_d2z, e_d2z_a, e_d2z_b, e_d1, e_d1_a, e_GI, e_GI_a, e_GL, e_GL_a, e_GR, e_GR_a, e_AI, e_AI_a, e_AI_b, e_AB, e_AB_a, e_AB_b, e_AZ, e_AZ_a, e_AZ_b, e_AL, e_AL_a, e_AL_b, e_AR, e_AR_a, e_AR_b, e_Len, e_Len_a, e_CI, e_CI_a, e_CI_b, e_CZ, e_CZ_a, e_And, e_kAnd, e_Or, e_kOr, e_Not, e_kNot, e_B, e_kB, e_T, e_kT, e_NN, e_kNN, e_NewA, e_NewA_a, e_NewC, e_kNewC, e_aN, e_aI, e_aI_a, e_aI_b, e_aL, e_aL_a, e_aL_b, e_aR, e_aR_a, e_aR_b, e_Call, e_kCall, e_CallV, e_kCallV, e_SetI, e_kSetI, e_SetL, e_kSetL, e_SetR, e_kSetR, e_Inc, e_Skip, e_Brk, e_Cnt, e_Ret, e_kRet, e_Ret0, e_Seq, e_kSeq0, e_kSeq1, e_kSeq2, e_kSeqR, e_If, e_kIf, e_Do, e_kDo, e_Sup, e_kN0, e_d3, e_k3a, e_k3b, e_k3c, e_P, e_kPa, e_kPb, e_UA, e_kUAa, e_kUAb, e_kUAc, e_UL, e_kULa, e_kULb, e_kULc, e_UF, e_kUFa, e_kUFb, e_Cp, e_kCp, e_Sw, e_kSwa, e_kSwb0, e_kSwb1, e_kSwbR, e_M1, e_kM1, e_MZ, e_kMZ, e_MN, e_kMN, e_Tv, e_kTv, e_Tc, e_kTc, e_lpS, e_kLp, e_kLpB0, e_kLpB1, e_kLpB2, e_kLpBR, e_kLpU, e_dwS, e_kDwB0, e_kDwC, f_II, f_LL, f_RR, f_IL, f_IR, f_LI, f_LR, f_RI, f_RL, o_iadd, o_isub, o_imul, o_iand, o_ior, o_ixor, o_ladd, o_lsub, o_lmul, o_land, o_lor, o_ishl, o_ishr, o_iushr, o_lshl, o_lcmp, o_i2l, o_l2i, o_i2b, o_i2s, o_lneg, o_imax, o_imin, o_idiv, o_irem, o_ldiv, o_lrem, r_lt, r_le, r_gt, r_ge, r_eq, r_ne, q_lt, q_le, q_gt, q_ge, q_eq, q_ne, decide_eq_true_eq, idI, and_true, true_and, and_false, false_and, or_true, true_or, or_false, false_or, not_true_eq_false, not_false_eq_true, if_true, if_false, ite_self, Bool.not_true, Bool.not_false, Bool.false_eq_true, Bool.true_eq_false, decide_true, decide_false, ne_eq, reduceIte, Nat.reduceEqDiff, Option.some.injEq, Prod.mk.injEq, eq_self, fa_lit, nI_add, pk_mul, nI_ltI, nI_leI, nI_eq, b01, b0, b1, x_hasBit, Nat.reduceLeDiff, Nat.reduceAdd, Nat.reduceMul, Nat.reduceSub, Nat.lt_irrefl, Nat.reduceLT, hO.koX, hO.k32, hO.k33, hO.k34, hO.k67, hO.k68, hO.k69, hO.k70, hO.k71, hO.k100, hO.k101, hO.k115, hO.k116, hO.k117, hO.k118, hO.k119, hO.k120, hO.k121, hO.roX_0, hO.roX_1, hO.roX_2, hO.roX_3, hO.roX_4, hO.roX_5, hO.roX_6, hO.roX_7, hO.roX_8, hO.roX_9, hO.roX_10, hO.roX_11, hO.roX_12, hO.roX_13, hO.r32_0, hO.r68_0, hO.r68_1, hO.r68_2, hO.r100_0, hO.r115_2, hO.r115_3, hO.r118_1, hP.k, hP.k9, hP.r8, hP.r9, hP.r10, hP.r11, hP.r12, hP.r13, hP.r14, hP.r15, hP.r16, hP.c3, hP.c4, hP.c5, hP.c6, hP.c7, hP.c8, n_inb, nI_clamp, w_hr, w_hk, w_hl, w_eq, w_ne, wl_hr, wl_hk, wl_hi, wl_eq, wl_ne, f_ss, f_sR, f_sL, lc0, lc1, lc01, Nat.lt_irrefl]
  simp (disch := omega) only [ob_t, ob_n, ob_ite, e_cI, e_cL, e_cR, e_vI, e_vL, e_vR, e_d2, e_d2_a, e_d2_b, e_d2z, e_d2z_a, e_d2z_b, e_d1, e_d1_a, e_GI, e_GI_a, e_GL, e_GL_a, e_GR, e_GR_a, e_AI, e_AI_a, e_AI_b, e_AB, e_AB_a, e_AB_b, e_AZ, e_AZ_a, e_AZ_b, e_AL, e_AL_a, e_AL_b, e_AR, e_AR_a, e_AR_b, e_Len, e_Len_a, e_CI, e_CI_a, e_CI_b, e_CZ, e_CZ_a, e_And, e_kAnd, e_Or, e_kOr, e_Not, e_kNot, e_B, e_kB, e_T, e_kT, e_NN, e_kNN, e_NewA, e_NewA_a, e_NewC, e_kNewC, e_aN, e_aI, e_aI_a, e_aI_b, e_aL, e_aL_a, e_aL_b, e_aR, e_aR_a, e_aR_b, e_Call, e_kCall, e_CallV, e_kCallV, e_SetI, e_kSetI, e_SetL, e_kSetL, e_SetR, e_kSetR, e_Inc, e_Skip, e_Brk, e_Cnt, e_Ret, e_kRet, e_Ret0, e_Seq, e_kSeq0, e_kSeq1, e_kSeq2, e_kSeqR, e_If, e_kIf, e_Do, e_kDo, e_Sup, e_kN0, e_d3, e_k3a, e_k3b, e_k3c, e_P, e_kPa, e_kPb, e_UA, e_kUAa, e_kUAb, e_kUAc, e_UL, e_kULa, e_kULb, e_kULc, e_UF, e_kUFa, e_kUFb, e_Cp, e_kCp, e_Sw, e_kSwa, e_kSwb0, e_kSwb1, e_kSwbR, e_M1, e_kM1, e_MZ, e_kMZ, e_MN, e_kMN, e_Tv, e_kTv, e_Tc, e_kTc, e_lpS, e_kLp, e_kLpB0, e_kLpB1, e_kLpB2, e_kLpBR, e_kLpU, e_dwS, e_kDwB0, e_kDwC, f_II, f_LL, f_RR, f_IL, f_IR, f_LI, f_LR, f_RI, f_RL, o_iadd, o_isub, o_imul, o_iand, o_ior, o_ixor, o_ladd, o_lsub, o_lmul, o_land, o_lor, o_ishl, o_ishr, o_iushr, o_lshl, o_lcmp, o_i2l, o_l2i, o_i2b, o_i2s, o_lneg, o_imax, o_imin, o_idiv, o_irem, o_ldiv, o_lrem, r_lt, r_le, r_gt, r_ge, r_eq, r_ne, q_lt, q_le, q_gt, q_ge, q_eq, q_ne, decide_eq_true_eq, idI, and_true, true_and, and_false, false_and, or_true, true_or, or_false, false_or, not_true_eq_false, not_false_eq_true, if_true, if_false, ite_self, Bool.not_true, Bool.not_false, Bool.false_eq_true, Bool.true_eq_false, decide_true, decide_false, ne_eq, reduceIte, Nat.reduceEqDiff, Option.some.injEq, Prod.mk.injEq, eq_self, fa_lit, nI_add, pk_mul, nI_ltI, nI_leI, nI_eq, b01, b0, b1, x_hasBit, Nat.reduceLeDiff, Nat.reduceAdd, Nat.reduceMul, Nat.reduceSub, Nat.lt_irrefl, Nat.reduceLT, hO.koX, hO.k32, hO.k33, hO.k34, hO.k67, hO.k68, hO.k69, hO.k70, hO.k71, hO.k100, hO.k101, hO.k115, hO.k116, hO.k117, hO.k118, hO.k119, hO.k120, hO.k121, hO.roX_0, hO.roX_1, hO.roX_2, hO.roX_3, hO.roX_4, hO.roX_5, hO.roX_6, hO.roX_7, hO.roX_8, hO.roX_9, hO.roX_10, hO.roX_11, hO.roX_12, hO.roX_13, hO.r32_0, hO.r68_0, hO.r68_1, hO.r68_2, hO.r100_0, hO.r115_2, hO.r115_3, hO.r118_1, hP.k, hP.k9, hP.r8, hP.r9, hP.r10, hP.r11, hP.r12, hP.r13, hP.r14, hP.r15, hP.r16, hP.c3, hP.c4, hP.c5, hP.c6, hP.c7, hP.c8, n_inb, nI_clamp, w_hr, w_hk, w_hl, w_eq, w_ne, wl_hr, wl_hk, wl_hi, wl_eq, wl_ne, f_ss, f_sR, f_sL, lc0, lc1, lc01, DX3_countDone, BX3_countDone, Lp]
end
