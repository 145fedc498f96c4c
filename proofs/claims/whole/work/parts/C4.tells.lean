set_option maxRecDepth 100000
set_option maxHeartbeats 1000000
/-! calls: tells -/
/-- how many KNOW, of so many met -/
def kwN (P : PT) (s : Nat) : Nat → Nat
  | 0 => if lbN P s 0 = 0 then 0 else 1
  | k + 1 => if lbN P s k = 0 then kwN P s k else kwN P s k + 1
/-- of met (1 and more) -/
def kwE (P : PT) (s met : Nat) : Nat := kwN P s (met - 1)
theorem lb_zero {P : PT} {s k : Nat} (h : lbN P s k = 0) : ∀ d, lbN P s (k + d) = 0 := by
  intro d
  induction d with
  | zero => exact h
  | succ d ih =>
    have := rubL_le P s (lbN P s (k + d)) (P 0 2)
    show rubL P s (lbN P s (k + d)) (P 0 2) = 0
    omega
theorem pop_zero : ∀ n, n < 256 → (pop n = 0 ↔ n = 0) := by decide +kernel
theorem pop_clr1 : ∀ l, l < 64 → ∀ j, j < 6 → l.testBit j = true → pop (clr l (2 ^ j)) + 1 = pop l := by decide +kernel
theorem bs_pos {P : PT} {s l law : Nat} : ∀ k, (∃ i, i < k ∧ l.testBit i = true) → bsN P s l law k ≠ 0 := by
  intro k
  induction k with
  | zero => rintro ⟨i, hi1, _⟩; exact absurd hi1 (Nat.not_lt_zero i)
  | succ k ih =>
    rintro ⟨i, hi1, hi2⟩
    unfold bsN
    split
    · omega
    · rename_i hc
      by_cases z : i = k
      · subst z
        by_cases y : bsN P s l law i = 0
        · exact absurd ⟨hi2, Or.inl y⟩ hc
        · exact y
      · exact ih ⟨i, by omega, hi2⟩
theorem lb_pop {P : PT} (hW : WFP P) {s : Nat} (hs : s < P 0 7) (hl : P 0 2 ≠ 0) : ∀ k, pop (lbN P s k) = pop (lf0 P s) - k := by
  have hq := hW.sl hs
  have h64 := pw6 hW hs
  intro k
  induction k with
  | zero => rfl
  | succ k ih =>
    have hl1 := lbN_lt hW hs k
    show pop (rubL P s (lbN P s k) (P 0 2)) = _
    unfold rubL
    by_cases z : bsN P s (lbN P s k) (P 0 2) 6 = 0
    · rw [if_pos (Or.inr z)]
      have z0 : lbN P s k = 0 := by
        apply Nat.eq_of_testBit_eq
        intro i
        rw [Nat.zero_testBit]
        cases hb : (lbN P s k).testBit i
        · rfl
        · exact absurd z (bs_pos 6 ⟨i, by have := bit_lt hl1 hb; omega, hb⟩)
      have : pop (lbN P s k) = 0 := (pop_zero _ (by omega)).mpr z0
      omega
    · rw [if_neg (fun q => q.elim hl z)]
      have hb := bsN_has P s (lbN P s k) (P 0 2) 6 z
      have hle := bsN_le P s (lbN P s k) (P 0 2) 6
      have := pop_clr1 (lbN P s k) (by omega) _ (by omega) hb
      omega
theorem lb_law0 {P : PT} {s : Nat} (hl : P 0 2 = 0) : ∀ k, lbN P s k = lf0 P s := by
  intro k
  induction k with
  | zero => rfl
  | succ k ih =>
    show rubL P s (lbN P s k) (P 0 2) = _
    unfold rubL
    rw [if_pos (Or.inl hl), ih]
/-- how many KNOW: by how many are left at first -/
theorem kwE_is {P : PT} (hW : WFP P) {s : Nat} (hs : s < P 0 7) {met : Nat} (hm : 1 ≤ met) : kwE P s met = if lf0 P s = 0 then 0 else if P 0 2 = 0 then met else min met (pop (lf0 P s) + 1) := by
  have h64 := pw6 hW hs
  have hlf := lf0_lt hW hs
  have hz := pop_zero (lf0 P s) (by omega)
  unfold kwE
  have : ∀ k, kwN P s k = if lf0 P s = 0 then 0 else if P 0 2 = 0 then k + 1 else min (k + 1) (pop (lf0 P s) + 1) := by
    intro k
    induction k with
    | zero =>
      show (if lf0 P s = 0 then 0 else 1) = _
      by_cases z : lf0 P s = 0
      · rw [if_pos z, if_pos z]
      · rw [if_neg z, if_neg z]
        split
        · rfl
        · omega
    | succ k ih =>
      show (if lbN P s k = 0 then kwN P s k else kwN P s k + 1) = _
      rw [ih]
      by_cases z : lf0 P s = 0
      · have : lbN P s k = 0 := by
          have := lb_zero (P := P) (s := s) (k := 0) z k
          rw [Nat.zero_add] at this
          exact this
        rw [if_pos this, if_pos z, if_pos z]
      · rw [if_neg z, if_neg z]
        by_cases y : P 0 2 = 0
        · rw [if_pos y, if_pos y, lb_law0 y, if_neg z]
        · rw [if_neg y, if_neg y]
          have hp := lb_pop hW hs y k
          have hl1 := lbN_lt hW hs k
          have hz2 := pop_zero (lbN P s k) (by omega)
          by_cases q : lbN P s k = 0
          · rw [if_pos q]
            have := hz2.mpr q
            omega
          · rw [if_neg q]
            have : pop (lbN P s k) ≠ 0 := fun w => q (hz2.mp w)
            omega
  rw [this, show met - 1 + 1 = met by omega]
theorem kwE_mono {P : PT} (hW : WFP P) {s : Nat} (hs : s < P 0 7) {a b : Nat} (ha : 1 ≤ a) (hab : a ≤ b) : kwE P s a ≤ kwE P s b := by
  rw [kwE_is hW hs ha, kwE_is hW hs (by omega)]
  split
  · exact Nat.le_refl _
  · split <;> omega
/-- most of the first n DAYS -/
def mhM (mh : Nat → Nat) : Nat → Nat
  | 0 => 1
  | n + 1 => max (mhM mh n) (mh n)
theorem mhM_ge (mh : Nat → Nat) : ∀ n i, i < n → mh i ≤ mhM mh n := by
  intro n
  induction n with
  | zero => intro i hi1; exact absurd hi1 (Nat.not_lt_zero i)
  | succ n ih =>
    intro i hi1
    show _ ≤ max (mhM mh n) (mh n)
    by_cases z : i = n
    · subst z; omega
    · have := ih i (by omega); omega
theorem mhM_is (mh : Nat → Nat) : ∀ n, mhM mh n = 1 ∨ ∃ i, i < n ∧ mhM mh n = mh i ∧ 1 ≤ mh i := by
  intro n
  induction n with
  | zero => exact Or.inl rfl
  | succ n ih =>
    show max (mhM mh n) (mh n) = 1 ∨ ∃ i, i < n + 1 ∧ max (mhM mh n) (mh n) = mh i ∧ 1 ≤ mh i
    by_cases z : mh n ≤ mhM mh n
    · rcases ih with h | ⟨i, h1, h2, h3⟩
      · exact Or.inl (by omega)
      · exact Or.inr ⟨i, by omega, by omega, h3⟩
    · have hm1 : 1 ≤ mhM mh n := by
        rcases ih with h | ⟨i, h1, h2, h3⟩ <;> omega
      exact Or.inr ⟨n, by omega, by omega, by omega⟩
/-- the model's most, over the first states -/
def teN (P : PT) (s : Nat) (X : BQ) (n : Nat) : Nat → Nat
  | 0 => 0
  | c + 1 => if X.2.2 c ≠ 0 ∧ X.2.2 c ≤ n + 1 ∧ teN P s X n c < kwE P s (pop (c % 256)) then kwE P s (pop (c % 256)) else teN P s X n c
theorem teN_ge (P : PT) (s : Nat) (X : BQ) (n : Nat) : ∀ k c, c < k → X.2.2 c ≠ 0 → X.2.2 c ≤ n + 1 → kwE P s (pop (c % 256)) ≤ teN P s X n k := by
  intro k
  induction k with
  | zero => intro c hc; exact absurd hc (Nat.not_lt_zero c)
  | succ k ih =>
    intro c hc h1 h2
    show _ ≤ if X.2.2 k ≠ 0 ∧ X.2.2 k ≤ n + 1 ∧ teN P s X n k < kwE P s (pop (k % 256)) then kwE P s (pop (k % 256)) else teN P s X n k
    by_cases z : c = k
    · subst z
      by_cases y : teN P s X n c < kwE P s (pop (c % 256))
      · rw [if_pos ⟨h1, h2, y⟩]; exact Nat.le_refl _
      · rw [if_neg (fun q => y q.2.2)]; omega
    · have := ih c (by omega) h1 h2
      split
      · rename_i q; omega
      · exact this
theorem teN_is (P : PT) (s : Nat) (X : BQ) (n : Nat) : ∀ k, teN P s X n k = 0 ∨ ∃ c, c < k ∧ X.2.2 c ≠ 0 ∧ X.2.2 c ≤ n + 1 ∧ teN P s X n k = kwE P s (pop (c % 256)) := by
  intro k
  induction k with
  | zero => exact Or.inl rfl
  | succ k ih =>
    show (if X.2.2 k ≠ 0 ∧ X.2.2 k ≤ n + 1 ∧ teN P s X n k < kwE P s (pop (k % 256)) then kwE P s (pop (k % 256)) else teN P s X n k) = 0 ∨ ∃ c, c < k + 1 ∧ X.2.2 c ≠ 0 ∧ X.2.2 c ≤ n + 1 ∧ (if X.2.2 k ≠ 0 ∧ X.2.2 k ≤ n + 1 ∧ teN P s X n k < kwE P s (pop (k % 256)) then kwE P s (pop (k % 256)) else teN P s X n k) = kwE P s (pop (c % 256))
    split
    · rename_i q
      exact Or.inr ⟨k, by omega, q.1, q.2.1, rfl⟩
    · rcases ih with h | ⟨c, h1, h2, h3, h4⟩
      · exact Or.inl h
      · exact Or.inr ⟨c, by omega, h2, h3, h4⟩
theorem te_mh {P : PT} (hW : WFP P) {s t n : Nat} (hs : s < P 0 7) (hn8 : n < 8) {mh : Nat → Nat} (hm : MHp mh (fiE P s t)) : teN P s (fiE P s t) n 2048 = kwE P s (mhM mh (n + 1)) := by
  have hb := hW.all
  have hw := fiE_W (t := t) hW hs
  obtain ⟨h1, h2, h3⟩ := hm
  have hpos : ∀ c, (fiE P s t).2.2 c ≠ 0 → 1 ≤ pop (c % 256) := fun c hc => pop_pos _ (Nat.mod_lt _ (by decide)) (met_pos (hw.2.2.2.2.2.1 c hc).2.1)
  have hM1 : 1 ≤ mhM mh (n + 1) := by
    rcases mhM_is mh (n + 1) with h | ⟨i, q1, q2, q3⟩ <;> omega
  apply Nat.le_antisymm
  · rcases teN_is P s (fiE P s t) n 2048 with e | ⟨c, q1, q2, q3, q4⟩
    · rw [e]; exact Nat.zero_le _
    · rw [q4]
      have h4 := h1 c ((fiE P s t).2.2 c - 1) (by omega) (by omega)
      have h5 := mhM_ge mh (n + 1) ((fiE P s t).2.2 c - 1) (by omega)
      exact kwE_mono hW hs (hpos c q2) (by omega)
  · rcases mhM_is mh (n + 1) with e | ⟨i, q1, q2, q3⟩
    · rw [e]
      -- the first state
      have hc0 : (bfE P s t 0).2.2 (c0E P s) ≠ 0 := by
        show (if c0E P s = c0E P s then 1 else 0) ≠ 0
        rw [if_pos rfl]; decide
      have hkeep : ∀ N c, (bfE P s t 0).2.2 c ≠ 0 → (bfE P s t N).2.2 c = (bfE P s t 0).2.2 c := by
        intro N
        induction N with
        | zero => intro c _; rfl
        | succ N ih =>
          intro c hc
          show (if N < (bfE P s t N).2.1 then rwE P s t N (bfE P s t N) (P 0 4) else bfE P s t N).2.2 c = _
          split
          · rename_i z
            obtain ⟨i1, i2, -⟩ := bfE_W (t := t) hW hs N
            have := (rwE_all (t := t) i1 (i2 z) z hb.2.2.2.1 (P 0 4) (Nat.le_refl _)).2.2.2.2.1 c (by rw [ih c hc]; exact hc)
            rw [this, ih c hc]
          · exact ih c hc
      have hk0 := hkeep 2048 (c0E P s) hc0
      rw [← fiE_eq] at hk0
      have hv : (bfE P s t 0).2.2 (c0E P s) = 1 := if_pos rfl
      have h6 := (hW.sl hs).1
      have hp2 : 2 ^ P 6 s < 256 := pow_lt (b := 8) (by omega)
      have hlt : c0E P s < 2048 := by unfold c0E; omega
      have h7 := teN_ge P s (fiE P s t) n 2048 (c0E P s) hlt (by rw [hk0, hv]; decide) (by rw [hk0, hv]; omega)
      have hpp := hpos (c0E P s) (by rw [hk0, hv]; decide)
      exact Nat.le_trans (kwE_mono hW hs (Nat.le_refl _) hpp) h7
    · rw [q2]
      obtain ⟨c, q4, q5⟩ := h2 i (by omega) (by omega)
      rw [← q5]
      have hO := hw.2.2.2.2.2.1 c (by omega)
      exact teN_ge P s (fiE P s t) n 2048 c (hO.lt hb.2.2.2.1) (by omega) (by omega)
section
variable {L : Nat} {xs : Nat → Int32} {h g : St} {P : PT} {s t x : Nat} {X : BQ}
theorem m_knowing (H : Inv L xs g P) (hA : RA g oM P s X) (hs : s < P 0 7) {met : Nat} (hm : 1 ≤ met) (hm8 : met ≤ 8) : DX12_knowing (sI (sR fr0 0 oM) 1 (nI met)) g = some (nI (kwE P s met), g) := by
  have hM := H.ms
  have h64 := pw6 H.w hs
  have e0 := hA.1 0 (by decide)
  have hl0 := lbN_lt H.w hs 0
  have hini : (if ¬ lbN P s 0 = 0 then nI 1 else nI 0) = nI (kwN P s 0) := by
    show _ = nI (if lbN P s 0 = 0 then 0 else 1)
    by_cases z : lbN P s 0 = 0
    · rw [if_neg (fun q => q z), if_pos z]
    · rw [if_pos z, if_neg z]
  have Lp : LX12_knowing_1 (sI (sI (sI (sR fr0 0 oM) 1 (nI met)) 2 (nI (kwN P s 0))) 3 (nI 1)) g = some (.inl 0, sI (sI (sI (sR fr0 0 oM) 1 (nI met)) 2 (nI (kwN P s (met - 1)))) 3 (nI (met - 1 + 1)), g) := by
    unfold LX12_knowing_1
    rw [e_Loop]
    refine iter_upto (fun k => (sI (sI (sI (sR fr0 0 oM) 1 (nI met)) 2 (nI (kwN P s k))) 3 (nI (k + 1)), g)) _ (met - 1) (fun k hk => ?_) ?_
    · have e1 := hA.1 k (by omega)
      have hlk := lbN_lt H.w hs k
      have hk2 : k + 1 < met := by omega
      have e2 : nI (k + 1) - nI 1 = nI k := nI_pred k
      by_cases z : lbN P s k = 0
      · simp (disch := omega) only [ob_t, ob_n, ob_ite, e_cI, e_cL, e_cR, e_vI, e_vL, e_vR, e_d2, e_d2_a, e_d2_b, e_d2z, e_d2z_a, e_d2z_b, e_d1, e_d1_a, e_GI, e_GI_a, e_GL, e_GL_a, e_GR, e_GR_a, e_AI, e_AI_a, e_AI_b, e_AB, e_AB_a, e_AB_b, e_AZ, e_AZ_a, e_AZ_b, e_AL, e_AL_a, e_AL_b, e_AR, e_AR_a, e_AR_b, e_Len, e_Len_a, e_CI, e_CI_a, e_CI_b, e_CZ, e_CZ_a, e_And, e_kAnd, e_Or, e_kOr, e_Not, e_kNot, e_B, e_kB, e_T, e_kT, e_NN, e_kNN, e_NewA, e_NewA_a, e_NewC, e_kNewC, e_aN, e_aI, e_aI_a, e_aI_b, e_aL, e_aL_a, e_aL_b, e_aR, e_aR_a, e_aR_b, e_Call, e_kCall, e_CallV, e_kCallV, e_SetI, e_kSetI, e_SetL, e_kSetL, e_SetR, e_kSetR, e_Inc, e_Skip, e_Brk, e_Cnt, e_Ret, e_kRet, e_Ret0, e_Seq, e_kSeq0, e_kSeq1, e_kSeq2, e_kSeqR, e_If, e_kIf, e_Do, e_kDo, e_Sup, e_kN0, e_d3, e_k3a, e_k3b, e_k3c, e_P, e_kPa, e_kPb, e_UA, e_kUAa, e_kUAb, e_kUAc, e_UL, e_kULa, e_kULb, e_kULc, e_UF, e_kUFa, e_kUFb, e_Cp, e_kCp, e_Sw, e_kSwa, e_kSwb0, e_kSwb1, e_kSwbR, e_M1, e_kM1, e_MZ, e_kMZ, e_MN, e_kMN, e_Tv, e_kTv, e_Tc, e_kTc, e_lpS, e_kLp, e_kLpB0, e_kLpB1, e_kLpB2, e_kLpBR, e_kLpU, e_dwS, e_kDwB0, e_kDwC, f_II, f_LL, f_RR, f_IL, f_IR, f_LI, f_LR, f_RI, f_RL, o_iadd, o_isub, o_imul, o_iand, o_ior, o_ixor, o_ladd, o_lsub, o_lmul, o_land, o_lor, o_ishl, o_ishr, o_iushr, o_lshl, o_lcmp, o_i2l, o_l2i, o_i2b, o_i2s, o_lneg, o_imax, o_imin, o_idiv, o_irem, o_ldiv, o_lrem, r_lt, r_le, r_gt, r_ge, r_eq, r_ne, q_lt, q_le, q_gt, q_ge, q_eq, q_ne, decide_eq_true_eq, idI, and_true, true_and, and_false, false_and, or_true, true_or, or_false, false_or, not_true_eq_false, not_false_eq_true, if_true, if_false, ite_self, Bool.not_true, Bool.not_false, Bool.false_eq_true, Bool.true_eq_false, decide_true, decide_false, ne_eq, reduceIte, Nat.reduceEqDiff, Option.some.injEq, Prod.mk.injEq, eq_self, fa_lit, nI_add, pk_mul, nI_ltI, nI_leI, nI_eq, b01, b0, b1, x_hasBit, Nat.reduceLeDiff, Nat.reduceAdd, Nat.reduceMul, Nat.reduceSub, Nat.lt_irrefl, Nat.reduceLT, n_inb, nI_clamp, w_hr, w_hk, w_hl, w_eq, w_ne, wl_hr, wl_hk, wl_hi, wl_eq, wl_ne, hM.k, hM.k1, hM.k2, hM.k3, hM.k4, hM.k5, hM.k6, hM.k7, hM.k8, hM.k9, hM.k10, hM.k11, hM.k12, hM.k13, hM.k14, hM.k15, hM.k16, hM.k17, hM.k18, hM.k19, hM.k20, hM.k21, hM.k22, hM.k23, hM.k24, hM.k25, hM.k26, hM.k27, hM.k28, hM.k29, hM.k30, hM.k31, hM.k32, hM.k33, hM.k34, hM.k35, hM.r1, hM.r2, hM.r3, hM.r4, hM.r5, hM.r16, hM.r17, hM.r18, hM.r19, hM.r20, hM.r21, hM.r22, hM.r23, hM.r24, hM.r25, hM.r26, hM.r31, hM.r32, hM.r33, hM.r34, hM.r35, hM.r36, hM.r37, hM.r38, hM.r39, hM.r40, hM.r41, hM.r42, hM.r43, hM.r44, hM.r47, hM.r48, hM.r49, hM.r50, hM.r54, stI, fI, fZ, fL, stL, f_ss, f_sL, f_sR, lc0, lc1, lc01, hk2, e2, e1, z, kwN, Nat.add_zero]
      · simp (disch := omega) only [ob_t, ob_n, ob_ite, e_cI, e_cL, e_cR, e_vI, e_vL, e_vR, e_d2, e_d2_a, e_d2_b, e_d2z, e_d2z_a, e_d2z_b, e_d1, e_d1_a, e_GI, e_GI_a, e_GL, e_GL_a, e_GR, e_GR_a, e_AI, e_AI_a, e_AI_b, e_AB, e_AB_a, e_AB_b, e_AZ, e_AZ_a, e_AZ_b, e_AL, e_AL_a, e_AL_b, e_AR, e_AR_a, e_AR_b, e_Len, e_Len_a, e_CI, e_CI_a, e_CI_b, e_CZ, e_CZ_a, e_And, e_kAnd, e_Or, e_kOr, e_Not, e_kNot, e_B, e_kB, e_T, e_kT, e_NN, e_kNN, e_NewA, e_NewA_a, e_NewC, e_kNewC, e_aN, e_aI, e_aI_a, e_aI_b, e_aL, e_aL_a, e_aL_b, e_aR, e_aR_a, e_aR_b, e_Call, e_kCall, e_CallV, e_kCallV, e_SetI, e_kSetI, e_SetL, e_kSetL, e_SetR, e_kSetR, e_Inc, e_Skip, e_Brk, e_Cnt, e_Ret, e_kRet, e_Ret0, e_Seq, e_kSeq0, e_kSeq1, e_kSeq2, e_kSeqR, e_If, e_kIf, e_Do, e_kDo, e_Sup, e_kN0, e_d3, e_k3a, e_k3b, e_k3c, e_P, e_kPa, e_kPb, e_UA, e_kUAa, e_kUAb, e_kUAc, e_UL, e_kULa, e_kULb, e_kULc, e_UF, e_kUFa, e_kUFb, e_Cp, e_kCp, e_Sw, e_kSwa, e_kSwb0, e_kSwb1, e_kSwbR, e_M1, e_kM1, e_MZ, e_kMZ, e_MN, e_kMN, e_Tv, e_kTv, e_Tc, e_kTc, e_lpS, e_kLp, e_kLpB0, e_kLpB1, e_kLpB2, e_kLpBR, e_kLpU, e_dwS, e_kDwB0, e_kDwC, f_II, f_LL, f_RR, f_IL, f_IR, f_LI, f_LR, f_RI, f_RL, o_iadd, o_isub, o_imul, o_iand, o_ior, o_ixor, o_ladd, o_lsub, o_lmul, o_land, o_lor, o_ishl, o_ishr, o_iushr, o_lshl, o_lcmp, o_i2l, o_l2i, o_i2b, o_i2s, o_lneg, o_imax, o_imin, o_idiv, o_irem, o_ldiv, o_lrem, r_lt, r_le, r_gt, r_ge, r_eq, r_ne, q_lt, q_le, q_gt, q_ge, q_eq, q_ne, decide_eq_true_eq, idI, and_true, true_and, and_false, false_and, or_true, true_or, or_false, false_or, not_true_eq_false, not_false_eq_true, if_true, if_false, ite_self, Bool.not_true, Bool.not_false, Bool.false_eq_true, Bool.true_eq_false, decide_true, decide_false, ne_eq, reduceIte, Nat.reduceEqDiff, Option.some.injEq, Prod.mk.injEq, eq_self, fa_lit, nI_add, pk_mul, nI_ltI, nI_leI, nI_eq, b01, b0, b1, x_hasBit, Nat.reduceLeDiff, Nat.reduceAdd, Nat.reduceMul, Nat.reduceSub, Nat.lt_irrefl, Nat.reduceLT, n_inb, nI_clamp, w_hr, w_hk, w_hl, w_eq, w_ne, wl_hr, wl_hk, wl_hi, wl_eq, wl_ne, hM.k, hM.k1, hM.k2, hM.k3, hM.k4, hM.k5, hM.k6, hM.k7, hM.k8, hM.k9, hM.k10, hM.k11, hM.k12, hM.k13, hM.k14, hM.k15, hM.k16, hM.k17, hM.k18, hM.k19, hM.k20, hM.k21, hM.k22, hM.k23, hM.k24, hM.k25, hM.k26, hM.k27, hM.k28, hM.k29, hM.k30, hM.k31, hM.k32, hM.k33, hM.k34, hM.k35, hM.r1, hM.r2, hM.r3, hM.r4, hM.r5, hM.r16, hM.r17, hM.r18, hM.r19, hM.r20, hM.r21, hM.r22, hM.r23, hM.r24, hM.r25, hM.r26, hM.r31, hM.r32, hM.r33, hM.r34, hM.r35, hM.r36, hM.r37, hM.r38, hM.r39, hM.r40, hM.r41, hM.r42, hM.r43, hM.r44, hM.r47, hM.r48, hM.r49, hM.r50, hM.r54, stI, fI, fZ, fL, stL, f_ss, f_sL, f_sR, lc0, lc1, lc01, hk2, e2, e1, z, kwN]
    · have hk2 : ¬ met - 1 + 1 < met := by omega
      simp (disch := omega) only [ob_t, ob_n, ob_ite, e_cI, e_cL, e_cR, e_vI, e_vL, e_vR, e_d2, e_d2_a, e_d2_b, e_d2z, e_d2z_a, e_d2z_b, e_d1, e_d1_a, e_GI, e_GI_a, e_GL, e_GL_a, e_GR, e_GR_a, e_AI, e_AI_a, e_AI_b, e_AB, e_AB_a, e_AB_b, e_AZ, e_AZ_a, e_AZ_b, e_AL, e_AL_a, e_AL_b, e_AR, e_AR_a, e_AR_b, e_Len, e_Len_a, e_CI, e_CI_a, e_CI_b, e_CZ, e_CZ_a, e_And, e_kAnd, e_Or, e_kOr, e_Not, e_kNot, e_B, e_kB, e_T, e_kT, e_NN, e_kNN, e_NewA, e_NewA_a, e_NewC, e_kNewC, e_aN, e_aI, e_aI_a, e_aI_b, e_aL, e_aL_a, e_aL_b, e_aR, e_aR_a, e_aR_b, e_Call, e_kCall, e_CallV, e_kCallV, e_SetI, e_kSetI, e_SetL, e_kSetL, e_SetR, e_kSetR, e_Inc, e_Skip, e_Brk, e_Cnt, e_Ret, e_kRet, e_Ret0, e_Seq, e_kSeq0, e_kSeq1, e_kSeq2, e_kSeqR, e_If, e_kIf, e_Do, e_kDo, e_Sup, e_kN0, e_d3, e_k3a, e_k3b, e_k3c, e_P, e_kPa, e_kPb, e_UA, e_kUAa, e_kUAb, e_kUAc, e_UL, e_kULa, e_kULb, e_kULc, e_UF, e_kUFa, e_kUFb, e_Cp, e_kCp, e_Sw, e_kSwa, e_kSwb0, e_kSwb1, e_kSwbR, e_M1, e_kM1, e_MZ, e_kMZ, e_MN, e_kMN, e_Tv, e_kTv, e_Tc, e_kTc, e_lpS, e_kLp, e_kLpB0, e_kLpB1, e_kLpB2, e_kLpBR, e_kLpU, e_dwS, e_kDwB0, e_kDwC, f_II, f_LL, f_RR, f_IL, f_IR, f_LI, f_LR, f_RI, f_RL, o_iadd, o_isub, o_imul, o_iand, o_ior, o_ixor, o_ladd, o_lsub, o_lmul, o_land, o_lor, o_ishl, o_ishr, o_iushr, o_lshl, o_lcmp, o_i2l, o_l2i, o_i2b, o_i2s, o_lneg, o_imax, o_imin, o_idiv, o_irem, o_ldiv, o_lrem, r_lt, r_le, r_gt, r_ge, r_eq, r_ne, q_lt, q_le, q_gt, q_ge, q_eq, q_ne, decide_eq_true_eq, idI, and_true, true_and, and_false, false_and, or_true, true_or, or_false, false_or, not_true_eq_false, not_false_eq_true, if_true, if_false, ite_self, Bool.not_true, Bool.not_false, Bool.false_eq_true, Bool.true_eq_false, decide_true, decide_false, ne_eq, reduceIte, Nat.reduceEqDiff, Option.some.injEq, Prod.mk.injEq, eq_self, fa_lit, nI_add, pk_mul, nI_ltI, nI_leI, nI_eq, b01, b0, b1, x_hasBit, Nat.reduceLeDiff, Nat.reduceAdd, Nat.reduceMul, Nat.reduceSub, Nat.lt_irrefl, Nat.reduceLT, n_inb, nI_clamp, w_hr, w_hk, w_hl, w_eq, w_ne, wl_hr, wl_hk, wl_hi, wl_eq, wl_ne, hM.k, hM.k1, hM.k2, hM.k3, hM.k4, hM.k5, hM.k6, hM.k7, hM.k8, hM.k9, hM.k10, hM.k11, hM.k12, hM.k13, hM.k14, hM.k15, hM.k16, hM.k17, hM.k18, hM.k19, hM.k20, hM.k21, hM.k22, hM.k23, hM.k24, hM.k25, hM.k26, hM.k27, hM.k28, hM.k29, hM.k30, hM.k31, hM.k32, hM.k33, hM.k34, hM.k35, hM.r1, hM.r2, hM.r3, hM.r4, hM.r5, hM.r16, hM.r17, hM.r18, hM.r19, hM.r20, hM.r21, hM.r22, hM.r23, hM.r24, hM.r25, hM.r26, hM.r31, hM.r32, hM.r33, hM.r34, hM.r35, hM.r36, hM.r37, hM.r38, hM.r39, hM.r40, hM.r41, hM.r42, hM.r43, hM.r44, hM.r47, hM.r48, hM.r49, hM.r50, hM.r54, stI, fI, fZ, fL, stL, f_ss, f_sL, f_sR, lc0, lc1, lc01, hk2]
  unfold kwE
  by_cases z : lbN P s 0 = 0
  · have ek : kwN P s 0 = 0 := if_pos z
    rw [ek] at Lp
    simp (disch := omega) only [ob_t, ob_n, ob_ite, e_cI, e_cL, e_cR, e_vI, e_vL, e_vR, e_d2, e_d2_a, e_d2_b, e_d2z, e_d2z_a, e_d2z_b, e_d1, e_d1_a, e_GI, e_GI_a, e_GL, e_GL_a, e_GR, e_GR_a, e_AI, e_AI_a, e_AI_b, e_AB, e_AB_a, e_AB_b, e_AZ, e_AZ_a, e_AZ_b, e_AL, e_AL_a, e_AL_b, e_AR, e_AR_a, e_AR_b, e_Len, e_Len_a, e_CI, e_CI_a, e_CI_b, e_CZ, e_CZ_a, e_And, e_kAnd, e_Or, e_kOr, e_Not, e_kNot, e_B, e_kB, e_T, e_kT, e_NN, e_kNN, e_NewA, e_NewA_a, e_NewC, e_kNewC, e_aN, e_aI, e_aI_a, e_aI_b, e_aL, e_aL_a, e_aL_b, e_aR, e_aR_a, e_aR_b, e_Call, e_kCall, e_CallV, e_kCallV, e_SetI, e_kSetI, e_SetL, e_kSetL, e_SetR, e_kSetR, e_Inc, e_Skip, e_Brk, e_Cnt, e_Ret, e_kRet, e_Ret0, e_Seq, e_kSeq0, e_kSeq1, e_kSeq2, e_kSeqR, e_If, e_kIf, e_Do, e_kDo, e_Sup, e_kN0, e_d3, e_k3a, e_k3b, e_k3c, e_P, e_kPa, e_kPb, e_UA, e_kUAa, e_kUAb, e_kUAc, e_UL, e_kULa, e_kULb, e_kULc, e_UF, e_kUFa, e_kUFb, e_Cp, e_kCp, e_Sw, e_kSwa, e_kSwb0, e_kSwb1, e_kSwbR, e_M1, e_kM1, e_MZ, e_kMZ, e_MN, e_kMN, e_Tv, e_kTv, e_Tc, e_kTc, e_lpS, e_kLp, e_kLpB0, e_kLpB1, e_kLpB2, e_kLpBR, e_kLpU, e_dwS, e_kDwB0, e_kDwC, f_II, f_LL, f_RR, f_IL, f_IR, f_LI, f_LR, f_RI, f_RL, o_iadd, o_isub, o_imul, o_iand, o_ior, o_ixor, o_ladd, o_lsub, o_lmul, o_land, o_lor, o_ishl, o_ishr, o_iushr, o_lshl, o_lcmp, o_i2l, o_l2i, o_i2b, o_i2s, o_lneg, o_imax, o_imin, o_idiv, o_irem, o_ldiv, o_lrem, r_lt, r_le, r_gt, r_ge, r_eq, r_ne, q_lt, q_le, q_gt, q_ge, q_eq, q_ne, decide_eq_true_eq, idI, and_true, true_and, and_false, false_and, or_true, true_or, or_false, false_or, not_true_eq_false, not_false_eq_true, if_true, if_false, ite_self, Bool.not_true, Bool.not_false, Bool.false_eq_true, Bool.true_eq_false, decide_true, decide_false, ne_eq, reduceIte, Nat.reduceEqDiff, Option.some.injEq, Prod.mk.injEq, eq_self, fa_lit, nI_add, pk_mul, nI_ltI, nI_leI, nI_eq, b01, b0, b1, x_hasBit, Nat.reduceLeDiff, Nat.reduceAdd, Nat.reduceMul, Nat.reduceSub, Nat.lt_irrefl, Nat.reduceLT, n_inb, nI_clamp, w_hr, w_hk, w_hl, w_eq, w_ne, wl_hr, wl_hk, wl_hi, wl_eq, wl_ne, hM.k, hM.k1, hM.k2, hM.k3, hM.k4, hM.k5, hM.k6, hM.k7, hM.k8, hM.k9, hM.k10, hM.k11, hM.k12, hM.k13, hM.k14, hM.k15, hM.k16, hM.k17, hM.k18, hM.k19, hM.k20, hM.k21, hM.k22, hM.k23, hM.k24, hM.k25, hM.k26, hM.k27, hM.k28, hM.k29, hM.k30, hM.k31, hM.k32, hM.k33, hM.k34, hM.k35, hM.r1, hM.r2, hM.r3, hM.r4, hM.r5, hM.r16, hM.r17, hM.r18, hM.r19, hM.r20, hM.r21, hM.r22, hM.r23, hM.r24, hM.r25, hM.r26, hM.r31, hM.r32, hM.r33, hM.r34, hM.r35, hM.r36, hM.r37, hM.r38, hM.r39, hM.r40, hM.r41, hM.r42, hM.r43, hM.r44, hM.r47, hM.r48, hM.r49, hM.r50, hM.r54, stI, fI, fZ, fL, stL, f_ss, f_sL, f_sR, lc0, lc1, lc01, DX12_knowing, BX12_knowing, e0, z, Lp]
  · have ek : kwN P s 0 = 1 := if_neg z
    rw [ek] at Lp
    simp (disch := omega) only [ob_t, ob_n, ob_ite, e_cI, e_cL, e_cR, e_vI, e_vL, e_vR, e_d2, e_d2_a, e_d2_b, e_d2z, e_d2z_a, e_d2z_b, e_d1, e_d1_a, e_GI, e_GI_a, e_GL, e_GL_a, e_GR, e_GR_a, e_AI, e_AI_a, e_AI_b, e_AB, e_AB_a, e_AB_b, e_AZ, e_AZ_a, e_AZ_b, e_AL, e_AL_a, e_AL_b, e_AR, e_AR_a, e_AR_b, e_Len, e_Len_a, e_CI, e_CI_a, e_CI_b, e_CZ, e_CZ_a, e_And, e_kAnd, e_Or, e_kOr, e_Not, e_kNot, e_B, e_kB, e_T, e_kT, e_NN, e_kNN, e_NewA, e_NewA_a, e_NewC, e_kNewC, e_aN, e_aI, e_aI_a, e_aI_b, e_aL, e_aL_a, e_aL_b, e_aR, e_aR_a, e_aR_b, e_Call, e_kCall, e_CallV, e_kCallV, e_SetI, e_kSetI, e_SetL, e_kSetL, e_SetR, e_kSetR, e_Inc, e_Skip, e_Brk, e_Cnt, e_Ret, e_kRet, e_Ret0, e_Seq, e_kSeq0, e_kSeq1, e_kSeq2, e_kSeqR, e_If, e_kIf, e_Do, e_kDo, e_Sup, e_kN0, e_d3, e_k3a, e_k3b, e_k3c, e_P, e_kPa, e_kPb, e_UA, e_kUAa, e_kUAb, e_kUAc, e_UL, e_kULa, e_kULb, e_kULc, e_UF, e_kUFa, e_kUFb, e_Cp, e_kCp, e_Sw, e_kSwa, e_kSwb0, e_kSwb1, e_kSwbR, e_M1, e_kM1, e_MZ, e_kMZ, e_MN, e_kMN, e_Tv, e_kTv, e_Tc, e_kTc, e_lpS, e_kLp, e_kLpB0, e_kLpB1, e_kLpB2, e_kLpBR, e_kLpU, e_dwS, e_kDwB0, e_kDwC, f_II, f_LL, f_RR, f_IL, f_IR, f_LI, f_LR, f_RI, f_RL, o_iadd, o_isub, o_imul, o_iand, o_ior, o_ixor, o_ladd, o_lsub, o_lmul, o_land, o_lor, o_ishl, o_ishr, o_iushr, o_lshl, o_lcmp, o_i2l, o_l2i, o_i2b, o_i2s, o_lneg, o_imax, o_imin, o_idiv, o_irem, o_ldiv, o_lrem, r_lt, r_le, r_gt, r_ge, r_eq, r_ne, q_lt, q_le, q_gt, q_ge, q_eq, q_ne, decide_eq_true_eq, idI, and_true, true_and, and_false, false_and, or_true, true_or, or_false, false_or, not_true_eq_false, not_false_eq_true, if_true, if_false, ite_self, Bool.not_true, Bool.not_false, Bool.false_eq_true, Bool.true_eq_false, decide_true, decide_false, ne_eq, reduceIte, Nat.reduceEqDiff, Option.some.injEq, Prod.mk.injEq, eq_self, fa_lit, nI_add, pk_mul, nI_ltI, nI_leI, nI_eq, b01, b0, b1, x_hasBit, Nat.reduceLeDiff, Nat.reduceAdd, Nat.reduceMul, Nat.reduceSub, Nat.lt_irrefl, Nat.reduceLT, n_inb, nI_clamp, w_hr, w_hk, w_hl, w_eq, w_ne, wl_hr, wl_hk, wl_hi, wl_eq, wl_ne, hM.k, hM.k1, hM.k2, hM.k3, hM.k4, hM.k5, hM.k6, hM.k7, hM.k8, hM.k9, hM.k10, hM.k11, hM.k12, hM.k13, hM.k14, hM.k15, hM.k16, hM.k17, hM.k18, hM.k19, hM.k20, hM.k21, hM.k22, hM.k23, hM.k24, hM.k25, hM.k26, hM.k27, hM.k28, hM.k29, hM.k30, hM.k31, hM.k32, hM.k33, hM.k34, hM.k35, hM.r1, hM.r2, hM.r3, hM.r4, hM.r5, hM.r16, hM.r17, hM.r18, hM.r19, hM.r20, hM.r21, hM.r22, hM.r23, hM.r24, hM.r25, hM.r26, hM.r31, hM.r32, hM.r33, hM.r34, hM.r35, hM.r36, hM.r37, hM.r38, hM.r39, hM.r40, hM.r41, hM.r42, hM.r43, hM.r44, hM.r47, hM.r48, hM.r49, hM.r50, hM.r54, stI, fI, fZ, fL, stL, f_ss, f_sL, f_sR, lc0, lc1, lc01, DX12_knowing, BX12_knowing, e0, z, Lp]
end
section
variable {L : Nat} {xs : Nat → Int32}
theorem op_tells (u v w : Int32) : OpI L xs (DX11_tells (sI (sI (sI (sR fr0 0 oX) 1 u) 2 v) 3 w)) (DX12_tells (sI (sI (sI (sR fr0 0 oM) 1 u) 2 v) 3 w)) := by
  intro h P H
  have hb := H.w.all
  have hO := H.co
  have hP := H.ps
  have hM := H.ms
  have c1 := G_alone H u v
  by_cases z1 : nI 0 ≤ u ∧ u < nI (P 0 6)
  · obtain ⟨k1, hk1, rfl⟩ := n_of (by omega) z1
    by_cases z2 : nI 0 ≤ v ∧ v < nI (P 0 7)
    · obtain ⟨k2, hk2, rfl⟩ := n_of (by omega) z2
      by_cases z3 : nI 0 ≤ w ∧ w < nI 8
      · obtain ⟨k3, hk3, rfl⟩ := n_of (by omega) z3
        rw [if_pos ⟨z1, z2⟩] at c1
        have e5 := RP.cstrong H.ps H.pg.r H.w hk1
        have hcr := (H.w.cr hk1).2
        obtain ⟨g, a1, b1, H1, s1⟩ := H.search hk2 (t := P 5 k1) (by omega)
        have hrA := s1.1
        have hkA := s1.2.1
        have hA := H1.as
        have kA0 := H.as.k
        obtain ⟨sn, mw, mh, -, -, -, -, n1, n2⟩ := b1
        have hte := te_mh H.w hk2 hk3 n2
        have h64 := pw6 H.w hk2
        have hlf := lf0_lt H.w hk2
        have hq := H.w.sl hk2
        have hpf := pop_12 (lf0 P k2)
        have hpz := pop_zero (lf0 P k2) (by omega)
        have hmb : ∀ n, mhM mh n ≤ 8 := fun n => by
          induction n with
          | zero => show 1 ≤ 8; decide
          | succ n ih =>
            have := n2.2.2 n
            show max (mhM mh n) (mh n) ≤ 8
            omega
        have hM1 : 1 ≤ mhM mh (k3 + 1) := by
          rcases mhM_is mh (k3 + 1) with h | ⟨i, q1, q2, q3⟩ <;> omega
        have hkw := kwE_is H.w hk2 hM1
        have f2 := H1.pg.r.sc (k := 2) (by decide)
        have elf := x_leftAtFirst H1.ps H1.pg.r H.w hk2
        have kp := H1.ps.k
        have emh : DX0_mostHearers (sI (sI (sR (sR fr0 0 oA) 1 oP) 2 (nI k2)) 3 (nI k3)) g = some (nI (kwE P k2 (mhM mh (k3 + 1))), g) := by
          rw [hkw]
          by_cases z : lf0 P k2 = 0
          · rw [if_pos z]
            have zp : pop (lf0 P k2) = 0 := hpz.mpr z
            simp (disch := omega) only [ob_t, ob_n, ob_ite, e_cI, e_cL, e_cR, e_vI, e_vL, e_vR, e_d2, e_d2_a, e_d2_b, e_d2z, e_d2z_a, e_d2z_b, e_d1, e_d1_a, e_GI, e_GI_a, e_GL, e_GL_a, e_GR, e_GR_a, e_AI, e_AI_a, e_AI_b, e_AB, e_AB_a, e_AB_b, e_AZ, e_AZ_a, e_AZ_b, e_AL, e_AL_a, e_AL_b, e_AR, e_AR_a, e_AR_b, e_Len, e_Len_a, e_CI, e_CI_a, e_CI_b, e_CZ, e_CZ_a, e_And, e_kAnd, e_Or, e_kOr, e_Not, e_kNot, e_B, e_kB, e_T, e_kT, e_NN, e_kNN, e_NewA, e_NewA_a, e_NewC, e_kNewC, e_aN, e_aI, e_aI_a, e_aI_b, e_aL, e_aL_a, e_aL_b, e_aR, e_aR_a, e_aR_b, e_Call, e_kCall, e_CallV, e_kCallV, e_SetI, e_kSetI, e_SetL, e_kSetL, e_SetR, e_kSetR, e_Inc, e_Skip, e_Brk, e_Cnt, e_Ret, e_kRet, e_Ret0, e_Seq, e_kSeq0, e_kSeq1, e_kSeq2, e_kSeqR, e_If, e_kIf, e_Do, e_kDo, e_Sup, e_kN0, e_d3, e_k3a, e_k3b, e_k3c, e_P, e_kPa, e_kPb, e_UA, e_kUAa, e_kUAb, e_kUAc, e_UL, e_kULa, e_kULb, e_kULc, e_UF, e_kUFa, e_kUFb, e_Cp, e_kCp, e_Sw, e_kSwa, e_kSwb0, e_kSwb1, e_kSwbR, e_M1, e_kM1, e_MZ, e_kMZ, e_MN, e_kMN, e_Tv, e_kTv, e_Tc, e_kTc, e_lpS, e_kLp, e_kLpB0, e_kLpB1, e_kLpB2, e_kLpBR, e_kLpU, e_dwS, e_kDwB0, e_kDwC, f_II, f_LL, f_RR, f_IL, f_IR, f_LI, f_LR, f_RI, f_RL, o_iadd, o_isub, o_imul, o_iand, o_ior, o_ixor, o_ladd, o_lsub, o_lmul, o_land, o_lor, o_ishl, o_ishr, o_iushr, o_lshl, o_lcmp, o_i2l, o_l2i, o_i2b, o_i2s, o_lneg, o_imax, o_imin, o_idiv, o_irem, o_ldiv, o_lrem, r_lt, r_le, r_gt, r_ge, r_eq, r_ne, q_lt, q_le, q_gt, q_ge, q_eq, q_ne, decide_eq_true_eq, idI, and_true, true_and, and_false, false_and, or_true, true_or, or_false, false_or, not_true_eq_false, not_false_eq_true, if_true, if_false, ite_self, Bool.not_true, Bool.not_false, Bool.false_eq_true, Bool.true_eq_false, decide_true, decide_false, ne_eq, reduceIte, Nat.reduceEqDiff, Option.some.injEq, Prod.mk.injEq, eq_self, fa_lit, nI_add, pk_mul, nI_ltI, nI_leI, nI_eq, b01, b0, b1, x_hasBit, Nat.reduceLeDiff, Nat.reduceAdd, Nat.reduceMul, Nat.reduceSub, Nat.lt_irrefl, Nat.reduceLT, n_inb, nI_clamp, w_hr, w_hk, w_hl, w_eq, w_ne, wl_hr, wl_hk, wl_hi, wl_eq, wl_ne, hA.k, hA.k1, hA.k2, hA.k3, hA.k4, hA.k5, hA.k6, hA.k7, hA.k8, hA.k9, hA.k10, hA.k11, hA.k12, hA.r0, hA.r1, hA.r2, hA.r3, hA.r4, hA.r5, hA.r6, hA.r7, hA.r8, hA.r10, hA.r11, hA.r12, f_ss, f_sR, stI, fI, DX0_mostHearers, BX0_mostHearers, kp, elf, x_bitCount, zp]
          · rw [if_neg z]
            have zp : ¬ pop (lf0 P k2) = 0 := fun q => z (hpz.mp q)
            have Lc : LX0_mostHearers_1 (sI (sI (sI (sI (sI (sR (sR fr0 0 oA) 1 oP) 2 (nI k2)) 3 (nI k3)) 4 (nI (pop (lf0 P k2)))) 5 (nI 1)) 6 (nI 0)) g = some (.inl 0, sI (sI (sI (sI (sI (sR (sR fr0 0 oA) 1 oP) 2 (nI k2)) 3 (nI k3)) 4 (nI (pop (lf0 P k2)))) 5 (nI (mhM mh (k3 + 1)))) 6 (nI (k3 + 1)), g) := by
              unfold LX0_mostHearers_1
              rw [e_Loop]
              refine iter_upto (fun k => (sI (sI (sI (sI (sI (sR (sR fr0 0 oA) 1 oP) 2 (nI k2)) 3 (nI k3)) 4 (nI (pop (lf0 P k2)))) 5 (nI (mhM mh k))) 6 (nI k), g)) _ (k3 + 1) (fun k hk => ?_) ?_
              · have k4 := hA.k4
                have e1 : DX11_cell (sI (sR fr0 0 (oA + 4)) 1 (nI k)) g = some (nI (mh k), g) := by
                  rw [x_cellN (by rw [k4]) (hA.ne 4) (by rw [k4]; show k < 8; omega) (by rw [k4]; decide), n1 k (by omega)]
                have hle : k ≤ k3 := by omega
                have hbk := hmb k
                have hmk := n2.2.2 k
                simp (disch := omega) only [ob_t, ob_n, ob_ite, e_cI, e_cL, e_cR, e_vI, e_vL, e_vR, e_d2, e_d2_a, e_d2_b, e_d2z, e_d2z_a, e_d2z_b, e_d1, e_d1_a, e_GI, e_GI_a, e_GL, e_GL_a, e_GR, e_GR_a, e_AI, e_AI_a, e_AI_b, e_AB, e_AB_a, e_AB_b, e_AZ, e_AZ_a, e_AZ_b, e_AL, e_AL_a, e_AL_b, e_AR, e_AR_a, e_AR_b, e_Len, e_Len_a, e_CI, e_CI_a, e_CI_b, e_CZ, e_CZ_a, e_And, e_kAnd, e_Or, e_kOr, e_Not, e_kNot, e_B, e_kB, e_T, e_kT, e_NN, e_kNN, e_NewA, e_NewA_a, e_NewC, e_kNewC, e_aN, e_aI, e_aI_a, e_aI_b, e_aL, e_aL_a, e_aL_b, e_aR, e_aR_a, e_aR_b, e_Call, e_kCall, e_CallV, e_kCallV, e_SetI, e_kSetI, e_SetL, e_kSetL, e_SetR, e_kSetR, e_Inc, e_Skip, e_Brk, e_Cnt, e_Ret, e_kRet, e_Ret0, e_Seq, e_kSeq0, e_kSeq1, e_kSeq2, e_kSeqR, e_If, e_kIf, e_Do, e_kDo, e_Sup, e_kN0, e_d3, e_k3a, e_k3b, e_k3c, e_P, e_kPa, e_kPb, e_UA, e_kUAa, e_kUAb, e_kUAc, e_UL, e_kULa, e_kULb, e_kULc, e_UF, e_kUFa, e_kUFb, e_Cp, e_kCp, e_Sw, e_kSwa, e_kSwb0, e_kSwb1, e_kSwbR, e_M1, e_kM1, e_MZ, e_kMZ, e_MN, e_kMN, e_Tv, e_kTv, e_Tc, e_kTc, e_lpS, e_kLp, e_kLpB0, e_kLpB1, e_kLpB2, e_kLpBR, e_kLpU, e_dwS, e_kDwB0, e_kDwC, f_II, f_LL, f_RR, f_IL, f_IR, f_LI, f_LR, f_RI, f_RL, o_iadd, o_isub, o_imul, o_iand, o_ior, o_ixor, o_ladd, o_lsub, o_lmul, o_land, o_lor, o_ishl, o_ishr, o_iushr, o_lshl, o_lcmp, o_i2l, o_l2i, o_i2b, o_i2s, o_lneg, o_imax, o_imin, o_idiv, o_irem, o_ldiv, o_lrem, r_lt, r_le, r_gt, r_ge, r_eq, r_ne, q_lt, q_le, q_gt, q_ge, q_eq, q_ne, decide_eq_true_eq, idI, and_true, true_and, and_false, false_and, or_true, true_or, or_false, false_or, not_true_eq_false, not_false_eq_true, if_true, if_false, ite_self, Bool.not_true, Bool.not_false, Bool.false_eq_true, Bool.true_eq_false, decide_true, decide_false, ne_eq, reduceIte, Nat.reduceEqDiff, Option.some.injEq, Prod.mk.injEq, eq_self, fa_lit, nI_add, pk_mul, nI_ltI, nI_leI, nI_eq, b01, b0, b1, x_hasBit, Nat.reduceLeDiff, Nat.reduceAdd, Nat.reduceMul, Nat.reduceSub, Nat.lt_irrefl, Nat.reduceLT, n_inb, nI_clamp, w_hr, w_hk, w_hl, w_eq, w_ne, wl_hr, wl_hk, wl_hi, wl_eq, wl_ne, hA.k, hA.k1, hA.k2, hA.k3, hA.k4, hA.k5, hA.k6, hA.k7, hA.k8, hA.k9, hA.k10, hA.k11, hA.k12, hA.r0, hA.r1, hA.r2, hA.r3, hA.r4, hA.r5, hA.r6, hA.r7, hA.r8, hA.r10, hA.r11, hA.r12, f_ss, f_sR, stI, fI, hle, e1, n_max, mhM]
              · have hle : ¬ k3 + 1 ≤ k3 := by omega
                simp (disch := omega) only [ob_t, ob_n, ob_ite, e_cI, e_cL, e_cR, e_vI, e_vL, e_vR, e_d2, e_d2_a, e_d2_b, e_d2z, e_d2z_a, e_d2z_b, e_d1, e_d1_a, e_GI, e_GI_a, e_GL, e_GL_a, e_GR, e_GR_a, e_AI, e_AI_a, e_AI_b, e_AB, e_AB_a, e_AB_b, e_AZ, e_AZ_a, e_AZ_b, e_AL, e_AL_a, e_AL_b, e_AR, e_AR_a, e_AR_b, e_Len, e_Len_a, e_CI, e_CI_a, e_CI_b, e_CZ, e_CZ_a, e_And, e_kAnd, e_Or, e_kOr, e_Not, e_kNot, e_B, e_kB, e_T, e_kT, e_NN, e_kNN, e_NewA, e_NewA_a, e_NewC, e_kNewC, e_aN, e_aI, e_aI_a, e_aI_b, e_aL, e_aL_a, e_aL_b, e_aR, e_aR_a, e_aR_b, e_Call, e_kCall, e_CallV, e_kCallV, e_SetI, e_kSetI, e_SetL, e_kSetL, e_SetR, e_kSetR, e_Inc, e_Skip, e_Brk, e_Cnt, e_Ret, e_kRet, e_Ret0, e_Seq, e_kSeq0, e_kSeq1, e_kSeq2, e_kSeqR, e_If, e_kIf, e_Do, e_kDo, e_Sup, e_kN0, e_d3, e_k3a, e_k3b, e_k3c, e_P, e_kPa, e_kPb, e_UA, e_kUAa, e_kUAb, e_kUAc, e_UL, e_kULa, e_kULb, e_kULc, e_UF, e_kUFa, e_kUFb, e_Cp, e_kCp, e_Sw, e_kSwa, e_kSwb0, e_kSwb1, e_kSwbR, e_M1, e_kM1, e_MZ, e_kMZ, e_MN, e_kMN, e_Tv, e_kTv, e_Tc, e_kTc, e_lpS, e_kLp, e_kLpB0, e_kLpB1, e_kLpB2, e_kLpBR, e_kLpU, e_dwS, e_kDwB0, e_kDwC, f_II, f_LL, f_RR, f_IL, f_IR, f_LI, f_LR, f_RI, f_RL, o_iadd, o_isub, o_imul, o_iand, o_ior, o_ixor, o_ladd, o_lsub, o_lmul, o_land, o_lor, o_ishl, o_ishr, o_iushr, o_lshl, o_lcmp, o_i2l, o_l2i, o_i2b, o_i2s, o_lneg, o_imax, o_imin, o_idiv, o_irem, o_ldiv, o_lrem, r_lt, r_le, r_gt, r_ge, r_eq, r_ne, q_lt, q_le, q_gt, q_ge, q_eq, q_ne, decide_eq_true_eq, idI, and_true, true_and, and_false, false_and, or_true, true_or, or_false, false_or, not_true_eq_false, not_false_eq_true, if_true, if_false, ite_self, Bool.not_true, Bool.not_false, Bool.false_eq_true, Bool.true_eq_false, decide_true, decide_false, ne_eq, reduceIte, Nat.reduceEqDiff, Option.some.injEq, Prod.mk.injEq, eq_self, fa_lit, nI_add, pk_mul, nI_ltI, nI_leI, nI_eq, b01, b0, b1, x_hasBit, Nat.reduceLeDiff, Nat.reduceAdd, Nat.reduceMul, Nat.reduceSub, Nat.lt_irrefl, Nat.reduceLT, n_inb, nI_clamp, w_hr, w_hk, w_hl, w_eq, w_ne, wl_hr, wl_hk, wl_hi, wl_eq, wl_ne, hA.k, hA.k1, hA.k2, hA.k3, hA.k4, hA.k5, hA.k6, hA.k7, hA.k8, hA.k9, hA.k10, hA.k11, hA.k12, hA.r0, hA.r1, hA.r2, hA.r3, hA.r4, hA.r5, hA.r6, hA.r7, hA.r8, hA.r10, hA.r11, hA.r12, f_ss, f_sR, stI, fI, hle]
            have hbk := hmb (k3 + 1)
            by_cases y : P 0 2 = 0
            · rw [if_pos y]
              simp (disch := omega) only [ob_t, ob_n, ob_ite, e_cI, e_cL, e_cR, e_vI, e_vL, e_vR, e_d2, e_d2_a, e_d2_b, e_d2z, e_d2z_a, e_d2z_b, e_d1, e_d1_a, e_GI, e_GI_a, e_GL, e_GL_a, e_GR, e_GR_a, e_AI, e_AI_a, e_AI_b, e_AB, e_AB_a, e_AB_b, e_AZ, e_AZ_a, e_AZ_b, e_AL, e_AL_a, e_AL_b, e_AR, e_AR_a, e_AR_b, e_Len, e_Len_a, e_CI, e_CI_a, e_CI_b, e_CZ, e_CZ_a, e_And, e_kAnd, e_Or, e_kOr, e_Not, e_kNot, e_B, e_kB, e_T, e_kT, e_NN, e_kNN, e_NewA, e_NewA_a, e_NewC, e_kNewC, e_aN, e_aI, e_aI_a, e_aI_b, e_aL, e_aL_a, e_aL_b, e_aR, e_aR_a, e_aR_b, e_Call, e_kCall, e_CallV, e_kCallV, e_SetI, e_kSetI, e_SetL, e_kSetL, e_SetR, e_kSetR, e_Inc, e_Skip, e_Brk, e_Cnt, e_Ret, e_kRet, e_Ret0, e_Seq, e_kSeq0, e_kSeq1, e_kSeq2, e_kSeqR, e_If, e_kIf, e_Do, e_kDo, e_Sup, e_kN0, e_d3, e_k3a, e_k3b, e_k3c, e_P, e_kPa, e_kPb, e_UA, e_kUAa, e_kUAb, e_kUAc, e_UL, e_kULa, e_kULb, e_kULc, e_UF, e_kUFa, e_kUFb, e_Cp, e_kCp, e_Sw, e_kSwa, e_kSwb0, e_kSwb1, e_kSwbR, e_M1, e_kM1, e_MZ, e_kMZ, e_MN, e_kMN, e_Tv, e_kTv, e_Tc, e_kTc, e_lpS, e_kLp, e_kLpB0, e_kLpB1, e_kLpB2, e_kLpBR, e_kLpU, e_dwS, e_kDwB0, e_kDwC, f_II, f_LL, f_RR, f_IL, f_IR, f_LI, f_LR, f_RI, f_RL, o_iadd, o_isub, o_imul, o_iand, o_ior, o_ixor, o_ladd, o_lsub, o_lmul, o_land, o_lor, o_ishl, o_ishr, o_iushr, o_lshl, o_lcmp, o_i2l, o_l2i, o_i2b, o_i2s, o_lneg, o_imax, o_imin, o_idiv, o_irem, o_ldiv, o_lrem, r_lt, r_le, r_gt, r_ge, r_eq, r_ne, q_lt, q_le, q_gt, q_ge, q_eq, q_ne, decide_eq_true_eq, idI, and_true, true_and, and_false, false_and, or_true, true_or, or_false, false_or, not_true_eq_false, not_false_eq_true, if_true, if_false, ite_self, Bool.not_true, Bool.not_false, Bool.false_eq_true, Bool.true_eq_false, decide_true, decide_false, ne_eq, reduceIte, Nat.reduceEqDiff, Option.some.injEq, Prod.mk.injEq, eq_self, fa_lit, nI_add, pk_mul, nI_ltI, nI_leI, nI_eq, b01, b0, b1, x_hasBit, Nat.reduceLeDiff, Nat.reduceAdd, Nat.reduceMul, Nat.reduceSub, Nat.lt_irrefl, Nat.reduceLT, n_inb, nI_clamp, w_hr, w_hk, w_hl, w_eq, w_ne, wl_hr, wl_hk, wl_hi, wl_eq, wl_ne, hA.k, hA.k1, hA.k2, hA.k3, hA.k4, hA.k5, hA.k6, hA.k7, hA.k8, hA.k9, hA.k10, hA.k11, hA.k12, hA.r0, hA.r1, hA.r2, hA.r3, hA.r4, hA.r5, hA.r6, hA.r7, hA.r8, hA.r10, hA.r11, hA.r12, f_ss, f_sR, stI, fI, DX0_mostHearers, BX0_mostHearers, kp, elf, x_bitCount, zp, Lc, f2, y]
            · rw [if_neg y]
              simp (disch := omega) only [ob_t, ob_n, ob_ite, e_cI, e_cL, e_cR, e_vI, e_vL, e_vR, e_d2, e_d2_a, e_d2_b, e_d2z, e_d2z_a, e_d2z_b, e_d1, e_d1_a, e_GI, e_GI_a, e_GL, e_GL_a, e_GR, e_GR_a, e_AI, e_AI_a, e_AI_b, e_AB, e_AB_a, e_AB_b, e_AZ, e_AZ_a, e_AZ_b, e_AL, e_AL_a, e_AL_b, e_AR, e_AR_a, e_AR_b, e_Len, e_Len_a, e_CI, e_CI_a, e_CI_b, e_CZ, e_CZ_a, e_And, e_kAnd, e_Or, e_kOr, e_Not, e_kNot, e_B, e_kB, e_T, e_kT, e_NN, e_kNN, e_NewA, e_NewA_a, e_NewC, e_kNewC, e_aN, e_aI, e_aI_a, e_aI_b, e_aL, e_aL_a, e_aL_b, e_aR, e_aR_a, e_aR_b, e_Call, e_kCall, e_CallV, e_kCallV, e_SetI, e_kSetI, e_SetL, e_kSetL, e_SetR, e_kSetR, e_Inc, e_Skip, e_Brk, e_Cnt, e_Ret, e_kRet, e_Ret0, e_Seq, e_kSeq0, e_kSeq1, e_kSeq2, e_kSeqR, e_If, e_kIf, e_Do, e_kDo, e_Sup, e_kN0, e_d3, e_k3a, e_k3b, e_k3c, e_P, e_kPa, e_kPb, e_UA, e_kUAa, e_kUAb, e_kUAc, e_UL, e_kULa, e_kULb, e_kULc, e_UF, e_kUFa, e_kUFb, e_Cp, e_kCp, e_Sw, e_kSwa, e_kSwb0, e_kSwb1, e_kSwbR, e_M1, e_kM1, e_MZ, e_kMZ, e_MN, e_kMN, e_Tv, e_kTv, e_Tc, e_kTc, e_lpS, e_kLp, e_kLpB0, e_kLpB1, e_kLpB2, e_kLpBR, e_kLpU, e_dwS, e_kDwB0, e_kDwC, f_II, f_LL, f_RR, f_IL, f_IR, f_LI, f_LR, f_RI, f_RL, o_iadd, o_isub, o_imul, o_iand, o_ior, o_ixor, o_ladd, o_lsub, o_lmul, o_land, o_lor, o_ishl, o_ishr, o_iushr, o_lshl, o_lcmp, o_i2l, o_l2i, o_i2b, o_i2s, o_lneg, o_imax, o_imin, o_idiv, o_irem, o_ldiv, o_lrem, r_lt, r_le, r_gt, r_ge, r_eq, r_ne, q_lt, q_le, q_gt, q_ge, q_eq, q_ne, decide_eq_true_eq, idI, and_true, true_and, and_false, false_and, or_true, true_or, or_false, false_or, not_true_eq_false, not_false_eq_true, if_true, if_false, ite_self, Bool.not_true, Bool.not_false, Bool.false_eq_true, Bool.true_eq_false, decide_true, decide_false, ne_eq, reduceIte, Nat.reduceEqDiff, Option.some.injEq, Prod.mk.injEq, eq_self, fa_lit, nI_add, pk_mul, nI_ltI, nI_leI, nI_eq, b01, b0, b1, x_hasBit, Nat.reduceLeDiff, Nat.reduceAdd, Nat.reduceMul, Nat.reduceSub, Nat.lt_irrefl, Nat.reduceLT, n_inb, nI_clamp, w_hr, w_hk, w_hl, w_eq, w_ne, wl_hr, wl_hk, wl_hi, wl_eq, wl_ne, hA.k, hA.k1, hA.k2, hA.k3, hA.k4, hA.k5, hA.k6, hA.k7, hA.k8, hA.k9, hA.k10, hA.k11, hA.k12, hA.r0, hA.r1, hA.r2, hA.r3, hA.r4, hA.r5, hA.r6, hA.r7, hA.r8, hA.r10, hA.r11, hA.r12, f_ss, f_sR, stI, fI, DX0_mostHearers, BX0_mostHearers, kp, elf, x_bitCount, zp, Lc, f2, y, n_min]
        have hM := H1.ms
        have m1 := m_isCarrier H1.thr.mg (nI k1)
        rw [if_pos z1] at m1
        have m2 := m_isSlate H1.thr.mg (nI k2)
        rw [if_pos z2] at m2
        have m3 := m_in0 (wI g oM 0 (nI 0)) (nI k3) (n := 7) (by decide)
        rw [if_pos z3] at m3
        obtain ⟨g2, a2, b2, H2, q2, -⟩ := H1.thr.laysAlone hk2 (t := P 5 k1) (by omega)
        have m5 := H1.thr.mg.cstrong hk1
        have hrB := q2.hr
        have hkB := q2.hk
        have hw := fiE_W (t := P 5 k1) H.w hk2
        have L2 : LX12_tells_1 (sI (sI (sI (sI (sI (sR fr0 0 oM) 1 (nI k1)) 2 (nI k2)) 3 (nI k3)) 4 (nI 0)) 5 (nI 0)) g2 = some (.inl 0, sI (sI (sI (sI (sI (sR fr0 0 oM) 1 (nI k1)) 2 (nI k2)) 3 (nI k3)) 4 (nI (teN P k2 (fiE P k2 (P 5 k1)) k3 2048))) 5 (nI 2048), g2) := by
          have hM := H2.ms
          obtain ⟨X, hX⟩ : ∃ X, X = fiE P k2 (P 5 k1) := ⟨_, rfl⟩
          rw [← hX] at b2 hw ⊢
          have hkb : ∀ met, 1 ≤ met → met ≤ 8 → kwE P k2 met ≤ 9 := fun met q1 q2 => by
            rw [kwE_is H.w hk2 q1]
            split
            · omega
            · split <;> omega
          have htb : ∀ c, teN P k2 X k3 c ≤ 9 := fun c => by
            rcases teN_is P k2 X k3 c with e | ⟨d, q1, q2, q3, q4⟩
            · omega
            · rw [q4]
              exact hkb _ (pop_pos _ (Nat.mod_lt _ (by decide)) (met_pos (hw.2.2.2.2.2.1 d q2).2.1)) (pop_12 _)
          have hcond : DX12_tells = DX12_tells := rfl
          unfold LX12_tells_1
          rw [e_Loop]
          refine iter_upto (fun k => (sI (sI (sI (sI (sI (sR fr0 0 oM) 1 (nI k1)) 2 (nI k2)) 3 (nI k3)) 4 (nI (teN P k2 X k3 k))) 5 (nI k), g2)) _ 2048 (fun k hk => ?_) ?_
          · have e1 := b2.2.1 k hk
            have em : nI k - nI k / nI 256 * nI 256 = nI (k % 256) := pk_rem (by omega) (by decide) (by decide)
            have ed : nI k / nI 256 = nI (k / 256) := pk_div (by omega) (by decide) (by decide)
            rw [ed, pk_mul] at em
            have e2z : (nI 256 = nI 0) = False := eq_false (by decide)
            have ht := htb k
            by_cases y : X.2.2 k = 0
            · rw [if_pos y] at e1
              have es : teN P k2 X k3 (k + 1) = teN P k2 X k3 k := if_neg (fun q => q.1 y)
              have z2 : ¬ 100000 ≤ k3 := by omega
              simp (disch := omega) only [ob_t, ob_n, ob_ite, e_cI, e_cL, e_cR, e_vI, e_vL, e_vR, e_d2, e_d2_a, e_d2_b, e_d2z, e_d2z_a, e_d2z_b, e_d1, e_d1_a, e_GI, e_GI_a, e_GL, e_GL_a, e_GR, e_GR_a, e_AI, e_AI_a, e_AI_b, e_AB, e_AB_a, e_AB_b, e_AZ, e_AZ_a, e_AZ_b, e_AL, e_AL_a, e_AL_b, e_AR, e_AR_a, e_AR_b, e_Len, e_Len_a, e_CI, e_CI_a, e_CI_b, e_CZ, e_CZ_a, e_And, e_kAnd, e_Or, e_kOr, e_Not, e_kNot, e_B, e_kB, e_T, e_kT, e_NN, e_kNN, e_NewA, e_NewA_a, e_NewC, e_kNewC, e_aN, e_aI, e_aI_a, e_aI_b, e_aL, e_aL_a, e_aL_b, e_aR, e_aR_a, e_aR_b, e_Call, e_kCall, e_CallV, e_kCallV, e_SetI, e_kSetI, e_SetL, e_kSetL, e_SetR, e_kSetR, e_Inc, e_Skip, e_Brk, e_Cnt, e_Ret, e_kRet, e_Ret0, e_Seq, e_kSeq0, e_kSeq1, e_kSeq2, e_kSeqR, e_If, e_kIf, e_Do, e_kDo, e_Sup, e_kN0, e_d3, e_k3a, e_k3b, e_k3c, e_P, e_kPa, e_kPb, e_UA, e_kUAa, e_kUAb, e_kUAc, e_UL, e_kULa, e_kULb, e_kULc, e_UF, e_kUFa, e_kUFb, e_Cp, e_kCp, e_Sw, e_kSwa, e_kSwb0, e_kSwb1, e_kSwbR, e_M1, e_kM1, e_MZ, e_kMZ, e_MN, e_kMN, e_Tv, e_kTv, e_Tc, e_kTc, e_lpS, e_kLp, e_kLpB0, e_kLpB1, e_kLpB2, e_kLpBR, e_kLpU, e_dwS, e_kDwB0, e_kDwC, f_II, f_LL, f_RR, f_IL, f_IR, f_LI, f_LR, f_RI, f_RL, o_iadd, o_isub, o_imul, o_iand, o_ior, o_ixor, o_ladd, o_lsub, o_lmul, o_land, o_lor, o_ishl, o_ishr, o_iushr, o_lshl, o_lcmp, o_i2l, o_l2i, o_i2b, o_i2s, o_lneg, o_imax, o_imin, o_idiv, o_irem, o_ldiv, o_lrem, r_lt, r_le, r_gt, r_ge, r_eq, r_ne, q_lt, q_le, q_gt, q_ge, q_eq, q_ne, decide_eq_true_eq, idI, and_true, true_and, and_false, false_and, or_true, true_or, or_false, false_or, not_true_eq_false, not_false_eq_true, if_true, if_false, ite_self, Bool.not_true, Bool.not_false, Bool.false_eq_true, Bool.true_eq_false, decide_true, decide_false, ne_eq, reduceIte, Nat.reduceEqDiff, Option.some.injEq, Prod.mk.injEq, eq_self, fa_lit, nI_add, pk_mul, nI_ltI, nI_leI, nI_eq, b01, b0, b1, x_hasBit, Nat.reduceLeDiff, Nat.reduceAdd, Nat.reduceMul, Nat.reduceSub, Nat.lt_irrefl, Nat.reduceLT, n_inb, nI_clamp, w_hr, w_hk, w_hl, w_eq, w_ne, wl_hr, wl_hk, wl_hi, wl_eq, wl_ne, hM.k, hM.k1, hM.k2, hM.k3, hM.k4, hM.k5, hM.k6, hM.k7, hM.k8, hM.k9, hM.k10, hM.k11, hM.k12, hM.k13, hM.k14, hM.k15, hM.k16, hM.k17, hM.k18, hM.k19, hM.k20, hM.k21, hM.k22, hM.k23, hM.k24, hM.k25, hM.k26, hM.k27, hM.k28, hM.k29, hM.k30, hM.k31, hM.k32, hM.k33, hM.k34, hM.k35, hM.r1, hM.r2, hM.r3, hM.r4, hM.r5, hM.r16, hM.r17, hM.r18, hM.r19, hM.r20, hM.r21, hM.r22, hM.r23, hM.r24, hM.r25, hM.r26, hM.r31, hM.r32, hM.r33, hM.r34, hM.r35, hM.r36, hM.r37, hM.r38, hM.r39, hM.r40, hM.r41, hM.r42, hM.r43, hM.r44, hM.r47, hM.r48, hM.r49, hM.r50, hM.r54, stI, fI, fZ, fL, stL, f_ss, f_sL, f_sR, lc0, lc1, lc01, hk, e1, z2, es]
            · rw [if_neg y] at e1
              have hD := hw.D_le hb.2.2.2.1 y
              by_cases zz : X.2.2 k ≤ k3 + 1
              · have z2 : X.2.2 k - 1 ≤ k3 := by omega
                have hpp := pop_pos (k % 256) (Nat.mod_lt _ (by decide)) (met_pos (hw.2.2.2.2.2.1 k y).2.1)
                have hp8 := pop_12 (k % 256)
                have ek := m_knowing H2 b2 hk2 hpp hp8
                have hkk := hkb _ hpp hp8
                have hm256 : k % 256 < 256 := Nat.mod_lt _ (by decide)
                by_cases q : teN P k2 X k3 k < kwE P k2 (pop (k % 256))
                · have es : teN P k2 X k3 (k + 1) = kwE P k2 (pop (k % 256)) := if_pos ⟨y, zz, q⟩
                  simp (disch := omega) only [ob_t, ob_n, ob_ite, e_cI, e_cL, e_cR, e_vI, e_vL, e_vR, e_d2, e_d2_a, e_d2_b, e_d2z, e_d2z_a, e_d2z_b, e_d1, e_d1_a, e_GI, e_GI_a, e_GL, e_GL_a, e_GR, e_GR_a, e_AI, e_AI_a, e_AI_b, e_AB, e_AB_a, e_AB_b, e_AZ, e_AZ_a, e_AZ_b, e_AL, e_AL_a, e_AL_b, e_AR, e_AR_a, e_AR_b, e_Len, e_Len_a, e_CI, e_CI_a, e_CI_b, e_CZ, e_CZ_a, e_And, e_kAnd, e_Or, e_kOr, e_Not, e_kNot, e_B, e_kB, e_T, e_kT, e_NN, e_kNN, e_NewA, e_NewA_a, e_NewC, e_kNewC, e_aN, e_aI, e_aI_a, e_aI_b, e_aL, e_aL_a, e_aL_b, e_aR, e_aR_a, e_aR_b, e_Call, e_kCall, e_CallV, e_kCallV, e_SetI, e_kSetI, e_SetL, e_kSetL, e_SetR, e_kSetR, e_Inc, e_Skip, e_Brk, e_Cnt, e_Ret, e_kRet, e_Ret0, e_Seq, e_kSeq0, e_kSeq1, e_kSeq2, e_kSeqR, e_If, e_kIf, e_Do, e_kDo, e_Sup, e_kN0, e_d3, e_k3a, e_k3b, e_k3c, e_P, e_kPa, e_kPb, e_UA, e_kUAa, e_kUAb, e_kUAc, e_UL, e_kULa, e_kULb, e_kULc, e_UF, e_kUFa, e_kUFb, e_Cp, e_kCp, e_Sw, e_kSwa, e_kSwb0, e_kSwb1, e_kSwbR, e_M1, e_kM1, e_MZ, e_kMZ, e_MN, e_kMN, e_Tv, e_kTv, e_Tc, e_kTc, e_lpS, e_kLp, e_kLpB0, e_kLpB1, e_kLpB2, e_kLpBR, e_kLpU, e_dwS, e_kDwB0, e_kDwC, f_II, f_LL, f_RR, f_IL, f_IR, f_LI, f_LR, f_RI, f_RL, o_iadd, o_isub, o_imul, o_iand, o_ior, o_ixor, o_ladd, o_lsub, o_lmul, o_land, o_lor, o_ishl, o_ishr, o_iushr, o_lshl, o_lcmp, o_i2l, o_l2i, o_i2b, o_i2s, o_lneg, o_imax, o_imin, o_idiv, o_irem, o_ldiv, o_lrem, r_lt, r_le, r_gt, r_ge, r_eq, r_ne, q_lt, q_le, q_gt, q_ge, q_eq, q_ne, decide_eq_true_eq, idI, and_true, true_and, and_false, false_and, or_true, true_or, or_false, false_or, not_true_eq_false, not_false_eq_true, if_true, if_false, ite_self, Bool.not_true, Bool.not_false, Bool.false_eq_true, Bool.true_eq_false, decide_true, decide_false, ne_eq, reduceIte, Nat.reduceEqDiff, Option.some.injEq, Prod.mk.injEq, eq_self, fa_lit, nI_add, pk_mul, nI_ltI, nI_leI, nI_eq, b01, b0, b1, x_hasBit, Nat.reduceLeDiff, Nat.reduceAdd, Nat.reduceMul, Nat.reduceSub, Nat.lt_irrefl, Nat.reduceLT, n_inb, nI_clamp, w_hr, w_hk, w_hl, w_eq, w_ne, wl_hr, wl_hk, wl_hi, wl_eq, wl_ne, hM.k, hM.k1, hM.k2, hM.k3, hM.k4, hM.k5, hM.k6, hM.k7, hM.k8, hM.k9, hM.k10, hM.k11, hM.k12, hM.k13, hM.k14, hM.k15, hM.k16, hM.k17, hM.k18, hM.k19, hM.k20, hM.k21, hM.k22, hM.k23, hM.k24, hM.k25, hM.k26, hM.k27, hM.k28, hM.k29, hM.k30, hM.k31, hM.k32, hM.k33, hM.k34, hM.k35, hM.r1, hM.r2, hM.r3, hM.r4, hM.r5, hM.r16, hM.r17, hM.r18, hM.r19, hM.r20, hM.r21, hM.r22, hM.r23, hM.r24, hM.r25, hM.r26, hM.r31, hM.r32, hM.r33, hM.r34, hM.r35, hM.r36, hM.r37, hM.r38, hM.r39, hM.r40, hM.r41, hM.r42, hM.r43, hM.r44, hM.r47, hM.r48, hM.r49, hM.r50, hM.r54, stI, fI, fZ, fL, stL, f_ss, f_sL, f_sR, lc0, lc1, lc01, hk, e1, z2, e2z, ed, em, m_sizeOf, ek, q, es]
                · have es : teN P k2 X k3 (k + 1) = teN P k2 X k3 k := if_neg (fun p => q p.2.2)
                  simp (disch := omega) only [ob_t, ob_n, ob_ite, e_cI, e_cL, e_cR, e_vI, e_vL, e_vR, e_d2, e_d2_a, e_d2_b, e_d2z, e_d2z_a, e_d2z_b, e_d1, e_d1_a, e_GI, e_GI_a, e_GL, e_GL_a, e_GR, e_GR_a, e_AI, e_AI_a, e_AI_b, e_AB, e_AB_a, e_AB_b, e_AZ, e_AZ_a, e_AZ_b, e_AL, e_AL_a, e_AL_b, e_AR, e_AR_a, e_AR_b, e_Len, e_Len_a, e_CI, e_CI_a, e_CI_b, e_CZ, e_CZ_a, e_And, e_kAnd, e_Or, e_kOr, e_Not, e_kNot, e_B, e_kB, e_T, e_kT, e_NN, e_kNN, e_NewA, e_NewA_a, e_NewC, e_kNewC, e_aN, e_aI, e_aI_a, e_aI_b, e_aL, e_aL_a, e_aL_b, e_aR, e_aR_a, e_aR_b, e_Call, e_kCall, e_CallV, e_kCallV, e_SetI, e_kSetI, e_SetL, e_kSetL, e_SetR, e_kSetR, e_Inc, e_Skip, e_Brk, e_Cnt, e_Ret, e_kRet, e_Ret0, e_Seq, e_kSeq0, e_kSeq1, e_kSeq2, e_kSeqR, e_If, e_kIf, e_Do, e_kDo, e_Sup, e_kN0, e_d3, e_k3a, e_k3b, e_k3c, e_P, e_kPa, e_kPb, e_UA, e_kUAa, e_kUAb, e_kUAc, e_UL, e_kULa, e_kULb, e_kULc, e_UF, e_kUFa, e_kUFb, e_Cp, e_kCp, e_Sw, e_kSwa, e_kSwb0, e_kSwb1, e_kSwbR, e_M1, e_kM1, e_MZ, e_kMZ, e_MN, e_kMN, e_Tv, e_kTv, e_Tc, e_kTc, e_lpS, e_kLp, e_kLpB0, e_kLpB1, e_kLpB2, e_kLpBR, e_kLpU, e_dwS, e_kDwB0, e_kDwC, f_II, f_LL, f_RR, f_IL, f_IR, f_LI, f_LR, f_RI, f_RL, o_iadd, o_isub, o_imul, o_iand, o_ior, o_ixor, o_ladd, o_lsub, o_lmul, o_land, o_lor, o_ishl, o_ishr, o_iushr, o_lshl, o_lcmp, o_i2l, o_l2i, o_i2b, o_i2s, o_lneg, o_imax, o_imin, o_idiv, o_irem, o_ldiv, o_lrem, r_lt, r_le, r_gt, r_ge, r_eq, r_ne, q_lt, q_le, q_gt, q_ge, q_eq, q_ne, decide_eq_true_eq, idI, and_true, true_and, and_false, false_and, or_true, true_or, or_false, false_or, not_true_eq_false, not_false_eq_true, if_true, if_false, ite_self, Bool.not_true, Bool.not_false, Bool.false_eq_true, Bool.true_eq_false, decide_true, decide_false, ne_eq, reduceIte, Nat.reduceEqDiff, Option.some.injEq, Prod.mk.injEq, eq_self, fa_lit, nI_add, pk_mul, nI_ltI, nI_leI, nI_eq, b01, b0, b1, x_hasBit, Nat.reduceLeDiff, Nat.reduceAdd, Nat.reduceMul, Nat.reduceSub, Nat.lt_irrefl, Nat.reduceLT, n_inb, nI_clamp, w_hr, w_hk, w_hl, w_eq, w_ne, wl_hr, wl_hk, wl_hi, wl_eq, wl_ne, hM.k, hM.k1, hM.k2, hM.k3, hM.k4, hM.k5, hM.k6, hM.k7, hM.k8, hM.k9, hM.k10, hM.k11, hM.k12, hM.k13, hM.k14, hM.k15, hM.k16, hM.k17, hM.k18, hM.k19, hM.k20, hM.k21, hM.k22, hM.k23, hM.k24, hM.k25, hM.k26, hM.k27, hM.k28, hM.k29, hM.k30, hM.k31, hM.k32, hM.k33, hM.k34, hM.k35, hM.r1, hM.r2, hM.r3, hM.r4, hM.r5, hM.r16, hM.r17, hM.r18, hM.r19, hM.r20, hM.r21, hM.r22, hM.r23, hM.r24, hM.r25, hM.r26, hM.r31, hM.r32, hM.r33, hM.r34, hM.r35, hM.r36, hM.r37, hM.r38, hM.r39, hM.r40, hM.r41, hM.r42, hM.r43, hM.r44, hM.r47, hM.r48, hM.r49, hM.r50, hM.r54, stI, fI, fZ, fL, stL, f_ss, f_sL, f_sR, lc0, lc1, lc01, hk, e1, z2, e2z, ed, em, m_sizeOf, ek, q, es]
              · have z2 : ¬ X.2.2 k - 1 ≤ k3 := by omega
                have es : teN P k2 X k3 (k + 1) = teN P k2 X k3 k := if_neg (fun q => zz q.2.1)
                simp (disch := omega) only [ob_t, ob_n, ob_ite, e_cI, e_cL, e_cR, e_vI, e_vL, e_vR, e_d2, e_d2_a, e_d2_b, e_d2z, e_d2z_a, e_d2z_b, e_d1, e_d1_a, e_GI, e_GI_a, e_GL, e_GL_a, e_GR, e_GR_a, e_AI, e_AI_a, e_AI_b, e_AB, e_AB_a, e_AB_b, e_AZ, e_AZ_a, e_AZ_b, e_AL, e_AL_a, e_AL_b, e_AR, e_AR_a, e_AR_b, e_Len, e_Len_a, e_CI, e_CI_a, e_CI_b, e_CZ, e_CZ_a, e_And, e_kAnd, e_Or, e_kOr, e_Not, e_kNot, e_B, e_kB, e_T, e_kT, e_NN, e_kNN, e_NewA, e_NewA_a, e_NewC, e_kNewC, e_aN, e_aI, e_aI_a, e_aI_b, e_aL, e_aL_a, e_aL_b, e_aR, e_aR_a, e_aR_b, e_Call, e_kCall, e_CallV, e_kCallV, e_SetI, e_kSetI, e_SetL, e_kSetL, e_SetR, e_kSetR, e_Inc, e_Skip, e_Brk, e_Cnt, e_Ret, e_kRet, e_Ret0, e_Seq, e_kSeq0, e_kSeq1, e_kSeq2, e_kSeqR, e_If, e_kIf, e_Do, e_kDo, e_Sup, e_kN0, e_d3, e_k3a, e_k3b, e_k3c, e_P, e_kPa, e_kPb, e_UA, e_kUAa, e_kUAb, e_kUAc, e_UL, e_kULa, e_kULb, e_kULc, e_UF, e_kUFa, e_kUFb, e_Cp, e_kCp, e_Sw, e_kSwa, e_kSwb0, e_kSwb1, e_kSwbR, e_M1, e_kM1, e_MZ, e_kMZ, e_MN, e_kMN, e_Tv, e_kTv, e_Tc, e_kTc, e_lpS, e_kLp, e_kLpB0, e_kLpB1, e_kLpB2, e_kLpBR, e_kLpU, e_dwS, e_kDwB0, e_kDwC, f_II, f_LL, f_RR, f_IL, f_IR, f_LI, f_LR, f_RI, f_RL, o_iadd, o_isub, o_imul, o_iand, o_ior, o_ixor, o_ladd, o_lsub, o_lmul, o_land, o_lor, o_ishl, o_ishr, o_iushr, o_lshl, o_lcmp, o_i2l, o_l2i, o_i2b, o_i2s, o_lneg, o_imax, o_imin, o_idiv, o_irem, o_ldiv, o_lrem, r_lt, r_le, r_gt, r_ge, r_eq, r_ne, q_lt, q_le, q_gt, q_ge, q_eq, q_ne, decide_eq_true_eq, idI, and_true, true_and, and_false, false_and, or_true, true_or, or_false, false_or, not_true_eq_false, not_false_eq_true, if_true, if_false, ite_self, Bool.not_true, Bool.not_false, Bool.false_eq_true, Bool.true_eq_false, decide_true, decide_false, ne_eq, reduceIte, Nat.reduceEqDiff, Option.some.injEq, Prod.mk.injEq, eq_self, fa_lit, nI_add, pk_mul, nI_ltI, nI_leI, nI_eq, b01, b0, b1, x_hasBit, Nat.reduceLeDiff, Nat.reduceAdd, Nat.reduceMul, Nat.reduceSub, Nat.lt_irrefl, Nat.reduceLT, n_inb, nI_clamp, w_hr, w_hk, w_hl, w_eq, w_ne, wl_hr, wl_hk, wl_hi, wl_eq, wl_ne, hM.k, hM.k1, hM.k2, hM.k3, hM.k4, hM.k5, hM.k6, hM.k7, hM.k8, hM.k9, hM.k10, hM.k11, hM.k12, hM.k13, hM.k14, hM.k15, hM.k16, hM.k17, hM.k18, hM.k19, hM.k20, hM.k21, hM.k22, hM.k23, hM.k24, hM.k25, hM.k26, hM.k27, hM.k28, hM.k29, hM.k30, hM.k31, hM.k32, hM.k33, hM.k34, hM.k35, hM.r1, hM.r2, hM.r3, hM.r4, hM.r5, hM.r16, hM.r17, hM.r18, hM.r19, hM.r20, hM.r21, hM.r22, hM.r23, hM.r24, hM.r25, hM.r26, hM.r31, hM.r32, hM.r33, hM.r34, hM.r35, hM.r36, hM.r37, hM.r38, hM.r39, hM.r40, hM.r41, hM.r42, hM.r43, hM.r44, hM.r47, hM.r48, hM.r49, hM.r50, hM.r54, stI, fI, fZ, fL, stL, f_ss, f_sL, f_sR, lc0, lc1, lc01, hk, e1, z2, es]
          · simp (disch := omega) only [ob_t, ob_n, ob_ite, e_cI, e_cL, e_cR, e_vI, e_vL, e_vR, e_d2, e_d2_a, e_d2_b, e_d2z, e_d2z_a, e_d2z_b, e_d1, e_d1_a, e_GI, e_GI_a, e_GL, e_GL_a, e_GR, e_GR_a, e_AI, e_AI_a, e_AI_b, e_AB, e_AB_a, e_AB_b, e_AZ, e_AZ_a, e_AZ_b, e_AL, e_AL_a, e_AL_b, e_AR, e_AR_a, e_AR_b, e_Len, e_Len_a, e_CI, e_CI_a, e_CI_b, e_CZ, e_CZ_a, e_And, e_kAnd, e_Or, e_kOr, e_Not, e_kNot, e_B, e_kB, e_T, e_kT, e_NN, e_kNN, e_NewA, e_NewA_a, e_NewC, e_kNewC, e_aN, e_aI, e_aI_a, e_aI_b, e_aL, e_aL_a, e_aL_b, e_aR, e_aR_a, e_aR_b, e_Call, e_kCall, e_CallV, e_kCallV, e_SetI, e_kSetI, e_SetL, e_kSetL, e_SetR, e_kSetR, e_Inc, e_Skip, e_Brk, e_Cnt, e_Ret, e_kRet, e_Ret0, e_Seq, e_kSeq0, e_kSeq1, e_kSeq2, e_kSeqR, e_If, e_kIf, e_Do, e_kDo, e_Sup, e_kN0, e_d3, e_k3a, e_k3b, e_k3c, e_P, e_kPa, e_kPb, e_UA, e_kUAa, e_kUAb, e_kUAc, e_UL, e_kULa, e_kULb, e_kULc, e_UF, e_kUFa, e_kUFb, e_Cp, e_kCp, e_Sw, e_kSwa, e_kSwb0, e_kSwb1, e_kSwbR, e_M1, e_kM1, e_MZ, e_kMZ, e_MN, e_kMN, e_Tv, e_kTv, e_Tc, e_kTc, e_lpS, e_kLp, e_kLpB0, e_kLpB1, e_kLpB2, e_kLpBR, e_kLpU, e_dwS, e_kDwB0, e_kDwC, f_II, f_LL, f_RR, f_IL, f_IR, f_LI, f_LR, f_RI, f_RL, o_iadd, o_isub, o_imul, o_iand, o_ior, o_ixor, o_ladd, o_lsub, o_lmul, o_land, o_lor, o_ishl, o_ishr, o_iushr, o_lshl, o_lcmp, o_i2l, o_l2i, o_i2b, o_i2s, o_lneg, o_imax, o_imin, o_idiv, o_irem, o_ldiv, o_lrem, r_lt, r_le, r_gt, r_ge, r_eq, r_ne, q_lt, q_le, q_gt, q_ge, q_eq, q_ne, decide_eq_true_eq, idI, and_true, true_and, and_false, false_and, or_true, true_or, or_false, false_or, not_true_eq_false, not_false_eq_true, if_true, if_false, ite_self, Bool.not_true, Bool.not_false, Bool.false_eq_true, Bool.true_eq_false, decide_true, decide_false, ne_eq, reduceIte, Nat.reduceEqDiff, Option.some.injEq, Prod.mk.injEq, eq_self, fa_lit, nI_add, pk_mul, nI_ltI, nI_leI, nI_eq, b01, b0, b1, x_hasBit, Nat.reduceLeDiff, Nat.reduceAdd, Nat.reduceMul, Nat.reduceSub, Nat.lt_irrefl, Nat.reduceLT, n_inb, nI_clamp, w_hr, w_hk, w_hl, w_eq, w_ne, wl_hr, wl_hk, wl_hi, wl_eq, wl_ne, hM.k, hM.k1, hM.k2, hM.k3, hM.k4, hM.k5, hM.k6, hM.k7, hM.k8, hM.k9, hM.k10, hM.k11, hM.k12, hM.k13, hM.k14, hM.k15, hM.k16, hM.k17, hM.k18, hM.k19, hM.k20, hM.k21, hM.k22, hM.k23, hM.k24, hM.k25, hM.k26, hM.k27, hM.k28, hM.k29, hM.k30, hM.k31, hM.k32, hM.k33, hM.k34, hM.k35, hM.r1, hM.r2, hM.r3, hM.r4, hM.r5, hM.r16, hM.r17, hM.r18, hM.r19, hM.r20, hM.r21, hM.r22, hM.r23, hM.r24, hM.r25, hM.r26, hM.r31, hM.r32, hM.r33, hM.r34, hM.r35, hM.r36, hM.r37, hM.r38, hM.r39, hM.r40, hM.r41, hM.r42, hM.r43, hM.r44, hM.r47, hM.r48, hM.r49, hM.r50, hM.r54, stI, fI, fZ, fL, stL, f_ss, f_sL, f_sR, lc0, lc1, lc01, Nat.reduceAdd]
        rw [hte] at L2
        have hk3' : ¬ nI k3 < nI 0 := nI_nlt (Nat.zero_le _) (by omega)
        have hk8 : ¬ nI 8 ≤ nI k3 := nI_ge hk3 (by decide)
        refine ⟨nI (kwE P k2 (mhM mh (k3 + 1))), g, g2, P, ?_, ?_, H2⟩
        · simp (disch := omega) only [ob_t, ob_n, ob_ite, e_cI, e_cL, e_cR, e_vI, e_vL, e_vR, e_d2, e_d2_a, e_d2_b, e_d2z, e_d2z_a, e_d2z_b, e_d1, e_d1_a, e_GI, e_GI_a, e_GL, e_GL_a, e_GR, e_GR_a, e_AI, e_AI_a, e_AI_b, e_AB, e_AB_a, e_AB_b, e_AZ, e_AZ_a, e_AZ_b, e_AL, e_AL_a, e_AL_b, e_AR, e_AR_a, e_AR_b, e_Len, e_Len_a, e_CI, e_CI_a, e_CI_b, e_CZ, e_CZ_a, e_And, e_kAnd, e_Or, e_kOr, e_Not, e_kNot, e_B, e_kB, e_T, e_kT, e_NN, e_kNN, e_NewA, e_NewA_a, e_NewC, e_kNewC, e_aN, e_aI, e_aI_a, e_aI_b, e_aL, e_aL_a, e_aL_b, e_aR, e_aR_a, e_aR_b, e_Call, e_kCall, e_CallV, e_kCallV, e_SetI, e_kSetI, e_SetL, e_kSetL, e_SetR, e_kSetR, e_Inc, e_Skip, e_Brk, e_Cnt, e_Ret, e_kRet, e_Ret0, e_Seq, e_kSeq0, e_kSeq1, e_kSeq2, e_kSeqR, e_If, e_kIf, e_Do, e_kDo, e_Sup, e_kN0, e_d3, e_k3a, e_k3b, e_k3c, e_P, e_kPa, e_kPb, e_UA, e_kUAa, e_kUAb, e_kUAc, e_UL, e_kULa, e_kULb, e_kULc, e_UF, e_kUFa, e_kUFb, e_Cp, e_kCp, e_Sw, e_kSwa, e_kSwb0, e_kSwb1, e_kSwbR, e_M1, e_kM1, e_MZ, e_kMZ, e_MN, e_kMN, e_Tv, e_kTv, e_Tc, e_kTc, e_lpS, e_kLp, e_kLpB0, e_kLpB1, e_kLpB2, e_kLpBR, e_kLpU, e_dwS, e_kDwB0, e_kDwC, f_II, f_LL, f_RR, f_IL, f_IR, f_LI, f_LR, f_RI, f_RL, o_iadd, o_isub, o_imul, o_iand, o_ior, o_ixor, o_ladd, o_lsub, o_lmul, o_land, o_lor, o_ishl, o_ishr, o_iushr, o_lshl, o_lcmp, o_i2l, o_l2i, o_i2b, o_i2s, o_lneg, o_imax, o_imin, o_idiv, o_irem, o_ldiv, o_lrem, r_lt, r_le, r_gt, r_ge, r_eq, r_ne, q_lt, q_le, q_gt, q_ge, q_eq, q_ne, decide_eq_true_eq, idI, and_true, true_and, and_false, false_and, or_true, true_or, or_false, false_or, not_true_eq_false, not_false_eq_true, if_true, if_false, ite_self, Bool.not_true, Bool.not_false, Bool.false_eq_true, Bool.true_eq_false, decide_true, decide_false, ne_eq, reduceIte, Nat.reduceEqDiff, Option.some.injEq, Prod.mk.injEq, eq_self, fa_lit, nI_add, pk_mul, nI_ltI, nI_leI, nI_eq, b01, b0, b1, x_hasBit, Nat.reduceLeDiff, Nat.reduceAdd, Nat.reduceMul, Nat.reduceSub, Nat.lt_irrefl, Nat.reduceLT, hO.koX, hO.k32, hO.k33, hO.k34, hO.k67, hO.k68, hO.k69, hO.k70, hO.k71, hO.k100, hO.k101, hO.k115, hO.k116, hO.k117, hO.k118, hO.k119, hO.k120, hO.k121, hO.roX_0, hO.roX_1, hO.roX_2, hO.roX_3, hO.roX_4, hO.roX_5, hO.roX_6, hO.roX_7, hO.roX_8, hO.roX_9, hO.roX_10, hO.roX_11, hO.roX_12, hO.roX_13, hO.r32_0, hO.r68_0, hO.r68_1, hO.r68_2, hO.r100_0, hO.r115_2, hO.r115_3, hO.r118_1, hP.k, hP.k9, hP.r8, hP.r9, hP.r10, hP.r11, hP.r12, hP.r13, hP.r14, hP.r15, hP.r16, hP.c3, hP.c4, hP.c5, hP.c6, hP.c7, hP.c8, n_inb, nI_clamp, w_hr, w_hk, w_hl, w_eq, w_ne, wl_hr, wl_hk, wl_hi, wl_eq, wl_ne, f_ss, f_sR, f_sL, lc0, lc1, lc01, DX11_tells, BX11_tells, c1, hk3', hk8, e5, a1, hrA, hkA, hA.k, kA0, emh]
        · simp (disch := omega) only [ob_t, ob_n, ob_ite, e_cI, e_cL, e_cR, e_vI, e_vL, e_vR, e_d2, e_d2_a, e_d2_b, e_d2z, e_d2z_a, e_d2z_b, e_d1, e_d1_a, e_GI, e_GI_a, e_GL, e_GL_a, e_GR, e_GR_a, e_AI, e_AI_a, e_AI_b, e_AB, e_AB_a, e_AB_b, e_AZ, e_AZ_a, e_AZ_b, e_AL, e_AL_a, e_AL_b, e_AR, e_AR_a, e_AR_b, e_Len, e_Len_a, e_CI, e_CI_a, e_CI_b, e_CZ, e_CZ_a, e_And, e_kAnd, e_Or, e_kOr, e_Not, e_kNot, e_B, e_kB, e_T, e_kT, e_NN, e_kNN, e_NewA, e_NewA_a, e_NewC, e_kNewC, e_aN, e_aI, e_aI_a, e_aI_b, e_aL, e_aL_a, e_aL_b, e_aR, e_aR_a, e_aR_b, e_Call, e_kCall, e_CallV, e_kCallV, e_SetI, e_kSetI, e_SetL, e_kSetL, e_SetR, e_kSetR, e_Inc, e_Skip, e_Brk, e_Cnt, e_Ret, e_kRet, e_Ret0, e_Seq, e_kSeq0, e_kSeq1, e_kSeq2, e_kSeqR, e_If, e_kIf, e_Do, e_kDo, e_Sup, e_kN0, e_d3, e_k3a, e_k3b, e_k3c, e_P, e_kPa, e_kPb, e_UA, e_kUAa, e_kUAb, e_kUAc, e_UL, e_kULa, e_kULb, e_kULc, e_UF, e_kUFa, e_kUFb, e_Cp, e_kCp, e_Sw, e_kSwa, e_kSwb0, e_kSwb1, e_kSwbR, e_M1, e_kM1, e_MZ, e_kMZ, e_MN, e_kMN, e_Tv, e_kTv, e_Tc, e_kTc, e_lpS, e_kLp, e_kLpB0, e_kLpB1, e_kLpB2, e_kLpBR, e_kLpU, e_dwS, e_kDwB0, e_kDwC, f_II, f_LL, f_RR, f_IL, f_IR, f_LI, f_LR, f_RI, f_RL, o_iadd, o_isub, o_imul, o_iand, o_ior, o_ixor, o_ladd, o_lsub, o_lmul, o_land, o_lor, o_ishl, o_ishr, o_iushr, o_lshl, o_lcmp, o_i2l, o_l2i, o_i2b, o_i2s, o_lneg, o_imax, o_imin, o_idiv, o_irem, o_ldiv, o_lrem, r_lt, r_le, r_gt, r_ge, r_eq, r_ne, q_lt, q_le, q_gt, q_ge, q_eq, q_ne, decide_eq_true_eq, idI, and_true, true_and, and_false, false_and, or_true, true_or, or_false, false_or, not_true_eq_false, not_false_eq_true, if_true, if_false, ite_self, Bool.not_true, Bool.not_false, Bool.false_eq_true, Bool.true_eq_false, decide_true, decide_false, ne_eq, reduceIte, Nat.reduceEqDiff, Option.some.injEq, Prod.mk.injEq, eq_self, fa_lit, nI_add, pk_mul, nI_ltI, nI_leI, nI_eq, b01, b0, b1, x_hasBit, Nat.reduceLeDiff, Nat.reduceAdd, Nat.reduceMul, Nat.reduceSub, Nat.lt_irrefl, Nat.reduceLT, n_inb, nI_clamp, w_hr, w_hk, w_hl, w_eq, w_ne, wl_hr, wl_hk, wl_hi, wl_eq, wl_ne, hM.k, hM.k1, hM.k2, hM.k3, hM.k4, hM.k5, hM.k6, hM.k7, hM.k8, hM.k9, hM.k10, hM.k11, hM.k12, hM.k13, hM.k14, hM.k15, hM.k16, hM.k17, hM.k18, hM.k19, hM.k20, hM.k21, hM.k22, hM.k23, hM.k24, hM.k25, hM.k26, hM.k27, hM.k28, hM.k29, hM.k30, hM.k31, hM.k32, hM.k33, hM.k34, hM.k35, hM.r1, hM.r2, hM.r3, hM.r4, hM.r5, hM.r16, hM.r17, hM.r18, hM.r19, hM.r20, hM.r21, hM.r22, hM.r23, hM.r24, hM.r25, hM.r26, hM.r31, hM.r32, hM.r33, hM.r34, hM.r35, hM.r36, hM.r37, hM.r38, hM.r39, hM.r40, hM.r41, hM.r42, hM.r43, hM.r44, hM.r47, hM.r48, hM.r49, hM.r50, hM.r54, stI, fI, fZ, fL, stL, f_ss, f_sL, f_sR, lc0, lc1, lc01, DX12_tells, BX12_tells, fa_litL, o_i2l, m1, m2, m3, m5, a2, hrB, hkB, L2]
      · have m1 := m_isCarrier H.thr.mg (nI k1)
        have m2 := m_isSlate H.thr.mg (nI k2)
        have m3 := m_in0 (wI h oM 0 (nI 0)) w (n := 7) (by decide)
        refine op_no (r := -nI 2) H ?_ ?_
        · by_cases y : nI 0 ≤ w
          · have y1 : ¬ w < nI 0 := Int32.not_lt.mpr y
            have y2 : nI 8 ≤ w := Int32.not_lt.mp (fun q => z3 ⟨y, q⟩)
            simp (disch := omega) only [ob_t, ob_n, ob_ite, e_cI, e_cL, e_cR, e_vI, e_vL, e_vR, e_d2, e_d2_a, e_d2_b, e_d2z, e_d2z_a, e_d2z_b, e_d1, e_d1_a, e_GI, e_GI_a, e_GL, e_GL_a, e_GR, e_GR_a, e_AI, e_AI_a, e_AI_b, e_AB, e_AB_a, e_AB_b, e_AZ, e_AZ_a, e_AZ_b, e_AL, e_AL_a, e_AL_b, e_AR, e_AR_a, e_AR_b, e_Len, e_Len_a, e_CI, e_CI_a, e_CI_b, e_CZ, e_CZ_a, e_And, e_kAnd, e_Or, e_kOr, e_Not, e_kNot, e_B, e_kB, e_T, e_kT, e_NN, e_kNN, e_NewA, e_NewA_a, e_NewC, e_kNewC, e_aN, e_aI, e_aI_a, e_aI_b, e_aL, e_aL_a, e_aL_b, e_aR, e_aR_a, e_aR_b, e_Call, e_kCall, e_CallV, e_kCallV, e_SetI, e_kSetI, e_SetL, e_kSetL, e_SetR, e_kSetR, e_Inc, e_Skip, e_Brk, e_Cnt, e_Ret, e_kRet, e_Ret0, e_Seq, e_kSeq0, e_kSeq1, e_kSeq2, e_kSeqR, e_If, e_kIf, e_Do, e_kDo, e_Sup, e_kN0, e_d3, e_k3a, e_k3b, e_k3c, e_P, e_kPa, e_kPb, e_UA, e_kUAa, e_kUAb, e_kUAc, e_UL, e_kULa, e_kULb, e_kULc, e_UF, e_kUFa, e_kUFb, e_Cp, e_kCp, e_Sw, e_kSwa, e_kSwb0, e_kSwb1, e_kSwbR, e_M1, e_kM1, e_MZ, e_kMZ, e_MN, e_kMN, e_Tv, e_kTv, e_Tc, e_kTc, e_lpS, e_kLp, e_kLpB0, e_kLpB1, e_kLpB2, e_kLpBR, e_kLpU, e_dwS, e_kDwB0, e_kDwC, f_II, f_LL, f_RR, f_IL, f_IR, f_LI, f_LR, f_RI, f_RL, o_iadd, o_isub, o_imul, o_iand, o_ior, o_ixor, o_ladd, o_lsub, o_lmul, o_land, o_lor, o_ishl, o_ishr, o_iushr, o_lshl, o_lcmp, o_i2l, o_l2i, o_i2b, o_i2s, o_lneg, o_imax, o_imin, o_idiv, o_irem, o_ldiv, o_lrem, r_lt, r_le, r_gt, r_ge, r_eq, r_ne, q_lt, q_le, q_gt, q_ge, q_eq, q_ne, decide_eq_true_eq, idI, and_true, true_and, and_false, false_and, or_true, true_or, or_false, false_or, not_true_eq_false, not_false_eq_true, if_true, if_false, ite_self, Bool.not_true, Bool.not_false, Bool.false_eq_true, Bool.true_eq_false, decide_true, decide_false, ne_eq, reduceIte, Nat.reduceEqDiff, Option.some.injEq, Prod.mk.injEq, eq_self, fa_lit, nI_add, pk_mul, nI_ltI, nI_leI, nI_eq, b01, b0, b1, x_hasBit, Nat.reduceLeDiff, Nat.reduceAdd, Nat.reduceMul, Nat.reduceSub, Nat.lt_irrefl, Nat.reduceLT, hO.koX, hO.k32, hO.k33, hO.k34, hO.k67, hO.k68, hO.k69, hO.k70, hO.k71, hO.k100, hO.k101, hO.k115, hO.k116, hO.k117, hO.k118, hO.k119, hO.k120, hO.k121, hO.roX_0, hO.roX_1, hO.roX_2, hO.roX_3, hO.roX_4, hO.roX_5, hO.roX_6, hO.roX_7, hO.roX_8, hO.roX_9, hO.roX_10, hO.roX_11, hO.roX_12, hO.roX_13, hO.r32_0, hO.r68_0, hO.r68_1, hO.r68_2, hO.r100_0, hO.r115_2, hO.r115_3, hO.r118_1, hP.k, hP.k9, hP.r8, hP.r9, hP.r10, hP.r11, hP.r12, hP.r13, hP.r14, hP.r15, hP.r16, hP.c3, hP.c4, hP.c5, hP.c6, hP.c7, hP.c8, n_inb, nI_clamp, w_hr, w_hk, w_hl, w_eq, w_ne, wl_hr, wl_hk, wl_hi, wl_eq, wl_ne, f_ss, f_sR, f_sL, lc0, lc1, lc01, DX11_tells, BX11_tells, c1, hk1, hk2, Nat.zero_le, fa_litL, o_i2l, y1, y2]
          · have y1 : w < nI 0 := Int32.not_le.mp y
            simp (disch := omega) only [ob_t, ob_n, ob_ite, e_cI, e_cL, e_cR, e_vI, e_vL, e_vR, e_d2, e_d2_a, e_d2_b, e_d2z, e_d2z_a, e_d2z_b, e_d1, e_d1_a, e_GI, e_GI_a, e_GL, e_GL_a, e_GR, e_GR_a, e_AI, e_AI_a, e_AI_b, e_AB, e_AB_a, e_AB_b, e_AZ, e_AZ_a, e_AZ_b, e_AL, e_AL_a, e_AL_b, e_AR, e_AR_a, e_AR_b, e_Len, e_Len_a, e_CI, e_CI_a, e_CI_b, e_CZ, e_CZ_a, e_And, e_kAnd, e_Or, e_kOr, e_Not, e_kNot, e_B, e_kB, e_T, e_kT, e_NN, e_kNN, e_NewA, e_NewA_a, e_NewC, e_kNewC, e_aN, e_aI, e_aI_a, e_aI_b, e_aL, e_aL_a, e_aL_b, e_aR, e_aR_a, e_aR_b, e_Call, e_kCall, e_CallV, e_kCallV, e_SetI, e_kSetI, e_SetL, e_kSetL, e_SetR, e_kSetR, e_Inc, e_Skip, e_Brk, e_Cnt, e_Ret, e_kRet, e_Ret0, e_Seq, e_kSeq0, e_kSeq1, e_kSeq2, e_kSeqR, e_If, e_kIf, e_Do, e_kDo, e_Sup, e_kN0, e_d3, e_k3a, e_k3b, e_k3c, e_P, e_kPa, e_kPb, e_UA, e_kUAa, e_kUAb, e_kUAc, e_UL, e_kULa, e_kULb, e_kULc, e_UF, e_kUFa, e_kUFb, e_Cp, e_kCp, e_Sw, e_kSwa, e_kSwb0, e_kSwb1, e_kSwbR, e_M1, e_kM1, e_MZ, e_kMZ, e_MN, e_kMN, e_Tv, e_kTv, e_Tc, e_kTc, e_lpS, e_kLp, e_kLpB0, e_kLpB1, e_kLpB2, e_kLpBR, e_kLpU, e_dwS, e_kDwB0, e_kDwC, f_II, f_LL, f_RR, f_IL, f_IR, f_LI, f_LR, f_RI, f_RL, o_iadd, o_isub, o_imul, o_iand, o_ior, o_ixor, o_ladd, o_lsub, o_lmul, o_land, o_lor, o_ishl, o_ishr, o_iushr, o_lshl, o_lcmp, o_i2l, o_l2i, o_i2b, o_i2s, o_lneg, o_imax, o_imin, o_idiv, o_irem, o_ldiv, o_lrem, r_lt, r_le, r_gt, r_ge, r_eq, r_ne, q_lt, q_le, q_gt, q_ge, q_eq, q_ne, decide_eq_true_eq, idI, and_true, true_and, and_false, false_and, or_true, true_or, or_false, false_or, not_true_eq_false, not_false_eq_true, if_true, if_false, ite_self, Bool.not_true, Bool.not_false, Bool.false_eq_true, Bool.true_eq_false, decide_true, decide_false, ne_eq, reduceIte, Nat.reduceEqDiff, Option.some.injEq, Prod.mk.injEq, eq_self, fa_lit, nI_add, pk_mul, nI_ltI, nI_leI, nI_eq, b01, b0, b1, x_hasBit, Nat.reduceLeDiff, Nat.reduceAdd, Nat.reduceMul, Nat.reduceSub, Nat.lt_irrefl, Nat.reduceLT, hO.koX, hO.k32, hO.k33, hO.k34, hO.k67, hO.k68, hO.k69, hO.k70, hO.k71, hO.k100, hO.k101, hO.k115, hO.k116, hO.k117, hO.k118, hO.k119, hO.k120, hO.k121, hO.roX_0, hO.roX_1, hO.roX_2, hO.roX_3, hO.roX_4, hO.roX_5, hO.roX_6, hO.roX_7, hO.roX_8, hO.roX_9, hO.roX_10, hO.roX_11, hO.roX_12, hO.roX_13, hO.r32_0, hO.r68_0, hO.r68_1, hO.r68_2, hO.r100_0, hO.r115_2, hO.r115_3, hO.r118_1, hP.k, hP.k9, hP.r8, hP.r9, hP.r10, hP.r11, hP.r12, hP.r13, hP.r14, hP.r15, hP.r16, hP.c3, hP.c4, hP.c5, hP.c6, hP.c7, hP.c8, n_inb, nI_clamp, w_hr, w_hk, w_hl, w_eq, w_ne, wl_hr, wl_hk, wl_hi, wl_eq, wl_ne, f_ss, f_sR, f_sL, lc0, lc1, lc01, DX11_tells, BX11_tells, c1, hk1, hk2, Nat.zero_le, fa_litL, o_i2l, y1]
        · simp (disch := omega) only [ob_t, ob_n, ob_ite, e_cI, e_cL, e_cR, e_vI, e_vL, e_vR, e_d2, e_d2_a, e_d2_b, e_d2z, e_d2z_a, e_d2z_b, e_d1, e_d1_a, e_GI, e_GI_a, e_GL, e_GL_a, e_GR, e_GR_a, e_AI, e_AI_a, e_AI_b, e_AB, e_AB_a, e_AB_b, e_AZ, e_AZ_a, e_AZ_b, e_AL, e_AL_a, e_AL_b, e_AR, e_AR_a, e_AR_b, e_Len, e_Len_a, e_CI, e_CI_a, e_CI_b, e_CZ, e_CZ_a, e_And, e_kAnd, e_Or, e_kOr, e_Not, e_kNot, e_B, e_kB, e_T, e_kT, e_NN, e_kNN, e_NewA, e_NewA_a, e_NewC, e_kNewC, e_aN, e_aI, e_aI_a, e_aI_b, e_aL, e_aL_a, e_aL_b, e_aR, e_aR_a, e_aR_b, e_Call, e_kCall, e_CallV, e_kCallV, e_SetI, e_kSetI, e_SetL, e_kSetL, e_SetR, e_kSetR, e_Inc, e_Skip, e_Brk, e_Cnt, e_Ret, e_kRet, e_Ret0, e_Seq, e_kSeq0, e_kSeq1, e_kSeq2, e_kSeqR, e_If, e_kIf, e_Do, e_kDo, e_Sup, e_kN0, e_d3, e_k3a, e_k3b, e_k3c, e_P, e_kPa, e_kPb, e_UA, e_kUAa, e_kUAb, e_kUAc, e_UL, e_kULa, e_kULb, e_kULc, e_UF, e_kUFa, e_kUFb, e_Cp, e_kCp, e_Sw, e_kSwa, e_kSwb0, e_kSwb1, e_kSwbR, e_M1, e_kM1, e_MZ, e_kMZ, e_MN, e_kMN, e_Tv, e_kTv, e_Tc, e_kTc, e_lpS, e_kLp, e_kLpB0, e_kLpB1, e_kLpB2, e_kLpBR, e_kLpU, e_dwS, e_kDwB0, e_kDwC, f_II, f_LL, f_RR, f_IL, f_IR, f_LI, f_LR, f_RI, f_RL, o_iadd, o_isub, o_imul, o_iand, o_ior, o_ixor, o_ladd, o_lsub, o_lmul, o_land, o_lor, o_ishl, o_ishr, o_iushr, o_lshl, o_lcmp, o_i2l, o_l2i, o_i2b, o_i2s, o_lneg, o_imax, o_imin, o_idiv, o_irem, o_ldiv, o_lrem, r_lt, r_le, r_gt, r_ge, r_eq, r_ne, q_lt, q_le, q_gt, q_ge, q_eq, q_ne, decide_eq_true_eq, idI, and_true, true_and, and_false, false_and, or_true, true_or, or_false, false_or, not_true_eq_false, not_false_eq_true, if_true, if_false, ite_self, Bool.not_true, Bool.not_false, Bool.false_eq_true, Bool.true_eq_false, decide_true, decide_false, ne_eq, reduceIte, Nat.reduceEqDiff, Option.some.injEq, Prod.mk.injEq, eq_self, fa_lit, nI_add, pk_mul, nI_ltI, nI_leI, nI_eq, b01, b0, b1, x_hasBit, Nat.reduceLeDiff, Nat.reduceAdd, Nat.reduceMul, Nat.reduceSub, Nat.lt_irrefl, Nat.reduceLT, n_inb, nI_clamp, w_hr, w_hk, w_hl, w_eq, w_ne, wl_hr, wl_hk, wl_hi, wl_eq, wl_ne, hM.k, hM.k1, hM.k2, hM.k3, hM.k4, hM.k5, hM.k6, hM.k7, hM.k8, hM.k9, hM.k10, hM.k11, hM.k12, hM.k13, hM.k14, hM.k15, hM.k16, hM.k17, hM.k18, hM.k19, hM.k20, hM.k21, hM.k22, hM.k23, hM.k24, hM.k25, hM.k26, hM.k27, hM.k28, hM.k29, hM.k30, hM.k31, hM.k32, hM.k33, hM.k34, hM.k35, hM.r1, hM.r2, hM.r3, hM.r4, hM.r5, hM.r16, hM.r17, hM.r18, hM.r19, hM.r20, hM.r21, hM.r22, hM.r23, hM.r24, hM.r25, hM.r26, hM.r31, hM.r32, hM.r33, hM.r34, hM.r35, hM.r36, hM.r37, hM.r38, hM.r39, hM.r40, hM.r41, hM.r42, hM.r43, hM.r44, hM.r47, hM.r48, hM.r49, hM.r50, hM.r54, stI, fI, fZ, fL, stL, f_ss, f_sL, f_sR, lc0, lc1, lc01, DX12_tells, BX12_tells, m1, m2, m3, z3, hk1, hk2, Nat.zero_le, fa_litL, o_i2l]
    · have m1 := m_isCarrier H.thr.mg (nI k1)
      have m2 := m_isSlate H.thr.mg v
      have m3 := m_in0 (wI h oM 0 (nI 0)) w (n := 7) (by decide)
      refine op_no (r := -nI 2) H ?_ ?_
      · simp (disch := omega) only [ob_t, ob_n, ob_ite, e_cI, e_cL, e_cR, e_vI, e_vL, e_vR, e_d2, e_d2_a, e_d2_b, e_d2z, e_d2z_a, e_d2z_b, e_d1, e_d1_a, e_GI, e_GI_a, e_GL, e_GL_a, e_GR, e_GR_a, e_AI, e_AI_a, e_AI_b, e_AB, e_AB_a, e_AB_b, e_AZ, e_AZ_a, e_AZ_b, e_AL, e_AL_a, e_AL_b, e_AR, e_AR_a, e_AR_b, e_Len, e_Len_a, e_CI, e_CI_a, e_CI_b, e_CZ, e_CZ_a, e_And, e_kAnd, e_Or, e_kOr, e_Not, e_kNot, e_B, e_kB, e_T, e_kT, e_NN, e_kNN, e_NewA, e_NewA_a, e_NewC, e_kNewC, e_aN, e_aI, e_aI_a, e_aI_b, e_aL, e_aL_a, e_aL_b, e_aR, e_aR_a, e_aR_b, e_Call, e_kCall, e_CallV, e_kCallV, e_SetI, e_kSetI, e_SetL, e_kSetL, e_SetR, e_kSetR, e_Inc, e_Skip, e_Brk, e_Cnt, e_Ret, e_kRet, e_Ret0, e_Seq, e_kSeq0, e_kSeq1, e_kSeq2, e_kSeqR, e_If, e_kIf, e_Do, e_kDo, e_Sup, e_kN0, e_d3, e_k3a, e_k3b, e_k3c, e_P, e_kPa, e_kPb, e_UA, e_kUAa, e_kUAb, e_kUAc, e_UL, e_kULa, e_kULb, e_kULc, e_UF, e_kUFa, e_kUFb, e_Cp, e_kCp, e_Sw, e_kSwa, e_kSwb0, e_kSwb1, e_kSwbR, e_M1, e_kM1, e_MZ, e_kMZ, e_MN, e_kMN, e_Tv, e_kTv, e_Tc, e_kTc, e_lpS, e_kLp, e_kLpB0, e_kLpB1, e_kLpB2, e_kLpBR, e_kLpU, e_dwS, e_kDwB0, e_kDwC, f_II, f_LL, f_RR, f_IL, f_IR, f_LI, f_LR, f_RI, f_RL, o_iadd, o_isub, o_imul, o_iand, o_ior, o_ixor, o_ladd, o_lsub, o_lmul, o_land, o_lor, o_ishl, o_ishr, o_iushr, o_lshl, o_lcmp, o_i2l, o_l2i, o_i2b, o_i2s, o_lneg, o_imax, o_imin, o_idiv, o_irem, o_ldiv, o_lrem, r_lt, r_le, r_gt, r_ge, r_eq, r_ne, q_lt, q_le, q_gt, q_ge, q_eq, q_ne, decide_eq_true_eq, idI, and_true, true_and, and_false, false_and, or_true, true_or, or_false, false_or, not_true_eq_false, not_false_eq_true, if_true, if_false, ite_self, Bool.not_true, Bool.not_false, Bool.false_eq_true, Bool.true_eq_false, decide_true, decide_false, ne_eq, reduceIte, Nat.reduceEqDiff, Option.some.injEq, Prod.mk.injEq, eq_self, fa_lit, nI_add, pk_mul, nI_ltI, nI_leI, nI_eq, b01, b0, b1, x_hasBit, Nat.reduceLeDiff, Nat.reduceAdd, Nat.reduceMul, Nat.reduceSub, Nat.lt_irrefl, Nat.reduceLT, hO.koX, hO.k32, hO.k33, hO.k34, hO.k67, hO.k68, hO.k69, hO.k70, hO.k71, hO.k100, hO.k101, hO.k115, hO.k116, hO.k117, hO.k118, hO.k119, hO.k120, hO.k121, hO.roX_0, hO.roX_1, hO.roX_2, hO.roX_3, hO.roX_4, hO.roX_5, hO.roX_6, hO.roX_7, hO.roX_8, hO.roX_9, hO.roX_10, hO.roX_11, hO.roX_12, hO.roX_13, hO.r32_0, hO.r68_0, hO.r68_1, hO.r68_2, hO.r100_0, hO.r115_2, hO.r115_3, hO.r118_1, hP.k, hP.k9, hP.r8, hP.r9, hP.r10, hP.r11, hP.r12, hP.r13, hP.r14, hP.r15, hP.r16, hP.c3, hP.c4, hP.c5, hP.c6, hP.c7, hP.c8, n_inb, nI_clamp, w_hr, w_hk, w_hl, w_eq, w_ne, wl_hr, wl_hk, wl_hi, wl_eq, wl_ne, f_ss, f_sR, f_sL, lc0, lc1, lc01, DX11_tells, BX11_tells, c1, z2, hk1, Nat.zero_le, fa_litL, o_i2l]
      · simp (disch := omega) only [ob_t, ob_n, ob_ite, e_cI, e_cL, e_cR, e_vI, e_vL, e_vR, e_d2, e_d2_a, e_d2_b, e_d2z, e_d2z_a, e_d2z_b, e_d1, e_d1_a, e_GI, e_GI_a, e_GL, e_GL_a, e_GR, e_GR_a, e_AI, e_AI_a, e_AI_b, e_AB, e_AB_a, e_AB_b, e_AZ, e_AZ_a, e_AZ_b, e_AL, e_AL_a, e_AL_b, e_AR, e_AR_a, e_AR_b, e_Len, e_Len_a, e_CI, e_CI_a, e_CI_b, e_CZ, e_CZ_a, e_And, e_kAnd, e_Or, e_kOr, e_Not, e_kNot, e_B, e_kB, e_T, e_kT, e_NN, e_kNN, e_NewA, e_NewA_a, e_NewC, e_kNewC, e_aN, e_aI, e_aI_a, e_aI_b, e_aL, e_aL_a, e_aL_b, e_aR, e_aR_a, e_aR_b, e_Call, e_kCall, e_CallV, e_kCallV, e_SetI, e_kSetI, e_SetL, e_kSetL, e_SetR, e_kSetR, e_Inc, e_Skip, e_Brk, e_Cnt, e_Ret, e_kRet, e_Ret0, e_Seq, e_kSeq0, e_kSeq1, e_kSeq2, e_kSeqR, e_If, e_kIf, e_Do, e_kDo, e_Sup, e_kN0, e_d3, e_k3a, e_k3b, e_k3c, e_P, e_kPa, e_kPb, e_UA, e_kUAa, e_kUAb, e_kUAc, e_UL, e_kULa, e_kULb, e_kULc, e_UF, e_kUFa, e_kUFb, e_Cp, e_kCp, e_Sw, e_kSwa, e_kSwb0, e_kSwb1, e_kSwbR, e_M1, e_kM1, e_MZ, e_kMZ, e_MN, e_kMN, e_Tv, e_kTv, e_Tc, e_kTc, e_lpS, e_kLp, e_kLpB0, e_kLpB1, e_kLpB2, e_kLpBR, e_kLpU, e_dwS, e_kDwB0, e_kDwC, f_II, f_LL, f_RR, f_IL, f_IR, f_LI, f_LR, f_RI, f_RL, o_iadd, o_isub, o_imul, o_iand, o_ior, o_ixor, o_ladd, o_lsub, o_lmul, o_land, o_lor, o_ishl, o_ishr, o_iushr, o_lshl, o_lcmp, o_i2l, o_l2i, o_i2b, o_i2s, o_lneg, o_imax, o_imin, o_idiv, o_irem, o_ldiv, o_lrem, r_lt, r_le, r_gt, r_ge, r_eq, r_ne, q_lt, q_le, q_gt, q_ge, q_eq, q_ne, decide_eq_true_eq, idI, and_true, true_and, and_false, false_and, or_true, true_or, or_false, false_or, not_true_eq_false, not_false_eq_true, if_true, if_false, ite_self, Bool.not_true, Bool.not_false, Bool.false_eq_true, Bool.true_eq_false, decide_true, decide_false, ne_eq, reduceIte, Nat.reduceEqDiff, Option.some.injEq, Prod.mk.injEq, eq_self, fa_lit, nI_add, pk_mul, nI_ltI, nI_leI, nI_eq, b01, b0, b1, x_hasBit, Nat.reduceLeDiff, Nat.reduceAdd, Nat.reduceMul, Nat.reduceSub, Nat.lt_irrefl, Nat.reduceLT, n_inb, nI_clamp, w_hr, w_hk, w_hl, w_eq, w_ne, wl_hr, wl_hk, wl_hi, wl_eq, wl_ne, hM.k, hM.k1, hM.k2, hM.k3, hM.k4, hM.k5, hM.k6, hM.k7, hM.k8, hM.k9, hM.k10, hM.k11, hM.k12, hM.k13, hM.k14, hM.k15, hM.k16, hM.k17, hM.k18, hM.k19, hM.k20, hM.k21, hM.k22, hM.k23, hM.k24, hM.k25, hM.k26, hM.k27, hM.k28, hM.k29, hM.k30, hM.k31, hM.k32, hM.k33, hM.k34, hM.k35, hM.r1, hM.r2, hM.r3, hM.r4, hM.r5, hM.r16, hM.r17, hM.r18, hM.r19, hM.r20, hM.r21, hM.r22, hM.r23, hM.r24, hM.r25, hM.r26, hM.r31, hM.r32, hM.r33, hM.r34, hM.r35, hM.r36, hM.r37, hM.r38, hM.r39, hM.r40, hM.r41, hM.r42, hM.r43, hM.r44, hM.r47, hM.r48, hM.r49, hM.r50, hM.r54, stI, fI, fZ, fL, stL, f_ss, f_sL, f_sR, lc0, lc1, lc01, DX12_tells, BX12_tells, m1, m2, m3, z2, hk1, Nat.zero_le, fa_litL, o_i2l]
  · have m1 := m_isCarrier H.thr.mg u
    have m2 := m_isSlate H.thr.mg v
    have m3 := m_in0 (wI h oM 0 (nI 0)) w (n := 7) (by decide)
    refine op_no (r := -nI 2) H ?_ ?_
    · simp (disch := omega) only [ob_t, ob_n, ob_ite, e_cI, e_cL, e_cR, e_vI, e_vL, e_vR, e_d2, e_d2_a, e_d2_b, e_d2z, e_d2z_a, e_d2z_b, e_d1, e_d1_a, e_GI, e_GI_a, e_GL, e_GL_a, e_GR, e_GR_a, e_AI, e_AI_a, e_AI_b, e_AB, e_AB_a, e_AB_b, e_AZ, e_AZ_a, e_AZ_b, e_AL, e_AL_a, e_AL_b, e_AR, e_AR_a, e_AR_b, e_Len, e_Len_a, e_CI, e_CI_a, e_CI_b, e_CZ, e_CZ_a, e_And, e_kAnd, e_Or, e_kOr, e_Not, e_kNot, e_B, e_kB, e_T, e_kT, e_NN, e_kNN, e_NewA, e_NewA_a, e_NewC, e_kNewC, e_aN, e_aI, e_aI_a, e_aI_b, e_aL, e_aL_a, e_aL_b, e_aR, e_aR_a, e_aR_b, e_Call, e_kCall, e_CallV, e_kCallV, e_SetI, e_kSetI, e_SetL, e_kSetL, e_SetR, e_kSetR, e_Inc, e_Skip, e_Brk, e_Cnt, e_Ret, e_kRet, e_Ret0, e_Seq, e_kSeq0, e_kSeq1, e_kSeq2, e_kSeqR, e_If, e_kIf, e_Do, e_kDo, e_Sup, e_kN0, e_d3, e_k3a, e_k3b, e_k3c, e_P, e_kPa, e_kPb, e_UA, e_kUAa, e_kUAb, e_kUAc, e_UL, e_kULa, e_kULb, e_kULc, e_UF, e_kUFa, e_kUFb, e_Cp, e_kCp, e_Sw, e_kSwa, e_kSwb0, e_kSwb1, e_kSwbR, e_M1, e_kM1, e_MZ, e_kMZ, e_MN, e_kMN, e_Tv, e_kTv, e_Tc, e_kTc, e_lpS, e_kLp, e_kLpB0, e_kLpB1, e_kLpB2, e_kLpBR, e_kLpU, e_dwS, e_kDwB0, e_kDwC, f_II, f_LL, f_RR, f_IL, f_IR, f_LI, f_LR, f_RI, f_RL, o_iadd, o_isub, o_imul, o_iand, o_ior, o_ixor, o_ladd, o_lsub, o_lmul, o_land, o_lor, o_ishl, o_ishr, o_iushr, o_lshl, o_lcmp, o_i2l, o_l2i, o_i2b, o_i2s, o_lneg, o_imax, o_imin, o_idiv, o_irem, o_ldiv, o_lrem, r_lt, r_le, r_gt, r_ge, r_eq, r_ne, q_lt, q_le, q_gt, q_ge, q_eq, q_ne, decide_eq_true_eq, idI, and_true, true_and, and_false, false_and, or_true, true_or, or_false, false_or, not_true_eq_false, not_false_eq_true, if_true, if_false, ite_self, Bool.not_true, Bool.not_false, Bool.false_eq_true, Bool.true_eq_false, decide_true, decide_false, ne_eq, reduceIte, Nat.reduceEqDiff, Option.some.injEq, Prod.mk.injEq, eq_self, fa_lit, nI_add, pk_mul, nI_ltI, nI_leI, nI_eq, b01, b0, b1, x_hasBit, Nat.reduceLeDiff, Nat.reduceAdd, Nat.reduceMul, Nat.reduceSub, Nat.lt_irrefl, Nat.reduceLT, hO.koX, hO.k32, hO.k33, hO.k34, hO.k67, hO.k68, hO.k69, hO.k70, hO.k71, hO.k100, hO.k101, hO.k115, hO.k116, hO.k117, hO.k118, hO.k119, hO.k120, hO.k121, hO.roX_0, hO.roX_1, hO.roX_2, hO.roX_3, hO.roX_4, hO.roX_5, hO.roX_6, hO.roX_7, hO.roX_8, hO.roX_9, hO.roX_10, hO.roX_11, hO.roX_12, hO.roX_13, hO.r32_0, hO.r68_0, hO.r68_1, hO.r68_2, hO.r100_0, hO.r115_2, hO.r115_3, hO.r118_1, hP.k, hP.k9, hP.r8, hP.r9, hP.r10, hP.r11, hP.r12, hP.r13, hP.r14, hP.r15, hP.r16, hP.c3, hP.c4, hP.c5, hP.c6, hP.c7, hP.c8, n_inb, nI_clamp, w_hr, w_hk, w_hl, w_eq, w_ne, wl_hr, wl_hk, wl_hi, wl_eq, wl_ne, f_ss, f_sR, f_sL, lc0, lc1, lc01, DX11_tells, BX11_tells, c1, z1, Nat.zero_le, fa_litL, o_i2l]
    · simp (disch := omega) only [ob_t, ob_n, ob_ite, e_cI, e_cL, e_cR, e_vI, e_vL, e_vR, e_d2, e_d2_a, e_d2_b, e_d2z, e_d2z_a, e_d2z_b, e_d1, e_d1_a, e_GI, e_GI_a, e_GL, e_GL_a, e_GR, e_GR_a, e_AI, e_AI_a, e_AI_b, e_AB, e_AB_a, e_AB_b, e_AZ, e_AZ_a, e_AZ_b, e_AL, e_AL_a, e_AL_b, e_AR, e_AR_a, e_AR_b, e_Len, e_Len_a, e_CI, e_CI_a, e_CI_b, e_CZ, e_CZ_a, e_And, e_kAnd, e_Or, e_kOr, e_Not, e_kNot, e_B, e_kB, e_T, e_kT, e_NN, e_kNN, e_NewA, e_NewA_a, e_NewC, e_kNewC, e_aN, e_aI, e_aI_a, e_aI_b, e_aL, e_aL_a, e_aL_b, e_aR, e_aR_a, e_aR_b, e_Call, e_kCall, e_CallV, e_kCallV, e_SetI, e_kSetI, e_SetL, e_kSetL, e_SetR, e_kSetR, e_Inc, e_Skip, e_Brk, e_Cnt, e_Ret, e_kRet, e_Ret0, e_Seq, e_kSeq0, e_kSeq1, e_kSeq2, e_kSeqR, e_If, e_kIf, e_Do, e_kDo, e_Sup, e_kN0, e_d3, e_k3a, e_k3b, e_k3c, e_P, e_kPa, e_kPb, e_UA, e_kUAa, e_kUAb, e_kUAc, e_UL, e_kULa, e_kULb, e_kULc, e_UF, e_kUFa, e_kUFb, e_Cp, e_kCp, e_Sw, e_kSwa, e_kSwb0, e_kSwb1, e_kSwbR, e_M1, e_kM1, e_MZ, e_kMZ, e_MN, e_kMN, e_Tv, e_kTv, e_Tc, e_kTc, e_lpS, e_kLp, e_kLpB0, e_kLpB1, e_kLpB2, e_kLpBR, e_kLpU, e_dwS, e_kDwB0, e_kDwC, f_II, f_LL, f_RR, f_IL, f_IR, f_LI, f_LR, f_RI, f_RL, o_iadd, o_isub, o_imul, o_iand, o_ior, o_ixor, o_ladd, o_lsub, o_lmul, o_land, o_lor, o_ishl, o_ishr, o_iushr, o_lshl, o_lcmp, o_i2l, o_l2i, o_i2b, o_i2s, o_lneg, o_imax, o_imin, o_idiv, o_irem, o_ldiv, o_lrem, r_lt, r_le, r_gt, r_ge, r_eq, r_ne, q_lt, q_le, q_gt, q_ge, q_eq, q_ne, decide_eq_true_eq, idI, and_true, true_and, and_false, false_and, or_true, true_or, or_false, false_or, not_true_eq_false, not_false_eq_true, if_true, if_false, ite_self, Bool.not_true, Bool.not_false, Bool.false_eq_true, Bool.true_eq_false, decide_true, decide_false, ne_eq, reduceIte, Nat.reduceEqDiff, Option.some.injEq, Prod.mk.injEq, eq_self, fa_lit, nI_add, pk_mul, nI_ltI, nI_leI, nI_eq, b01, b0, b1, x_hasBit, Nat.reduceLeDiff, Nat.reduceAdd, Nat.reduceMul, Nat.reduceSub, Nat.lt_irrefl, Nat.reduceLT, n_inb, nI_clamp, w_hr, w_hk, w_hl, w_eq, w_ne, wl_hr, wl_hk, wl_hi, wl_eq, wl_ne, hM.k, hM.k1, hM.k2, hM.k3, hM.k4, hM.k5, hM.k6, hM.k7, hM.k8, hM.k9, hM.k10, hM.k11, hM.k12, hM.k13, hM.k14, hM.k15, hM.k16, hM.k17, hM.k18, hM.k19, hM.k20, hM.k21, hM.k22, hM.k23, hM.k24, hM.k25, hM.k26, hM.k27, hM.k28, hM.k29, hM.k30, hM.k31, hM.k32, hM.k33, hM.k34, hM.k35, hM.r1, hM.r2, hM.r3, hM.r4, hM.r5, hM.r16, hM.r17, hM.r18, hM.r19, hM.r20, hM.r21, hM.r22, hM.r23, hM.r24, hM.r25, hM.r26, hM.r31, hM.r32, hM.r33, hM.r34, hM.r35, hM.r36, hM.r37, hM.r38, hM.r39, hM.r40, hM.r41, hM.r42, hM.r43, hM.r44, hM.r47, hM.r48, hM.r49, hM.r50, hM.r54, stI, fI, fZ, fL, stL, f_ss, f_sL, f_sR, lc0, lc1, lc01, DX12_tells, BX12_tells, m1, m2, m3, z1, Nat.zero_le, fa_litL, o_i2l]
end
