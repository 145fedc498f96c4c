set_option maxRecDepth 100000
set_option maxHeartbeats 1000000
/-! how a Course begins; a Course run through -/
theorem st_ok {r k : Nat} {v : Int32} {h : St} (h1 : (hk h r).1 = 13) (h2 : k < (hk h r).2) (h3 : (hk h r).2 < 2 ^ 31) : stI 13 idI r (nI k) v h = some (wI h r k v) := by
  unfold stI
  rw [if_pos ⟨h1, n_inb h3 h2⟩, nI_clamp (by omega)]
  rfl
theorem stL_ok {r k : Nat} {v : Int64} {h : St} (h1 : (hk h r).1 = 16) (h2 : k < (hk h r).2) (h3 : (hk h r).2 < 2 ^ 31) : stL r (nI k) v h = some (wL h r k v) := by
  unfold stL
  rw [if_pos ⟨h1, n_inb h3 h2⟩, nI_clamp (by omega)]
theorem x_fillI {r n : Nat} (v : Int32) {h : St} (h1 : hk h r = (13, n)) (hn1 : n < 2 ^ 31) : ∃ g, DJ7_fill_53178 (sI (sR fr0 0 r) 1 v) h = some ((), g) ∧ (∀ k, k < n → hi g r k = v) ∧ (∀ k, n ≤ k → hi g r k = hi h r k) ∧ Ch (fun o => o = r) h g := by
  obtain ⟨g, L, b1, b2, b3⟩ : ∃ g, LJ7_fill_53178_1 (sI (sI (sI (sR fr0 0 r) 1 v) 2 (nI 0)) 3 (nI n)) h = some (.inl 0, sI (sI (sI (sR fr0 0 r) 1 v) 2 (nI n)) 3 (nI n), g) ∧ (∀ k, k < n → hi g r k = v) ∧ (∀ k, n ≤ k → hi g r k = hi h r k) ∧ Ch (fun o => o = r) h g := by
    unfold LJ7_fill_53178_1
    refine loop_g (fun k => sI (sI (sI (sR fr0 0 r) 1 v) 2 (nI k)) 3 (nI n)) (fun k g => (∀ j, j < k → hi g r j = v) ∧ (∀ j, k ≤ j → hi g r j = hi h r j) ∧ Ch (fun o => o = r) h g) n rfl ⟨fun j hj => absurd hj (Nat.not_lt_zero j), fun j _ => rfl, Ch.rf _ h⟩ (fun k g hk1 hI => ?_) (fun g hI => ?_)
    · obtain ⟨q1, q2, q3⟩ := hI
      have e1 : hk g r = (13, n) := by rw [q3.1.2.1]; exact h1
      have e2 : stI 13 idI r (nI k) v g = some (wI g r k v) := st_ok (by rw [e1]) (by rw [e1]; exact hk1) (by rw [e1]; exact hn1)
      refine ⟨wI g r k v, ?_, fun j hj => ?_, fun j hj => ?_, q3.tr (Ch.w (D := fun o => o = r) (r := r) rfl g k v)⟩
      · simp (disch := omega) only [ob_t, ob_n, ob_ite, e_cI, e_cL, e_cR, e_vI, e_vL, e_vR, e_d2, e_d2_a, e_d2_b, e_d2z, e_d2z_a, e_d2z_b, e_d1, e_d1_a, e_GI, e_GI_a, e_GL, e_GL_a, e_GR, e_GR_a, e_AI, e_AI_a, e_AI_b, e_AB, e_AB_a, e_AB_b, e_AZ, e_AZ_a, e_AZ_b, e_AL, e_AL_a, e_AL_b, e_AR, e_AR_a, e_AR_b, e_Len, e_Len_a, e_CI, e_CI_a, e_CI_b, e_CZ, e_CZ_a, e_And, e_kAnd, e_Or, e_kOr, e_Not, e_kNot, e_B, e_kB, e_T, e_kT, e_NN, e_kNN, e_NewA, e_NewA_a, e_NewC, e_kNewC, e_aN, e_aI, e_aI_a, e_aI_b, e_aL, e_aL_a, e_aL_b, e_aR, e_aR_a, e_aR_b, e_Call, e_kCall, e_CallV, e_kCallV, e_SetI, e_kSetI, e_SetL, e_kSetL, e_SetR, e_kSetR, e_Inc, e_Skip, e_Brk, e_Cnt, e_Ret, e_kRet, e_Ret0, e_Seq, e_kSeq0, e_kSeq1, e_kSeq2, e_kSeqR, e_If, e_kIf, e_Do, e_kDo, e_Sup, e_kN0, e_d3, e_k3a, e_k3b, e_k3c, e_P, e_kPa, e_kPb, e_UA, e_kUAa, e_kUAb, e_kUAc, e_UL, e_kULa, e_kULb, e_kULc, e_UF, e_kUFa, e_kUFb, e_Cp, e_kCp, e_Sw, e_kSwa, e_kSwb0, e_kSwb1, e_kSwbR, e_M1, e_kM1, e_MZ, e_kMZ, e_MN, e_kMN, e_Tv, e_kTv, e_Tc, e_kTc, e_lpS, e_kLp, e_kLpB0, e_kLpB1, e_kLpB2, e_kLpBR, e_kLpU, e_dwS, e_kDwB0, e_kDwC, f_II, f_LL, f_RR, f_IL, f_IR, f_LI, f_LR, f_RI, f_RL, o_iadd, o_isub, o_imul, o_iand, o_ior, o_ixor, o_ladd, o_lsub, o_lmul, o_land, o_lor, o_ishl, o_ishr, o_iushr, o_lshl, o_lshr, o_lcmp, o_i2l, o_l2i, o_i2b, o_i2s, o_lneg, o_ineg, o_imax, o_imin, o_idiv, o_irem, o_ldiv, o_lrem, r_lt, r_le, r_gt, r_ge, r_eq, r_ne, q_lt, q_le, q_gt, q_ge, q_eq, q_ne, decide_eq_true_eq, idI, and_true, true_and, and_false, false_and, or_true, true_or, or_false, false_or, not_true_eq_false, not_false_eq_true, if_true, if_false, ite_self, Bool.not_true, Bool.not_false, Bool.false_eq_true, Bool.true_eq_false, decide_true, decide_false, ne_eq, reduceIte, Nat.reduceEqDiff, Option.some.injEq, Prod.mk.injEq, eq_self, fa_lit, nI_add, pk_mul, nI_ltI, nI_leI, nI_eq, b01, b0, b1, x_hasBit, Nat.reduceLeDiff, Nat.reduceAdd, Nat.reduceMul, Nat.reduceSub, Nat.lt_irrefl, Nat.reduceLT, hk1, e2]
      · rw [wI_hi]
        by_cases z : j = k
        · rw [if_pos ⟨rfl, z⟩]
        · rw [if_neg (fun y => z y.2)]
          exact q1 j (by omega)
      · rw [wI_hi, if_neg (fun y => by omega)]
        exact q2 j (by omega)
    · simp (disch := omega) only [ob_t, ob_n, ob_ite, e_cI, e_cL, e_cR, e_vI, e_vL, e_vR, e_d2, e_d2_a, e_d2_b, e_d2z, e_d2z_a, e_d2z_b, e_d1, e_d1_a, e_GI, e_GI_a, e_GL, e_GL_a, e_GR, e_GR_a, e_AI, e_AI_a, e_AI_b, e_AB, e_AB_a, e_AB_b, e_AZ, e_AZ_a, e_AZ_b, e_AL, e_AL_a, e_AL_b, e_AR, e_AR_a, e_AR_b, e_Len, e_Len_a, e_CI, e_CI_a, e_CI_b, e_CZ, e_CZ_a, e_And, e_kAnd, e_Or, e_kOr, e_Not, e_kNot, e_B, e_kB, e_T, e_kT, e_NN, e_kNN, e_NewA, e_NewA_a, e_NewC, e_kNewC, e_aN, e_aI, e_aI_a, e_aI_b, e_aL, e_aL_a, e_aL_b, e_aR, e_aR_a, e_aR_b, e_Call, e_kCall, e_CallV, e_kCallV, e_SetI, e_kSetI, e_SetL, e_kSetL, e_SetR, e_kSetR, e_Inc, e_Skip, e_Brk, e_Cnt, e_Ret, e_kRet, e_Ret0, e_Seq, e_kSeq0, e_kSeq1, e_kSeq2, e_kSeqR, e_If, e_kIf, e_Do, e_kDo, e_Sup, e_kN0, e_d3, e_k3a, e_k3b, e_k3c, e_P, e_kPa, e_kPb, e_UA, e_kUAa, e_kUAb, e_kUAc, e_UL, e_kULa, e_kULb, e_kULc, e_UF, e_kUFa, e_kUFb, e_Cp, e_kCp, e_Sw, e_kSwa, e_kSwb0, e_kSwb1, e_kSwbR, e_M1, e_kM1, e_MZ, e_kMZ, e_MN, e_kMN, e_Tv, e_kTv, e_Tc, e_kTc, e_lpS, e_kLp, e_kLpB0, e_kLpB1, e_kLpB2, e_kLpBR, e_kLpU, e_dwS, e_kDwB0, e_kDwC, f_II, f_LL, f_RR, f_IL, f_IR, f_LI, f_LR, f_RI, f_RL, o_iadd, o_isub, o_imul, o_iand, o_ior, o_ixor, o_ladd, o_lsub, o_lmul, o_land, o_lor, o_ishl, o_ishr, o_iushr, o_lshl, o_lshr, o_lcmp, o_i2l, o_l2i, o_i2b, o_i2s, o_lneg, o_ineg, o_imax, o_imin, o_idiv, o_irem, o_ldiv, o_lrem, r_lt, r_le, r_gt, r_ge, r_eq, r_ne, q_lt, q_le, q_gt, q_ge, q_eq, q_ne, decide_eq_true_eq, idI, and_true, true_and, and_false, false_and, or_true, true_or, or_false, false_or, not_true_eq_false, not_false_eq_true, if_true, if_false, ite_self, Bool.not_true, Bool.not_false, Bool.false_eq_true, Bool.true_eq_false, decide_true, decide_false, ne_eq, reduceIte, Nat.reduceEqDiff, Option.some.injEq, Prod.mk.injEq, eq_self, fa_lit, nI_add, pk_mul, nI_ltI, nI_leI, nI_eq, b01, b0, b1, x_hasBit, Nat.reduceLeDiff, Nat.reduceAdd, Nat.reduceMul, Nat.reduceSub, Nat.lt_irrefl, Nat.reduceLT]
  have e3 : Int32.ofNat n = nI n := rfl
  refine ⟨g, ?_, b1, b2, b3⟩
  simp (disch := omega) only [DJ7_fill_53178, BJ7_fill_53178, ob_t, ob_n, ob_ite, e_cI, e_cL, e_cR, e_vI, e_vL, e_vR, e_d2, e_d2_a, e_d2_b, e_d2z, e_d2z_a, e_d2z_b, e_d1, e_d1_a, e_GI, e_GI_a, e_GL, e_GL_a, e_GR, e_GR_a, e_AI, e_AI_a, e_AI_b, e_AB, e_AB_a, e_AB_b, e_AZ, e_AZ_a, e_AZ_b, e_AL, e_AL_a, e_AL_b, e_AR, e_AR_a, e_AR_b, e_Len, e_Len_a, e_CI, e_CI_a, e_CI_b, e_CZ, e_CZ_a, e_And, e_kAnd, e_Or, e_kOr, e_Not, e_kNot, e_B, e_kB, e_T, e_kT, e_NN, e_kNN, e_NewA, e_NewA_a, e_NewC, e_kNewC, e_aN, e_aI, e_aI_a, e_aI_b, e_aL, e_aL_a, e_aL_b, e_aR, e_aR_a, e_aR_b, e_Call, e_kCall, e_CallV, e_kCallV, e_SetI, e_kSetI, e_SetL, e_kSetL, e_SetR, e_kSetR, e_Inc, e_Skip, e_Brk, e_Cnt, e_Ret, e_kRet, e_Ret0, e_Seq, e_kSeq0, e_kSeq1, e_kSeq2, e_kSeqR, e_If, e_kIf, e_Do, e_kDo, e_Sup, e_kN0, e_d3, e_k3a, e_k3b, e_k3c, e_P, e_kPa, e_kPb, e_UA, e_kUAa, e_kUAb, e_kUAc, e_UL, e_kULa, e_kULb, e_kULc, e_UF, e_kUFa, e_kUFb, e_Cp, e_kCp, e_Sw, e_kSwa, e_kSwb0, e_kSwb1, e_kSwbR, e_M1, e_kM1, e_MZ, e_kMZ, e_MN, e_kMN, e_Tv, e_kTv, e_Tc, e_kTc, e_lpS, e_kLp, e_kLpB0, e_kLpB1, e_kLpB2, e_kLpBR, e_kLpU, e_dwS, e_kDwB0, e_kDwC, f_II, f_LL, f_RR, f_IL, f_IR, f_LI, f_LR, f_RI, f_RL, o_iadd, o_isub, o_imul, o_iand, o_ior, o_ixor, o_ladd, o_lsub, o_lmul, o_land, o_lor, o_ishl, o_ishr, o_iushr, o_lshl, o_lshr, o_lcmp, o_i2l, o_l2i, o_i2b, o_i2s, o_lneg, o_ineg, o_imax, o_imin, o_idiv, o_irem, o_ldiv, o_lrem, r_lt, r_le, r_gt, r_ge, r_eq, r_ne, q_lt, q_le, q_gt, q_ge, q_eq, q_ne, decide_eq_true_eq, idI, and_true, true_and, and_false, false_and, or_true, true_or, or_false, false_or, not_true_eq_false, not_false_eq_true, if_true, if_false, ite_self, Bool.not_true, Bool.not_false, Bool.false_eq_true, Bool.true_eq_false, decide_true, decide_false, ne_eq, reduceIte, Nat.reduceEqDiff, Option.some.injEq, Prod.mk.injEq, eq_self, fa_lit, nI_add, pk_mul, nI_ltI, nI_leI, nI_eq, b01, b0, b1, x_hasBit, Nat.reduceLeDiff, Nat.reduceAdd, Nat.reduceMul, Nat.reduceSub, Nat.lt_irrefl, Nat.reduceLT, h1, e3, L]
theorem RC.cong {h : St} {c : Nat} {S T : PT} (hR : RC h c S) (q : ∀ j k, CIn j k → S j k = T j k) : RC h c T := fun j k hjk => by rw [hR j k hjk, q j k hjk]
def upA (S : PT) (j v : Nat) : PT := fun a b => if a = j then v else S a b
theorem n_eqm {k l : Nat} (hk : k < 2 ^ 30) (hl : l < 2 ^ 31) : (nI k = nI l + -nI 1) = (k + 1 = l) := by
  refine propext ⟨fun z => ?_, fun z => ?_⟩
  · have h1 : nI k + nI 1 = nI l := by rw [z, Int32.add_assoc, Int32.add_left_neg, Int32.add_zero]
    rw [nI_add] at h1
    exact (nI_eq (by omega) (by omega)).mp h1
  · subst z
    exact (pk_m1 k).symm
theorem n_pred {l : Nat} (hl : 1 ≤ l) : nI l + -nI 1 = nI (l - 1) := by
  have := pk_m1 (l - 1)
  rw [show l - 1 + 1 = l by omega] at this
  exact this
section
variable {h : St} {c p : Nat} {S P : PT}
theorem C_fill (hC : CS h c) (hR : RC h c S) {j : Nat} (v : Nat) {w : Int32} (h1 : 1 ≤ j) (h2 : j < 8) (hw : ∀ k, enc j k v = w) : ∃ g, DJ7_fill_53178 (sI (sR fr0 0 (c + j)) 1 w) h = some ((), g) ∧ RC g c (upA S j v) ∧ Ch (cD c) h g := by
  obtain ⟨g, a, b1, b2, b3⟩ := x_fillI w (hC.kj h1 h2) (by have := cL8_le j; omega)
  refine ⟨g, a, fun i k hik => ?_, b3.mono (fun o ho => by unfold cD; have : o = c + j := ho; omega)⟩
  unfold upA
  by_cases z : i = j
  · subst z
    rw [if_pos rfl, b1 k hik.2, hw]
  · rw [if_neg z, (b3.2 (c + i) (by show ¬ c + i = c + j; omega)).1]
    exact hR i k hik
def sl1 (P S : PT) (s : Nat) : PT := up (up (up (up S 2 s (fsS P S s)) 3 s (lf0 P s)) 5 s (2 ^ fsS P S s)) 4 (8 * s + fsS P S s) (lf0 P s)
def slN (P S : PT) : Nat → PT
  | 0 => S
  | s + 1 => sl1 P (slN P S s) s
theorem fsS_x {P S T : PT} (h4 : T 0 4 = S 0 4) (h5 : T 0 5 = S 0 5) (s : Nat) : fsS P T s = fsS P S s := by unfold fsS; rw [h4, h5]
theorem fsS_lt (hW : WFP P) (hS : WFX P S) {s : Nat} (hs : s < P 0 7) : fsS P S s < P 0 4 := by
  have h1 := (hW.sl hs).1
  have h2 := hS.2.2.2.2
  unfold fsS
  split <;> omega
theorem slN_0 (P S : PT) : ∀ n k, slN P S n 0 k = S 0 k := by
  intro n
  induction n with
  | zero => intro k; rfl
  | succ n ih =>
    intro k
    show sl1 P (slN P S n) n 0 k = _
    unfold sl1 up
    simp [ih]
theorem slN_eq (hW : WFP P) (hS : WFX P S) : ∀ n, n ≤ P 0 7 → ∀ j k, slN P S n j k = if j = 2 ∧ k < n then fsS P S k else if j = 3 ∧ k < n then lf0 P k else if j = 5 ∧ k < n then 2 ^ fsS P S k else if j = 4 ∧ k / 8 < n ∧ k % 8 = fsS P S (k / 8) then lf0 P (k / 8) else S j k := by
  intro n
  induction n with
  | zero => intro _ j k; simp [slN]
  | succ n ih =>
    intro hn1 j k
    have hb := hW.all
    have hf := fsS_lt hW hS (s := n) (by omega)
    have hx : fsS P (slN P S n) n = fsS P S n := fsS_x (slN_0 P S n 4) (slN_0 P S n 5) n
    have e8 : ∀ k, (k = 8 * n + fsS P S n) = (k / 8 = n ∧ k % 8 = fsS P S n) := fun k => propext (by omega)
    show sl1 P (slN P S n) n j k = _
    unfold sl1
    rw [hx]
    unfold up
    simp only [e8 k, ih (by omega) j k]
    by_cases j2 : j = 2
    · subst j2
      by_cases q : k = n
      · subst q; simp
      · simp [q, show (k < n + 1) = (k < n) from propext (by omega)]
    · by_cases j3 : j = 3
      · subst j3
        by_cases q : k = n
        · subst q; simp
        · simp [q, show (k < n + 1) = (k < n) from propext (by omega)]
      · by_cases j5 : j = 5
        · subst j5
          by_cases q : k = n
          · subst q; simp
          · simp [q, show (k < n + 1) = (k < n) from propext (by omega)]
        · by_cases j4 : j = 4
          · subst j4
            by_cases q : k / 8 = n
            · rw [q]; simp
            · simp [q, show (k / 8 < n + 1) = (k / 8 < n) from propext (by omega)]
          · simp [j2, j3, j4, j5]
theorem x_begin (hC : CS h c) (hR : RC h c S) (hG : PG h p P) (hS : WFX P S) (hd : p + 16 ≤ c ∨ c + 8 ≤ p) : ∃ g, DX2_begin (sR (sR fr0 0 c) 1 p) h = some ((), g) ∧ RC g c (begS P S) ∧ Ch (cD c) h g := by
  have hW := hG.w
  have hb := hW.all
  have hx := hS
  unfold WFX at hx
  obtain ⟨g1, a1, b1, c1⟩ := C_fill hC hR (j := 4) 0 (w := nI 0) (by decide) (by decide) (fun k => enc_n (by decide) (by decide))
  have hC1 := hC.to c1.1
  obtain ⟨g2, a2, b2, c2⟩ := C_fill hC1 b1 (j := 6) 1 (w := nI 1) (by decide) (by decide) (fun k => enc_n (by decide) (by decide))
  have hC2 := hC1.to c2.1
  obtain ⟨g3, a3, b3, c3⟩ := C_fill hC2 b2 (j := 7) 0 (w := -nI 1) (by decide) (by decide) (fun k => by rw [enc_7]; decide)
  have hC3 := hC2.to c3.1
  have q3 := (c1.tr c2).tr c3
  obtain ⟨T, hT⟩ : ∃ T, T = upA (upA (upA S 4 0) 6 1) 7 0 := ⟨_, rfl⟩
  rw [← hT] at b3
  obtain ⟨g4, L1, b4, c4⟩ : ∃ g, LX2_begin_1 (sI (sR (sR fr0 0 c) 1 p) 2 (nI 0)) g3 = some (.inl 0, sI (sR (sR fr0 0 c) 1 p) 2 (nI (P 0 6)), g) ∧ RC g c (fun a b => if a = 1 ∧ b < P 0 6 then P 4 b else T a b) ∧ Ch (cD c) h g := by
    unfold LX2_begin_1
    refine loop_g (fun k => sI (sR (sR fr0 0 c) 1 p) 2 (nI k)) (fun k g => RC g c (fun a b => if a = 1 ∧ b < k then P 4 b else T a b) ∧ Ch (cD c) h g) (P 0 6) rfl ⟨b3.cong (fun j k _ => by simp), q3⟩ (fun k g hk hI => ?_) (fun g hI => ?_)
    · obtain ⟨hRg, hq⟩ := hI
      have hGg := hG.cc hq hd
      have hC := hC.to hq.1
      have hP := hGg.s
      have e1 := hGg.r.sc (k := 6) (by decide)
      have e2 := RP.chouse hGg.s hGg.r hGg.w hk
      obtain ⟨g5, a5, b5, c5⟩ := C_put hC hRg (j := 1) (k := k) (P 4 k) (by decide) (by decide) (by show k < 5; omega)
      refine ⟨g5, ?_, b5.cong (fun j i _ => ?_), hq.tr c5⟩
      · simp (disch := omega) only [ob_t, ob_n, ob_ite, e_cI, e_cL, e_cR, e_vI, e_vL, e_vR, e_d2, e_d2_a, e_d2_b, e_d2z, e_d2z_a, e_d2z_b, e_d1, e_d1_a, e_GI, e_GI_a, e_GL, e_GL_a, e_GR, e_GR_a, e_AI, e_AI_a, e_AI_b, e_AB, e_AB_a, e_AB_b, e_AZ, e_AZ_a, e_AZ_b, e_AL, e_AL_a, e_AL_b, e_AR, e_AR_a, e_AR_b, e_Len, e_Len_a, e_CI, e_CI_a, e_CI_b, e_CZ, e_CZ_a, e_And, e_kAnd, e_Or, e_kOr, e_Not, e_kNot, e_B, e_kB, e_T, e_kT, e_NN, e_kNN, e_NewA, e_NewA_a, e_NewC, e_kNewC, e_aN, e_aI, e_aI_a, e_aI_b, e_aL, e_aL_a, e_aL_b, e_aR, e_aR_a, e_aR_b, e_Call, e_kCall, e_CallV, e_kCallV, e_SetI, e_kSetI, e_SetL, e_kSetL, e_SetR, e_kSetR, e_Inc, e_Skip, e_Brk, e_Cnt, e_Ret, e_kRet, e_Ret0, e_Seq, e_kSeq0, e_kSeq1, e_kSeq2, e_kSeqR, e_If, e_kIf, e_Do, e_kDo, e_Sup, e_kN0, e_d3, e_k3a, e_k3b, e_k3c, e_P, e_kPa, e_kPb, e_UA, e_kUAa, e_kUAb, e_kUAc, e_UL, e_kULa, e_kULb, e_kULc, e_UF, e_kUFa, e_kUFb, e_Cp, e_kCp, e_Sw, e_kSwa, e_kSwb0, e_kSwb1, e_kSwbR, e_M1, e_kM1, e_MZ, e_kMZ, e_MN, e_kMN, e_Tv, e_kTv, e_Tc, e_kTc, e_lpS, e_kLp, e_kLpB0, e_kLpB1, e_kLpB2, e_kLpBR, e_kLpU, e_dwS, e_kDwB0, e_kDwC, f_II, f_LL, f_RR, f_IL, f_IR, f_LI, f_LR, f_RI, f_RL, o_iadd, o_isub, o_imul, o_iand, o_ior, o_ixor, o_ladd, o_lsub, o_lmul, o_land, o_lor, o_ishl, o_ishr, o_iushr, o_lshl, o_lshr, o_lcmp, o_i2l, o_l2i, o_i2b, o_i2s, o_lneg, o_ineg, o_imax, o_imin, o_idiv, o_irem, o_ldiv, o_lrem, r_lt, r_le, r_gt, r_ge, r_eq, r_ne, q_lt, q_le, q_gt, q_ge, q_eq, q_ne, decide_eq_true_eq, idI, and_true, true_and, and_false, false_and, or_true, true_or, or_false, false_or, not_true_eq_false, not_false_eq_true, if_true, if_false, ite_self, Bool.not_true, Bool.not_false, Bool.false_eq_true, Bool.true_eq_false, decide_true, decide_false, ne_eq, reduceIte, Nat.reduceEqDiff, Option.some.injEq, Prod.mk.injEq, eq_self, fa_lit, nI_add, pk_mul, nI_ltI, nI_leI, nI_eq, b01, b0, b1, x_hasBit, Nat.reduceLeDiff, Nat.reduceAdd, Nat.reduceMul, Nat.reduceSub, Nat.lt_irrefl, Nat.reduceLT, hP.k, hP.k9, hP.r8, hP.r9, hP.r10, hP.r11, hP.r12, hP.r13, hP.r14, hP.r15, hP.r16, hP.c3, hP.c4, hP.c5, hP.c6, hP.c7, hP.c8, hC.k, hC.r8, hC.r9, hC.r10, hC.r11, hC.r12, hC.r13, hC.r14, e1, e2, hk, a5]
      · unfold up
        by_cases z1 : j = 1
        · subst z1
          by_cases z : i = k
          · subst z; simp
          · simp [z, show (i < k + 1) = (i < k) from propext (by omega)]
        · simp [z1]
    · obtain ⟨hRg, hq⟩ := hI
      have hGg := hG.cc hq hd
      have hP := hGg.s
      have e1 := hGg.r.sc (k := 6) (by decide)
      simp (disch := omega) only [ob_t, ob_n, ob_ite, e_cI, e_cL, e_cR, e_vI, e_vL, e_vR, e_d2, e_d2_a, e_d2_b, e_d2z, e_d2z_a, e_d2z_b, e_d1, e_d1_a, e_GI, e_GI_a, e_GL, e_GL_a, e_GR, e_GR_a, e_AI, e_AI_a, e_AI_b, e_AB, e_AB_a, e_AB_b, e_AZ, e_AZ_a, e_AZ_b, e_AL, e_AL_a, e_AL_b, e_AR, e_AR_a, e_AR_b, e_Len, e_Len_a, e_CI, e_CI_a, e_CI_b, e_CZ, e_CZ_a, e_And, e_kAnd, e_Or, e_kOr, e_Not, e_kNot, e_B, e_kB, e_T, e_kT, e_NN, e_kNN, e_NewA, e_NewA_a, e_NewC, e_kNewC, e_aN, e_aI, e_aI_a, e_aI_b, e_aL, e_aL_a, e_aL_b, e_aR, e_aR_a, e_aR_b, e_Call, e_kCall, e_CallV, e_kCallV, e_SetI, e_kSetI, e_SetL, e_kSetL, e_SetR, e_kSetR, e_Inc, e_Skip, e_Brk, e_Cnt, e_Ret, e_kRet, e_Ret0, e_Seq, e_kSeq0, e_kSeq1, e_kSeq2, e_kSeqR, e_If, e_kIf, e_Do, e_kDo, e_Sup, e_kN0, e_d3, e_k3a, e_k3b, e_k3c, e_P, e_kPa, e_kPb, e_UA, e_kUAa, e_kUAb, e_kUAc, e_UL, e_kULa, e_kULb, e_kULc, e_UF, e_kUFa, e_kUFb, e_Cp, e_kCp, e_Sw, e_kSwa, e_kSwb0, e_kSwb1, e_kSwbR, e_M1, e_kM1, e_MZ, e_kMZ, e_MN, e_kMN, e_Tv, e_kTv, e_Tc, e_kTc, e_lpS, e_kLp, e_kLpB0, e_kLpB1, e_kLpB2, e_kLpBR, e_kLpU, e_dwS, e_kDwB0, e_kDwC, f_II, f_LL, f_RR, f_IL, f_IR, f_LI, f_LR, f_RI, f_RL, o_iadd, o_isub, o_imul, o_iand, o_ior, o_ixor, o_ladd, o_lsub, o_lmul, o_land, o_lor, o_ishl, o_ishr, o_iushr, o_lshl, o_lshr, o_lcmp, o_i2l, o_l2i, o_i2b, o_i2s, o_lneg, o_ineg, o_imax, o_imin, o_idiv, o_irem, o_ldiv, o_lrem, r_lt, r_le, r_gt, r_ge, r_eq, r_ne, q_lt, q_le, q_gt, q_ge, q_eq, q_ne, decide_eq_true_eq, idI, and_true, true_and, and_false, false_and, or_true, true_or, or_false, false_or, not_true_eq_false, not_false_eq_true, if_true, if_false, ite_self, Bool.not_true, Bool.not_false, Bool.false_eq_true, Bool.true_eq_false, decide_true, decide_false, ne_eq, reduceIte, Nat.reduceEqDiff, Option.some.injEq, Prod.mk.injEq, eq_self, fa_lit, nI_add, pk_mul, nI_ltI, nI_leI, nI_eq, b01, b0, b1, x_hasBit, Nat.reduceLeDiff, Nat.reduceAdd, Nat.reduceMul, Nat.reduceSub, Nat.lt_irrefl, Nat.reduceLT, hP.k, hP.k9, hP.r8, hP.r9, hP.r10, hP.r11, hP.r12, hP.r13, hP.r14, hP.r15, hP.r16, hP.c3, hP.c4, hP.c5, hP.c6, hP.c7, hP.c8, e1]
  obtain ⟨U, hU⟩ : ∃ U, U = (fun a b => if a = 1 ∧ b < P 0 6 then P 4 b else T a b : PT) := ⟨_, rfl⟩
  rw [← hU] at b4
  have hU0 : ∀ k, U 0 k = S 0 k := fun k => by rw [hU, hT]; simp [upA]
  have hUX : WFX P U := by
    unfold WFX
    rw [hU0, hU0, hU0, hU0, hU0, hU0]
    exact hS
  obtain ⟨g6, L2, b6, c6⟩ : ∃ g, LX2_begin_2 (sI (sI (sR (sR fr0 0 c) 1 p) 2 (nI (P 0 6))) 2 (nI 0)) g4 = some (.inl 0, sI (sR (sR fr0 0 c) 1 p) 2 (nI (P 0 7)), g) ∧ RC g c (slN P U (P 0 7)) ∧ Ch (cD c) h g := by
    unfold LX2_begin_2
    refine loop_g (fun k => sI (sR (sR fr0 0 c) 1 p) 2 (nI k)) (fun k g => RC g c (slN P U k) ∧ Ch (cD c) h g) (P 0 7) rfl ⟨b4, c4⟩ (fun k g hk hI => ?_) (fun g hI => ?_)
    · obtain ⟨hRg, hq⟩ := hI
      have hGg := hG.cc hq hd
      have hCg := hC.to hq.1
      have hC := hCg
      have hP := hGg.s
      have e1 := hGg.r.sc (k := 7) (by decide)
      have e2 := RP.shouse hGg.s hGg.r hGg.w hk
      have k0 := slN_0 P U k
      have f4 : hi g c 4 = nI (S 0 4) + -nI 1 := by
        have := hRg 0 4 ⟨by decide, by decide⟩
        rw [k0, hU0] at this
        exact this
      have f5 : hi g c 5 = nI (S 0 5) + -nI 1 := by
        have := hRg 0 5 ⟨by decide, by decide⟩
        rw [k0, hU0] at this
        exact this
      have hfx : fsS P (slN P U k) k = fsS P S k := fsS_x (by rw [k0, hU0]) (by rw [k0, hU0]) k
      have hfl := fsS_lt hW hS hk
      obtain ⟨f, hf⟩ : ∃ f, f = fsS P S k := ⟨_, rfl⟩
      have hf8 : f < 8 := by omega
      obtain ⟨g1, a1, b1, c1⟩ := C_put hCg hRg (j := 2) (k := k) f (by decide) (by decide) (by show k < 3; omega)
      have hC1 := hCg.to c1.1
      have hG1 := hGg.cc c1 hd
      have e3 := x_leftAtFirst hG1.s hG1.r hG1.w hk
      obtain ⟨g2, a2, b2, c2⟩ := C_put hC1 b1 (j := 3) (k := k) (lf0 P k) (by decide) (by decide) (by show k < 3; omega)
      have hC2 := hC1.to c2.1
      obtain ⟨g3, a3, b3, c3⟩ := C_put hC2 b2 (j := 5) (k := k) (2 ^ f) (by decide) (by decide) (by show k < 3; omega)
      have hC3 := hC2.to c3.1
      have e4 := C_cell hC3 b3 (j := 3) (k := k) (by decide) (by decide) (by show k < 3; omega)
      have e5 : up (up (up (slN P U k) 2 k f) 3 k (lf0 P k)) 5 k (2 ^ f) 3 k = lf0 P k := by simp [up]
      rw [e5] at e4
      have e6 : k * 8 + f = 8 * k + f := by omega
      obtain ⟨g4, a4, b4, c4⟩ := C_put hC3 b3 (j := 4) (k := 8 * k + f) (lf0 P k) (by decide) (by decide) (by show _ < 24; omega)
      refine ⟨g4, ?_, ?_, (((hq.tr c1).tr c2).tr c3).tr c4⟩
      · have e7 : (nI k = nI (S 0 4) + -nI 1) = (k + 1 = S 0 4) := n_eqm (by omega) (by omega)
        by_cases z : k + 1 = S 0 4
        · have e8 : f = S 0 5 - 1 := by rw [hf]; unfold fsS; rw [if_pos z]
          have e9 : nI (S 0 5) + -nI 1 = nI f := by rw [e8]; exact n_pred (by omega)
          have e7t : (nI k = nI (S 0 4) + -nI 1) = True := by rw [e7]; exact eq_true z
          simp (disch := omega) only [ob_t, ob_n, ob_ite, e_cI, e_cL, e_cR, e_vI, e_vL, e_vR, e_d2, e_d2_a, e_d2_b, e_d2z, e_d2z_a, e_d2z_b, e_d1, e_d1_a, e_GI, e_GI_a, e_GL, e_GL_a, e_GR, e_GR_a, e_AI, e_AI_a, e_AI_b, e_AB, e_AB_a, e_AB_b, e_AZ, e_AZ_a, e_AZ_b, e_AL, e_AL_a, e_AL_b, e_AR, e_AR_a, e_AR_b, e_Len, e_Len_a, e_CI, e_CI_a, e_CI_b, e_CZ, e_CZ_a, e_And, e_kAnd, e_Or, e_kOr, e_Not, e_kNot, e_B, e_kB, e_T, e_kT, e_NN, e_kNN, e_NewA, e_NewA_a, e_NewC, e_kNewC, e_aN, e_aI, e_aI_a, e_aI_b, e_aL, e_aL_a, e_aL_b, e_aR, e_aR_a, e_aR_b, e_Call, e_kCall, e_CallV, e_kCallV, e_SetI, e_kSetI, e_SetL, e_kSetL, e_SetR, e_kSetR, e_Inc, e_Skip, e_Brk, e_Cnt, e_Ret, e_kRet, e_Ret0, e_Seq, e_kSeq0, e_kSeq1, e_kSeq2, e_kSeqR, e_If, e_kIf, e_Do, e_kDo, e_Sup, e_kN0, e_d3, e_k3a, e_k3b, e_k3c, e_P, e_kPa, e_kPb, e_UA, e_kUAa, e_kUAb, e_kUAc, e_UL, e_kULa, e_kULb, e_kULc, e_UF, e_kUFa, e_kUFb, e_Cp, e_kCp, e_Sw, e_kSwa, e_kSwb0, e_kSwb1, e_kSwbR, e_M1, e_kM1, e_MZ, e_kMZ, e_MN, e_kMN, e_Tv, e_kTv, e_Tc, e_kTc, e_lpS, e_kLp, e_kLpB0, e_kLpB1, e_kLpB2, e_kLpBR, e_kLpU, e_dwS, e_kDwB0, e_kDwC, f_II, f_LL, f_RR, f_IL, f_IR, f_LI, f_LR, f_RI, f_RL, o_iadd, o_isub, o_imul, o_iand, o_ior, o_ixor, o_ladd, o_lsub, o_lmul, o_land, o_lor, o_ishl, o_ishr, o_iushr, o_lshl, o_lshr, o_lcmp, o_i2l, o_l2i, o_i2b, o_i2s, o_lneg, o_ineg, o_imax, o_imin, o_idiv, o_irem, o_ldiv, o_lrem, r_lt, r_le, r_gt, r_ge, r_eq, r_ne, q_lt, q_le, q_gt, q_ge, q_eq, q_ne, decide_eq_true_eq, idI, and_true, true_and, and_false, false_and, or_true, true_or, or_false, false_or, not_true_eq_false, not_false_eq_true, if_true, if_false, ite_self, Bool.not_true, Bool.not_false, Bool.false_eq_true, Bool.true_eq_false, decide_true, decide_false, ne_eq, reduceIte, Nat.reduceEqDiff, Option.some.injEq, Prod.mk.injEq, eq_self, fa_lit, nI_add, pk_mul, nI_ltI, nI_leI, nI_eq, b01, b0, b1, x_hasBit, Nat.reduceLeDiff, Nat.reduceAdd, Nat.reduceMul, Nat.reduceSub, Nat.lt_irrefl, Nat.reduceLT, hP.k, hP.k9, hP.r8, hP.r9, hP.r10, hP.r11, hP.r12, hP.r13, hP.r14, hP.r15, hP.r16, hP.c3, hP.c4, hP.c5, hP.c6, hP.c7, hP.c8, hC.k, hC.r8, hC.r9, hC.r10, hC.r11, hC.r12, hC.r13, hC.r14, e1, f4, f5, e7t, e9, hk, a1, e3, a2, a3, e4, e6, a4, n_shl, c1.1.1, c2.1.1, c3.1.1, c1.1.2.1, c2.1.2.1, c3.1.2.1]
        · have e8 : P 6 k = f := by rw [hf]; unfold fsS; rw [if_neg z]
          have e7t : (nI k = nI (S 0 4) + -nI 1) = False := by rw [e7]; exact eq_false z
          rw [e8] at e2
          simp (disch := omega) only [ob_t, ob_n, ob_ite, e_cI, e_cL, e_cR, e_vI, e_vL, e_vR, e_d2, e_d2_a, e_d2_b, e_d2z, e_d2z_a, e_d2z_b, e_d1, e_d1_a, e_GI, e_GI_a, e_GL, e_GL_a, e_GR, e_GR_a, e_AI, e_AI_a, e_AI_b, e_AB, e_AB_a, e_AB_b, e_AZ, e_AZ_a, e_AZ_b, e_AL, e_AL_a, e_AL_b, e_AR, e_AR_a, e_AR_b, e_Len, e_Len_a, e_CI, e_CI_a, e_CI_b, e_CZ, e_CZ_a, e_And, e_kAnd, e_Or, e_kOr, e_Not, e_kNot, e_B, e_kB, e_T, e_kT, e_NN, e_kNN, e_NewA, e_NewA_a, e_NewC, e_kNewC, e_aN, e_aI, e_aI_a, e_aI_b, e_aL, e_aL_a, e_aL_b, e_aR, e_aR_a, e_aR_b, e_Call, e_kCall, e_CallV, e_kCallV, e_SetI, e_kSetI, e_SetL, e_kSetL, e_SetR, e_kSetR, e_Inc, e_Skip, e_Brk, e_Cnt, e_Ret, e_kRet, e_Ret0, e_Seq, e_kSeq0, e_kSeq1, e_kSeq2, e_kSeqR, e_If, e_kIf, e_Do, e_kDo, e_Sup, e_kN0, e_d3, e_k3a, e_k3b, e_k3c, e_P, e_kPa, e_kPb, e_UA, e_kUAa, e_kUAb, e_kUAc, e_UL, e_kULa, e_kULb, e_kULc, e_UF, e_kUFa, e_kUFb, e_Cp, e_kCp, e_Sw, e_kSwa, e_kSwb0, e_kSwb1, e_kSwbR, e_M1, e_kM1, e_MZ, e_kMZ, e_MN, e_kMN, e_Tv, e_kTv, e_Tc, e_kTc, e_lpS, e_kLp, e_kLpB0, e_kLpB1, e_kLpB2, e_kLpBR, e_kLpU, e_dwS, e_kDwB0, e_kDwC, f_II, f_LL, f_RR, f_IL, f_IR, f_LI, f_LR, f_RI, f_RL, o_iadd, o_isub, o_imul, o_iand, o_ior, o_ixor, o_ladd, o_lsub, o_lmul, o_land, o_lor, o_ishl, o_ishr, o_iushr, o_lshl, o_lshr, o_lcmp, o_i2l, o_l2i, o_i2b, o_i2s, o_lneg, o_ineg, o_imax, o_imin, o_idiv, o_irem, o_ldiv, o_lrem, r_lt, r_le, r_gt, r_ge, r_eq, r_ne, q_lt, q_le, q_gt, q_ge, q_eq, q_ne, decide_eq_true_eq, idI, and_true, true_and, and_false, false_and, or_true, true_or, or_false, false_or, not_true_eq_false, not_false_eq_true, if_true, if_false, ite_self, Bool.not_true, Bool.not_false, Bool.false_eq_true, Bool.true_eq_false, decide_true, decide_false, ne_eq, reduceIte, Nat.reduceEqDiff, Option.some.injEq, Prod.mk.injEq, eq_self, fa_lit, nI_add, pk_mul, nI_ltI, nI_leI, nI_eq, b01, b0, b1, x_hasBit, Nat.reduceLeDiff, Nat.reduceAdd, Nat.reduceMul, Nat.reduceSub, Nat.lt_irrefl, Nat.reduceLT, hP.k, hP.k9, hP.r8, hP.r9, hP.r10, hP.r11, hP.r12, hP.r13, hP.r14, hP.r15, hP.r16, hP.c3, hP.c4, hP.c5, hP.c6, hP.c7, hP.c8, hC.k, hC.r8, hC.r9, hC.r10, hC.r11, hC.r12, hC.r13, hC.r14, e1, f4, f5, e2, e7t, hk, a1, e3, a2, a3, e4, e6, a4, n_shl, c1.1.1, c2.1.1, c3.1.1, c1.1.2.1, c2.1.2.1, c3.1.2.1]
      · show RC g4 c (sl1 P (slN P U k) k)
        unfold sl1
        rw [hfx, ← hf]
        exact b4
    · obtain ⟨hRg, hq⟩ := hI
      have hGg := hG.cc hq hd
      have hP := hGg.s
      have e1 := hGg.r.sc (k := 7) (by decide)
      simp (disch := omega) only [ob_t, ob_n, ob_ite, e_cI, e_cL, e_cR, e_vI, e_vL, e_vR, e_d2, e_d2_a, e_d2_b, e_d2z, e_d2z_a, e_d2z_b, e_d1, e_d1_a, e_GI, e_GI_a, e_GL, e_GL_a, e_GR, e_GR_a, e_AI, e_AI_a, e_AI_b, e_AB, e_AB_a, e_AB_b, e_AZ, e_AZ_a, e_AZ_b, e_AL, e_AL_a, e_AL_b, e_AR, e_AR_a, e_AR_b, e_Len, e_Len_a, e_CI, e_CI_a, e_CI_b, e_CZ, e_CZ_a, e_And, e_kAnd, e_Or, e_kOr, e_Not, e_kNot, e_B, e_kB, e_T, e_kT, e_NN, e_kNN, e_NewA, e_NewA_a, e_NewC, e_kNewC, e_aN, e_aI, e_aI_a, e_aI_b, e_aL, e_aL_a, e_aL_b, e_aR, e_aR_a, e_aR_b, e_Call, e_kCall, e_CallV, e_kCallV, e_SetI, e_kSetI, e_SetL, e_kSetL, e_SetR, e_kSetR, e_Inc, e_Skip, e_Brk, e_Cnt, e_Ret, e_kRet, e_Ret0, e_Seq, e_kSeq0, e_kSeq1, e_kSeq2, e_kSeqR, e_If, e_kIf, e_Do, e_kDo, e_Sup, e_kN0, e_d3, e_k3a, e_k3b, e_k3c, e_P, e_kPa, e_kPb, e_UA, e_kUAa, e_kUAb, e_kUAc, e_UL, e_kULa, e_kULb, e_kULc, e_UF, e_kUFa, e_kUFb, e_Cp, e_kCp, e_Sw, e_kSwa, e_kSwb0, e_kSwb1, e_kSwbR, e_M1, e_kM1, e_MZ, e_kMZ, e_MN, e_kMN, e_Tv, e_kTv, e_Tc, e_kTc, e_lpS, e_kLp, e_kLpB0, e_kLpB1, e_kLpB2, e_kLpBR, e_kLpU, e_dwS, e_kDwB0, e_kDwC, f_II, f_LL, f_RR, f_IL, f_IR, f_LI, f_LR, f_RI, f_RL, o_iadd, o_isub, o_imul, o_iand, o_ior, o_ixor, o_ladd, o_lsub, o_lmul, o_land, o_lor, o_ishl, o_ishr, o_iushr, o_lshl, o_lshr, o_lcmp, o_i2l, o_l2i, o_i2b, o_i2s, o_lneg, o_ineg, o_imax, o_imin, o_idiv, o_irem, o_ldiv, o_lrem, r_lt, r_le, r_gt, r_ge, r_eq, r_ne, q_lt, q_le, q_gt, q_ge, q_eq, q_ne, decide_eq_true_eq, idI, and_true, true_and, and_false, false_and, or_true, true_or, or_false, false_or, not_true_eq_false, not_false_eq_true, if_true, if_false, ite_self, Bool.not_true, Bool.not_false, Bool.false_eq_true, Bool.true_eq_false, decide_true, decide_false, ne_eq, reduceIte, Nat.reduceEqDiff, Option.some.injEq, Prod.mk.injEq, eq_self, fa_lit, nI_add, pk_mul, nI_ltI, nI_leI, nI_eq, b01, b0, b1, x_hasBit, Nat.reduceLeDiff, Nat.reduceAdd, Nat.reduceMul, Nat.reduceSub, Nat.lt_irrefl, Nat.reduceLT, hP.k, hP.k9, hP.r8, hP.r9, hP.r10, hP.r11, hP.r12, hP.r13, hP.r14, hP.r15, hP.r16, hP.c3, hP.c4, hP.c5, hP.c6, hP.c7, hP.c8, e1]
  refine ⟨g6, ?_, b6.cong (fun j k hjk => ?_), c6⟩
  · simp (disch := omega) only [DX2_begin, BX2_begin, ob_t, ob_n, ob_ite, e_cI, e_cL, e_cR, e_vI, e_vL, e_vR, e_d2, e_d2_a, e_d2_b, e_d2z, e_d2z_a, e_d2z_b, e_d1, e_d1_a, e_GI, e_GI_a, e_GL, e_GL_a, e_GR, e_GR_a, e_AI, e_AI_a, e_AI_b, e_AB, e_AB_a, e_AB_b, e_AZ, e_AZ_a, e_AZ_b, e_AL, e_AL_a, e_AL_b, e_AR, e_AR_a, e_AR_b, e_Len, e_Len_a, e_CI, e_CI_a, e_CI_b, e_CZ, e_CZ_a, e_And, e_kAnd, e_Or, e_kOr, e_Not, e_kNot, e_B, e_kB, e_T, e_kT, e_NN, e_kNN, e_NewA, e_NewA_a, e_NewC, e_kNewC, e_aN, e_aI, e_aI_a, e_aI_b, e_aL, e_aL_a, e_aL_b, e_aR, e_aR_a, e_aR_b, e_Call, e_kCall, e_CallV, e_kCallV, e_SetI, e_kSetI, e_SetL, e_kSetL, e_SetR, e_kSetR, e_Inc, e_Skip, e_Brk, e_Cnt, e_Ret, e_kRet, e_Ret0, e_Seq, e_kSeq0, e_kSeq1, e_kSeq2, e_kSeqR, e_If, e_kIf, e_Do, e_kDo, e_Sup, e_kN0, e_d3, e_k3a, e_k3b, e_k3c, e_P, e_kPa, e_kPb, e_UA, e_kUAa, e_kUAb, e_kUAc, e_UL, e_kULa, e_kULb, e_kULc, e_UF, e_kUFa, e_kUFb, e_Cp, e_kCp, e_Sw, e_kSwa, e_kSwb0, e_kSwb1, e_kSwbR, e_M1, e_kM1, e_MZ, e_kMZ, e_MN, e_kMN, e_Tv, e_kTv, e_Tc, e_kTc, e_lpS, e_kLp, e_kLpB0, e_kLpB1, e_kLpB2, e_kLpBR, e_kLpU, e_dwS, e_kDwB0, e_kDwC, f_II, f_LL, f_RR, f_IL, f_IR, f_LI, f_LR, f_RI, f_RL, o_iadd, o_isub, o_imul, o_iand, o_ior, o_ixor, o_ladd, o_lsub, o_lmul, o_land, o_lor, o_ishl, o_ishr, o_iushr, o_lshl, o_lshr, o_lcmp, o_i2l, o_l2i, o_i2b, o_i2s, o_lneg, o_ineg, o_imax, o_imin, o_idiv, o_irem, o_ldiv, o_lrem, r_lt, r_le, r_gt, r_ge, r_eq, r_ne, q_lt, q_le, q_gt, q_ge, q_eq, q_ne, decide_eq_true_eq, idI, and_true, true_and, and_false, false_and, or_true, true_or, or_false, false_or, not_true_eq_false, not_false_eq_true, if_true, if_false, ite_self, Bool.not_true, Bool.not_false, Bool.false_eq_true, Bool.true_eq_false, decide_true, decide_false, ne_eq, reduceIte, Nat.reduceEqDiff, Option.some.injEq, Prod.mk.injEq, eq_self, fa_lit, nI_add, pk_mul, nI_ltI, nI_leI, nI_eq, b01, b0, b1, x_hasBit, Nat.reduceLeDiff, Nat.reduceAdd, Nat.reduceMul, Nat.reduceSub, Nat.lt_irrefl, Nat.reduceLT, hC.k, hC.r8, hC.r9, hC.r10, hC.r11, hC.r12, hC.r13, hC.r14, a1, a2, a3, L1, L2, c1.1.1, c2.1.1, c1.1.2.1, c2.1.2.1]
  · have hfu : ∀ s, fsS P U s = fsS P S s := fun s => fsS_x (hU0 4) (hU0 5) s
    rw [slN_eq hW hUX _ (Nat.le_refl _), hfu, hfu, hU, hT]
    unfold begS upA
    by_cases j1 : j = 1
    · subst j1; simp
    · by_cases j2 : j = 2
      · subst j2; simp
      · by_cases j3 : j = 3
        · subst j3; simp
        · by_cases j4 : j = 4
          · subst j4; simp
          · by_cases j5 : j = 5
            · subst j5; simp
            · by_cases j6 : j = 6
              · subst j6; simp
              · by_cases j7 : j = 7
                · subst j7; simp
                · simp [j1, j2, j3, j4, j5, j6, j7]
end
