set_option maxRecDepth 100000
set_option maxHeartbeats 1000000
/-! the class: states awaited and settled; the least strengths -/
def lnk (nx : Nat → Int32) (n : Nat) : List Nat → Int32 → Prop
  | [], v => v = -nI 1
  | i :: l, v => v = nI i ∧ i < n ∧ lnk nx n l (nx i)
theorem lnk.ext {nx ny : Nat → Int32} {n m : Nat} (h : ∀ i, i < n → ny i = nx i) (hnm : n ≤ m) : ∀ (l : List Nat) (v : Int32), lnk nx n l v → lnk ny m l v := by
  intro l
  induction l with
  | nil => intro v q; exact q
  | cons i l ih =>
    intro v q
    obtain ⟨q1, q2, q3⟩ := q
    exact ⟨q1, by omega, by rw [h i q2]; exact ih _ q3⟩
theorem n_m1z {v : Nat} (hv : v < 2 ^ 30) : (nI v + -nI 1 = -nI 1) = (v = 0) := by
  by_cases z : v = 0
  · subst z; exact propext ⟨fun _ => rfl, fun _ => by decide⟩
  · rw [n_pred (by omega), n_m1 (by omega)]
    exact propext ⟨fun q => q.elim, fun q => absurd q z⟩
def encS (d : Nat) : Nat := d / 256 + 8 * (d % 256)
def BH (h : St) (a : Nat) (mk : Nat → Nat) (ls : Nat → List Nat) (aw : Nat → Nat) (n : Nat) (nd : Nat → Nat) : Prop :=
  (∀ e, e < 256 → ∃ b, hi h (a + 8) e = nI b ∧ b < 256 ∧ ∀ x, x < 8 → (b.testBit x = true ↔ mk (256 * x + e) ≠ 0)) ∧ (∀ i, i < n → hi h (a + 12) i = nI (encS (aw i))) ∧ (∀ u, u < 201 → lnk (hi h (a + 11)) n (ls u) (hi h (a + 10) u)) ∧ hi h a 13 = nI n ∧ ∀ x, x < 8 → hi h (a + 3) x = nI (nd x) + -nI 1
def ndD (a : Nat) : Nat → Prop := fun o => o = a ∨ o = a + 3 ∨ o = a + 8 ∨ o = a + 10 ∨ o = a + 11 ∨ o = a + 12
section
variable {h : St} {a p s t : Nat} {P : PT} {mk : Nat → Nat} {ls : Nat → List Nat} {aw : Nat → Nat} {n : Nat} {nd : Nat → Nat} {pp cc : Nat}
theorem PR.keepN {g : St} (H : PR h a P s) (q : Ch (ndD a) h g) : PR g a P s := by
  refine ⟨fun b h1 h2 => ?_, fun x hx => ?_⟩
  · rw [(q.2 (a + 5) (by unfold ndD; omega)).1, (q.2 (a + 6) (by unfold ndD; omega)).1]
    exact H.1 b h1 h2
  · rw [(q.2 (a + 7) (by unfold ndD; omega)).1]
    exact H.2 x hx
theorem x_await (hA : AS h a) (hB : BH h a mk ls aw n nd) (hn1 : n < 3073) {u : Nat} (hu : u < 201) (d : Nat) : ∃ g, DX0_await (sI (sI (sR fr0 0 a) 1 (nI (encS d))) 2 (nI u)) h = some ((), g) ∧ BH g a mk (fuL ls u (n :: ls u)) (fuN aw n d) (n + 1) nd ∧ Ch (ndD a) h g ∧ ∀ j, j ≠ 13 → hi g a j = hi h a j := by
  obtain ⟨b1, b2, b3, b4, b5⟩ := hB
  have k10 := hA.k10
  have k11 := hA.k11
  have k12 := hA.k12
  have e1 : DX11_cell (sI (sR fr0 0 (a + 10)) 1 (nI u)) h = some (hi h (a + 10) u, h) := x_cellN (by rw [k10]) (hA.ne 10) (by rw [k10]; exact hu) (by rw [k10]; decide)
  have e2 : DX11_put (sI (sI (sR fr0 0 (a + 12)) 1 (nI n)) 2 (nI (encS d))) h = some ((), wI h (a + 12) n (nI (encS d))) := x_put (by rw [k12]) (hA.ne 12) (by rw [k12]; exact hn1) (by rw [k12]; decide)
  have e3 : DX11_put (sI (sI (sR fr0 0 (a + 11)) 1 (nI n)) 2 (hi h (a + 10) u)) (wI h (a + 12) n (nI (encS d))) = some ((), wI (wI h (a + 12) n (nI (encS d))) (a + 11) n (hi h (a + 10) u)) := x_put (by rw [w_hk, k11]) (hA.ne 11) (by rw [w_hk, k11]; exact hn1) (by rw [w_hk, k11]; decide)
  have e4 : DX11_put (sI (sI (sR fr0 0 (a + 10)) 1 (nI u)) 2 (nI n)) (wI (wI h (a + 12) n (nI (encS d))) (a + 11) n (hi h (a + 10) u)) = some ((), wI (wI (wI h (a + 12) n (nI (encS d))) (a + 11) n (hi h (a + 10) u)) (a + 10) u (nI n)) := x_put (by rw [w_hk, w_hk, k10]) (hA.ne 10) (by rw [w_hk, w_hk, k10]; exact hu) (by rw [w_hk, w_hk, k10]; decide)
  have hn2 : ¬ 3073 ≤ n := by omega
  refine ⟨wI (wI (wI (wI h (a + 12) n (nI (encS d))) (a + 11) n (hi h (a + 10) u)) (a + 10) u (nI n)) a 13 (nI (n + 1)), ?_, ⟨fun e he => ?_, fun i hi1 => ?_, fun v hv => ?_, w_eq _ _ _ _, fun x hx => ?_⟩, ?_, fun j hj => ?_⟩
  · simp (disch := omega) only [ob_t, ob_n, ob_ite, e_cI, e_cL, e_cR, e_vI, e_vL, e_vR, e_d2, e_d2_a, e_d2_b, e_d2z, e_d2z_a, e_d2z_b, e_d1, e_d1_a, e_GI, e_GI_a, e_GL, e_GL_a, e_GR, e_GR_a, e_AI, e_AI_a, e_AI_b, e_AB, e_AB_a, e_AB_b, e_AZ, e_AZ_a, e_AZ_b, e_AL, e_AL_a, e_AL_b, e_AR, e_AR_a, e_AR_b, e_Len, e_Len_a, e_CI, e_CI_a, e_CI_b, e_CZ, e_CZ_a, e_And, e_kAnd, e_Or, e_kOr, e_Not, e_kNot, e_B, e_kB, e_T, e_kT, e_NN, e_kNN, e_NewA, e_NewA_a, e_NewC, e_kNewC, e_aN, e_aI, e_aI_a, e_aI_b, e_aL, e_aL_a, e_aL_b, e_aR, e_aR_a, e_aR_b, e_Call, e_kCall, e_CallV, e_kCallV, e_SetI, e_kSetI, e_SetL, e_kSetL, e_SetR, e_kSetR, e_Inc, e_Skip, e_Brk, e_Cnt, e_Ret, e_kRet, e_Ret0, e_Seq, e_kSeq0, e_kSeq1, e_kSeq2, e_kSeqR, e_If, e_kIf, e_Do, e_kDo, e_Sup, e_kN0, e_d3, e_k3a, e_k3b, e_k3c, e_P, e_kPa, e_kPb, e_UA, e_kUAa, e_kUAb, e_kUAc, e_UL, e_kULa, e_kULb, e_kULc, e_UF, e_kUFa, e_kUFb, e_Cp, e_kCp, e_Sw, e_kSwa, e_kSwb0, e_kSwb1, e_kSwbR, e_M1, e_kM1, e_MZ, e_kMZ, e_MN, e_kMN, e_Tv, e_kTv, e_Tc, e_kTc, e_lpS, e_kLp, e_kLpB0, e_kLpB1, e_kLpB2, e_kLpBR, e_kLpU, e_dwS, e_kDwB0, e_kDwC, f_II, f_LL, f_RR, f_IL, f_IR, f_LI, f_LR, f_RI, f_RL, o_iadd, o_isub, o_imul, o_iand, o_ior, o_ixor, o_ladd, o_lsub, o_lmul, o_land, o_lor, o_ishl, o_ishr, o_iushr, o_lshl, o_lshr, o_lcmp, o_i2l, o_l2i, o_i2b, o_i2s, o_lneg, o_ineg, o_imax, o_imin, o_idiv, o_irem, o_ldiv, o_lrem, r_lt, r_le, r_gt, r_ge, r_eq, r_ne, q_lt, q_le, q_gt, q_ge, q_eq, q_ne, decide_eq_true_eq, idI, and_true, true_and, and_false, false_and, or_true, true_or, or_false, false_or, not_true_eq_false, not_false_eq_true, if_true, if_false, ite_self, Bool.not_true, Bool.not_false, Bool.false_eq_true, Bool.true_eq_false, decide_true, decide_false, ne_eq, reduceIte, Nat.reduceEqDiff, Option.some.injEq, Prod.mk.injEq, eq_self, fa_lit, nI_add, pk_mul, nI_ltI, nI_leI, nI_eq, b01, b0, b1, x_hasBit, Nat.reduceLeDiff, Nat.reduceAdd, Nat.reduceMul, Nat.reduceSub, Nat.lt_irrefl, Nat.reduceLT, n_inb, nI_clamp, w_hr, w_hk, w_hl, w_eq, w_ne, wl_hr, wl_hk, wl_hi, wl_eq, wl_ne, hA.k, hA.k1, hA.k2, hA.k3, hA.k4, hA.k5, hA.k6, hA.k7, hA.k8, hA.k9, hA.k10, hA.k11, hA.k12, hA.r0, hA.r1, hA.r2, hA.r3, hA.r4, hA.r5, hA.r6, hA.r7, hA.r8, hA.r10, hA.r11, hA.r12, f_ss, f_sR, stI, fI, DX0_await, BX0_await, e1, b4, hn2, e2, e3, e4]
  · obtain ⟨b, q1, q2⟩ := b1 e he
    exact ⟨b, by rw [w_ne (by omega), w_ne (by omega), w_ne (by omega), w_ne (by omega)]; exact q1, q2⟩
  · rw [w_ne (by omega), w_ne (by omega), w_ne (by omega)]
    by_cases z : i = n
    · subst z
      rw [w_eq]
      unfold fuN
      rw [if_pos rfl]
    · rw [w_ne (by omega)]
      unfold fuN
      rw [if_neg z]
      exact b2 i (by omega)
  · have hx : ∀ i, hi (wI (wI (wI (wI h (a + 12) n (nI (encS d))) (a + 11) n (hi h (a + 10) u)) (a + 10) u (nI n)) a 13 (nI (n + 1))) (a + 11) i = if i = n then hi h (a + 10) u else hi h (a + 11) i := fun i => by
      rw [w_ne (by omega), w_ne (by omega)]
      by_cases z : i = n
      · subst z; rw [w_eq, if_pos rfl]
      · rw [w_ne (by omega), w_ne (by omega), if_neg z]
    have hex := lnk.ext (nx := hi h (a + 11)) (ny := hi (wI (wI (wI (wI h (a + 12) n (nI (encS d))) (a + 11) n (hi h (a + 10) u)) (a + 10) u (nI n)) a 13 (nI (n + 1))) (a + 11)) (n := n) (m := n + 1) (fun i hi1 => by rw [hx, if_neg (by omega)]) (by omega)
    by_cases z : v = u
    · subst z
      rw [fuL_eq]
      refine ⟨by rw [w_ne (by omega), w_eq], by omega, ?_⟩
      rw [hx n, if_pos rfl]
      exact hex _ _ (b3 v hv)
    · rw [fuL_ne ls _ z, w_ne (by omega), w_ne (by omega), w_ne (by omega), w_ne (by omega)]
      exact hex _ _ (b3 v hv)
  · rw [w_ne (by omega), w_ne (by omega), w_ne (by omega), w_ne (by omega)]
    exact b5 x hx
  · exact (((Ch.w (D := ndD a) (by unfold ndD; omega) _ _ _).tr (Ch.w (by unfold ndD; omega) _ _ _)).tr (Ch.w (by unfold ndD; omega) _ _ _)).tr (Ch.w (by unfold ndD; omega) _ _ _)
  · rw [w_ne (by omega), w_ne (by omega), w_ne (by omega), w_ne (by omega)]
theorem x_mark (hA : AS h a) (hB : BH h a mk ls aw n nd) {c : Nat} (hx : c / 256 < 8) : ∃ b, b < 256 ∧ (∀ y, y < 8 → (b.testBit y = true ↔ mk (256 * y + c % 256) ≠ 0)) ∧ DX0_markSeen (sI (sI (sR fr0 0 a) 1 (nI (c / 256))) 2 (nI (c % 256))) h = some (if mk c = 0 then nI 1 else nI 0, wI h (a + 8) (c % 256) (nI (b ||| 2 ^ (c / 256)))) := by
  have he : c % 256 < 256 := Nat.mod_lt _ (by decide)
  obtain ⟨b, e1, hb, hbit⟩ := hB.1 (c % 256) he
  refine ⟨b, hb, hbit, ?_⟩
  have k8 := hA.k8
  have hq := hbit (c / 256) hx
  rw [show 256 * (c / 256) + c % 256 = c by omega] at hq
  generalize c % 256 = e at he e1 hbit
  generalize c / 256 = x at hx hq
  have e2 : DX11_cell (sI (sR fr0 0 (a + 8)) 1 (nI e)) h = some (nI b, h) := by
    rw [x_cellN (by rw [k8]) (hA.ne 8) (by rw [k8]; exact he) (by rw [k8]; decide), e1]
  have e3 : DX11_put (sI (sI (sR fr0 0 (a + 8)) 1 (nI e)) 2 (nI (b ||| 2 ^ x))) h = some ((), wI h (a + 8) e (nI (b ||| 2 ^ x))) := x_put (by rw [k8]) (hA.ne 8) (by rw [k8]; exact he) (by rw [k8]; decide)
  by_cases z : mk c = 0
  · have zb : ¬ b.testBit x = true := fun q => hq.mp q z
    simp (disch := omega) only [ob_t, ob_n, ob_ite, e_cI, e_cL, e_cR, e_vI, e_vL, e_vR, e_d2, e_d2_a, e_d2_b, e_d2z, e_d2z_a, e_d2z_b, e_d1, e_d1_a, e_GI, e_GI_a, e_GL, e_GL_a, e_GR, e_GR_a, e_AI, e_AI_a, e_AI_b, e_AB, e_AB_a, e_AB_b, e_AZ, e_AZ_a, e_AZ_b, e_AL, e_AL_a, e_AL_b, e_AR, e_AR_a, e_AR_b, e_Len, e_Len_a, e_CI, e_CI_a, e_CI_b, e_CZ, e_CZ_a, e_And, e_kAnd, e_Or, e_kOr, e_Not, e_kNot, e_B, e_kB, e_T, e_kT, e_NN, e_kNN, e_NewA, e_NewA_a, e_NewC, e_kNewC, e_aN, e_aI, e_aI_a, e_aI_b, e_aL, e_aL_a, e_aL_b, e_aR, e_aR_a, e_aR_b, e_Call, e_kCall, e_CallV, e_kCallV, e_SetI, e_kSetI, e_SetL, e_kSetL, e_SetR, e_kSetR, e_Inc, e_Skip, e_Brk, e_Cnt, e_Ret, e_kRet, e_Ret0, e_Seq, e_kSeq0, e_kSeq1, e_kSeq2, e_kSeqR, e_If, e_kIf, e_Do, e_kDo, e_Sup, e_kN0, e_d3, e_k3a, e_k3b, e_k3c, e_P, e_kPa, e_kPb, e_UA, e_kUAa, e_kUAb, e_kUAc, e_UL, e_kULa, e_kULb, e_kULc, e_UF, e_kUFa, e_kUFb, e_Cp, e_kCp, e_Sw, e_kSwa, e_kSwb0, e_kSwb1, e_kSwbR, e_M1, e_kM1, e_MZ, e_kMZ, e_MN, e_kMN, e_Tv, e_kTv, e_Tc, e_kTc, e_lpS, e_kLp, e_kLpB0, e_kLpB1, e_kLpB2, e_kLpBR, e_kLpU, e_dwS, e_kDwB0, e_kDwC, f_II, f_LL, f_RR, f_IL, f_IR, f_LI, f_LR, f_RI, f_RL, o_iadd, o_isub, o_imul, o_iand, o_ior, o_ixor, o_ladd, o_lsub, o_lmul, o_land, o_lor, o_ishl, o_ishr, o_iushr, o_lshl, o_lshr, o_lcmp, o_i2l, o_l2i, o_i2b, o_i2s, o_lneg, o_ineg, o_imax, o_imin, o_idiv, o_irem, o_ldiv, o_lrem, r_lt, r_le, r_gt, r_ge, r_eq, r_ne, q_lt, q_le, q_gt, q_ge, q_eq, q_ne, decide_eq_true_eq, idI, and_true, true_and, and_false, false_and, or_true, true_or, or_false, false_or, not_true_eq_false, not_false_eq_true, if_true, if_false, ite_self, Bool.not_true, Bool.not_false, Bool.false_eq_true, Bool.true_eq_false, decide_true, decide_false, ne_eq, reduceIte, Nat.reduceEqDiff, Option.some.injEq, Prod.mk.injEq, eq_self, fa_lit, nI_add, pk_mul, nI_ltI, nI_leI, nI_eq, b01, b0, b1, x_hasBit, Nat.reduceLeDiff, Nat.reduceAdd, Nat.reduceMul, Nat.reduceSub, Nat.lt_irrefl, Nat.reduceLT, n_inb, nI_clamp, w_hr, w_hk, w_hl, w_eq, w_ne, wl_hr, wl_hk, wl_hi, wl_eq, wl_ne, hA.k, hA.k1, hA.k2, hA.k3, hA.k4, hA.k5, hA.k6, hA.k7, hA.k8, hA.k9, hA.k10, hA.k11, hA.k12, hA.r0, hA.r1, hA.r2, hA.r3, hA.r4, hA.r5, hA.r6, hA.r7, hA.r8, hA.r10, hA.r11, hA.r12, f_ss, f_sR, stI, fI, DX0_markSeen, BX0_markSeen, e2, n_shl, fa_or, e3, zb, z]
  · have zb : b.testBit x = true := hq.mpr z
    simp (disch := omega) only [ob_t, ob_n, ob_ite, e_cI, e_cL, e_cR, e_vI, e_vL, e_vR, e_d2, e_d2_a, e_d2_b, e_d2z, e_d2z_a, e_d2z_b, e_d1, e_d1_a, e_GI, e_GI_a, e_GL, e_GL_a, e_GR, e_GR_a, e_AI, e_AI_a, e_AI_b, e_AB, e_AB_a, e_AB_b, e_AZ, e_AZ_a, e_AZ_b, e_AL, e_AL_a, e_AL_b, e_AR, e_AR_a, e_AR_b, e_Len, e_Len_a, e_CI, e_CI_a, e_CI_b, e_CZ, e_CZ_a, e_And, e_kAnd, e_Or, e_kOr, e_Not, e_kNot, e_B, e_kB, e_T, e_kT, e_NN, e_kNN, e_NewA, e_NewA_a, e_NewC, e_kNewC, e_aN, e_aI, e_aI_a, e_aI_b, e_aL, e_aL_a, e_aL_b, e_aR, e_aR_a, e_aR_b, e_Call, e_kCall, e_CallV, e_kCallV, e_SetI, e_kSetI, e_SetL, e_kSetL, e_SetR, e_kSetR, e_Inc, e_Skip, e_Brk, e_Cnt, e_Ret, e_kRet, e_Ret0, e_Seq, e_kSeq0, e_kSeq1, e_kSeq2, e_kSeqR, e_If, e_kIf, e_Do, e_kDo, e_Sup, e_kN0, e_d3, e_k3a, e_k3b, e_k3c, e_P, e_kPa, e_kPb, e_UA, e_kUAa, e_kUAb, e_kUAc, e_UL, e_kULa, e_kULb, e_kULc, e_UF, e_kUFa, e_kUFb, e_Cp, e_kCp, e_Sw, e_kSwa, e_kSwb0, e_kSwb1, e_kSwbR, e_M1, e_kM1, e_MZ, e_kMZ, e_MN, e_kMN, e_Tv, e_kTv, e_Tc, e_kTc, e_lpS, e_kLp, e_kLpB0, e_kLpB1, e_kLpB2, e_kLpBR, e_kLpU, e_dwS, e_kDwB0, e_kDwC, f_II, f_LL, f_RR, f_IL, f_IR, f_LI, f_LR, f_RI, f_RL, o_iadd, o_isub, o_imul, o_iand, o_ior, o_ixor, o_ladd, o_lsub, o_lmul, o_land, o_lor, o_ishl, o_ishr, o_iushr, o_lshl, o_lshr, o_lcmp, o_i2l, o_l2i, o_i2b, o_i2s, o_lneg, o_ineg, o_imax, o_imin, o_idiv, o_irem, o_ldiv, o_lrem, r_lt, r_le, r_gt, r_ge, r_eq, r_ne, q_lt, q_le, q_gt, q_ge, q_eq, q_ne, decide_eq_true_eq, idI, and_true, true_and, and_false, false_and, or_true, true_or, or_false, false_or, not_true_eq_false, not_false_eq_true, if_true, if_false, ite_self, Bool.not_true, Bool.not_false, Bool.false_eq_true, Bool.true_eq_false, decide_true, decide_false, ne_eq, reduceIte, Nat.reduceEqDiff, Option.some.injEq, Prod.mk.injEq, eq_self, fa_lit, nI_add, pk_mul, nI_ltI, nI_leI, nI_eq, b01, b0, b1, x_hasBit, Nat.reduceLeDiff, Nat.reduceAdd, Nat.reduceMul, Nat.reduceSub, Nat.lt_irrefl, Nat.reduceLT, n_inb, nI_clamp, w_hr, w_hk, w_hl, w_eq, w_ne, wl_hr, wl_hk, wl_hi, wl_eq, wl_ne, hA.k, hA.k1, hA.k2, hA.k3, hA.k4, hA.k5, hA.k6, hA.k7, hA.k8, hA.k9, hA.k10, hA.k11, hA.k12, hA.r0, hA.r1, hA.r2, hA.r3, hA.r4, hA.r5, hA.r6, hA.r7, hA.r8, hA.r10, hA.r11, hA.r12, f_ss, f_sR, stI, fI, DX0_markSeen, BX0_markSeen, e2, n_shl, fa_or, e3, zb, z]
theorem BH.mark (hB : BH h a mk ls aw n nd) {c b : Nat} (hx : c / 256 < 8) (hb : b < 256) (hbit : ∀ y, y < 8 → (b.testBit y = true ↔ mk (256 * y + c % 256) ≠ 0)) : BH (wI h (a + 8) (c % 256) (nI (b ||| 2 ^ (c / 256)))) a (fuN mk c 1) ls aw n nd := by
  obtain ⟨b1, b2, b3, b4, b5⟩ := hB
  refine ⟨fun e he => ?_, fun i hi1 => by rw [w_ne (by omega)]; exact b2 i hi1, fun u hu => ?_, by rw [w_ne (by omega)]; exact b4, fun x hx => by rw [w_ne (by omega)]; exact b5 x hx⟩
  · by_cases z : e = c % 256
    · subst z
      refine ⟨b ||| 2 ^ (c / 256), w_eq _ _ _ _, or_lt (k := 8) hb (pow_lt hx), fun y hy => ?_⟩
      rw [Nat.testBit_or, bit_pw]
      unfold fuN
      by_cases w : y = c / 256
      · rw [if_pos (by omega)]
        simp [w]
      · rw [if_neg (by omega)]
        simp [w]
        exact hbit y hy
    · obtain ⟨b', q1, q2, q3⟩ := b1 e he
      refine ⟨b', by rw [w_ne (by omega)]; exact q1, q2, fun y hy => ?_⟩
      unfold fuN
      rw [if_neg (by omega)]
      exact q3 y hy
  · have e : ∀ i, hi (wI h (a + 8) (c % 256) (nI (b ||| 2 ^ (c / 256)))) (a + 11) i = hi h (a + 11) i := fun i => w_ne (by omega) _ _
    rw [w_ne (by omega)]
    exact lnk.ext (fun i _ => e i) (Nat.le_refl _) _ _ (b3 u hu)
theorem x_settle (hA : AS h a) (hG : PG h p P) (hs : s < P 0 7) (hd : p + 16 ≤ a ∨ a + 13 ≤ p) (ht : t < 201) (hP : PR h a P s) {i : Nat} {l : List Nat} (hl : ls t = i :: l) (hB : BH h a mk (fuL ls t l) aw n nd) (H : AB P s t mk ls aw n nd pp cc 8) : ∃ g mk' ls' aw' n' nd' cc', DX0_settle (sI (sI (sR (sR fr0 0 a) 1 p) 2 (nI (encS (aw i)))) 3 (nI t)) h = some ((), g) ∧ BH g a mk' ls' aw' n' nd' ∧ AB P s t mk' ls' aw' n' nd' (pp + 1) cc' 8 ∧ Ch (ndD a) h g ∧ ∀ j, j ≠ 13 → hi g a j = hi h a j := by
  have hW := hG.w
  have hb := hW.all
  obtain ⟨c, hc⟩ : ∃ c, c = aw i := ⟨_, rfl⟩
  have hR : Rt P s t c := by rw [hc]; exact (H.2.2.1 t ht i (by rw [hl]; exact List.mem_cons_self)).2
  have hOK := Rt_ok hW hs hR
  have h7 : c / 256 < P 0 4 := hOK.1
  have hcl := hOK.lt hb.2.2.2.1
  have e1 := x_houseOf (h := h) (n := encS c) (by unfold encS; omega)
  have e2 := x_setOf (h := h) (n := encS c) (by unfold encS; omega)
  have hm8 : c % 256 < 256 := Nat.mod_lt _ (by decide)
  rw [show encS c % 8 = c / 256 by unfold encS; omega] at e1
  have e8 : encS c / 8 = c % 256 := by
    have h78 : c / 256 < 8 := by omega
    unfold encS
    generalize c / 256 = q at h78
    generalize c % 256 = r
    omega
  rw [e8, show c % 256 % 256 = c % 256 by omega] at e2
  obtain ⟨b, hb8, hbit, e3⟩ := x_mark hA hB (c := c) (by omega)
  have hB1 := hB.mark (c := c) (by omega) hb8 hbit
  obtain ⟨h1, hh1⟩ : ∃ h1, h1 = wI h (a + 8) (c % 256) (nI (b ||| 2 ^ (c / 256))) := ⟨_, rfl⟩
  rw [← hh1] at e3 hB1
  have c1 : Ch (ndD a) h h1 := by rw [hh1]; exact Ch.w (by unfold ndD; omega) _ _ _
  have f1 : ∀ j, hi h1 a j = hi h a j := fun j => by rw [hh1]; exact w_ne (by omega) _ _
  rw [← hc]
  by_cases z : mk c = 0
  · have H1 := H.mark hW hs ht hl (by rw [← hc]; exact z)
    rw [← hc] at H1
    rw [if_pos z] at e3
    have hA1 := hA.to c1.1
    have k3 := hA1.k3
    have k5 := hA1.k5
    have e4 : DX11_cell (sI (sR fr0 0 (a + 3)) 1 (nI (c / 256))) h1 = some (nI (nd (c / 256)) + -nI 1, h1) := by
      rw [x_cellN (by rw [k3]) (hA.ne 3) (by rw [k3]; show c / 256 < 8; omega) (by rw [k3]; decide), hB1.2.2.2.2 _ (by omega)]
    have hnd : nd (c / 256) ≤ 202 := by
      by_cases y : nd (c / 256) = 0
      · omega
      · have := ((H.2.2.2.2.2.2.2.1 (c / 256) (by omega)).2 y).1; omega
    have e5 : DX11_put (sI (sI (sR fr0 0 (a + 3)) 1 (nI (c / 256))) 2 (nI t)) h1 = some ((), wI h1 (a + 3) (c / 256) (nI t)) := x_put (by rw [k3]) (hA.ne 3) (by rw [k3]; show c / 256 < 8; omega) (by rw [k3]; decide)
    -- behind the least strength
    obtain ⟨h2, hh2, hB2, c2, f2⟩ : ∃ h2, h2 = (if nd (c / 256) = 0 then wI h1 (a + 3) (c / 256) (nI t) else h1) ∧ BH h2 a (fuN mk c 1) (fuL ls t l) aw n (ndE nd (c / 256) t) ∧ Ch (ndD a) h1 h2 ∧ ∀ j, hi h2 a j = hi h1 a j := by
      refine ⟨_, rfl, ?_⟩
      unfold ndE
      by_cases y : nd (c / 256) = 0
      · rw [if_pos y, if_pos y]
        obtain ⟨b1, b2, b3, b4, b5⟩ := hB1
        refine ⟨⟨fun e he => by obtain ⟨b', q⟩ := b1 e he; exact ⟨b', by rw [w_ne (by omega)]; exact q⟩, fun i hi1 => by rw [w_ne (by omega)]; exact b2 i hi1, fun u hu => ?_, by rw [w_ne (by omega)]; exact b4, fun x hx => ?_⟩, Ch.w (by unfold ndD; omega) _ _ _, fun j => w_ne (by omega) _ _⟩
        · have e : ∀ i, hi (wI h1 (a + 3) (c / 256) (nI t)) (a + 11) i = hi h1 (a + 11) i := fun i => w_ne (by omega) _ _
          rw [w_ne (by omega)]
          exact lnk.ext (fun i _ => e i) (Nat.le_refl _) _ _ (b3 u hu)
        · unfold fuN
          by_cases w : x = c / 256
          · subst w
            rw [w_eq, if_pos rfl]
            exact (pk_m1 t).symm
          · rw [w_ne (by omega), if_neg w]
            exact b5 x hx
      · rw [if_neg y, if_neg y]
        exact ⟨hB1, Ch.rf _ _, fun _ => rfl⟩
    have c12 := c1.tr c2
    have hA2 := hA.to c12.1
    have hG2 := hG.ch c12 (fun j hj => by unfold ndD; omega)
    have hP2 := hP.keepN c12
    have hp1 := pop_pos (c % 256) hm8 (met_pos hOK.2.1)
    have hp8 := pop_8 (c % 256) hm8
    have hwl := lbN_lt hW hs (pop (c % 256) - 1)
    have hwt := wt_le hW hs hwl
    have k52 := hA2.k5
    have e6 : DX11_cell (sI (sR fr0 0 (a + 5)) 1 (nI (pop (c % 256)))) h2 = some (nI (wt P s (lbN P s (pop (c % 256) - 1))), h2) := by
      rw [x_cellN (by rw [k52]) (hA.ne 5) (by rw [k52]; show pop (c % 256) < 9; omega) (by rw [k52]; decide), (hP2.1 _ hp1 hp8).1]
    have hmc : fuN mk c 1 c ≠ 0 := by
      unfold fuN
      rw [if_pos rfl]
      decide
    obtain ⟨g, L, ls', aw', n', hBg, hAg, hcg, hfg⟩ : ∃ g, LX0_settle_1 (sI (sI (sI (sI (sI (sI (sR (sR fr0 0 a) 1 p) 2 (nI (encS c))) 3 (nI t)) 4 (nI (c / 256))) 5 (nI (c % 256))) 6 (nI (wt P s (lbN P s (pop (c % 256) - 1))))) 7 (nI 0)) h2 = some (.inl 0, sI (sI (sI (sI (sI (sI (sR (sR fr0 0 a) 1 p) 2 (nI (encS c))) 3 (nI t)) 4 (nI (c / 256))) 5 (nI (c % 256))) 6 (nI (wt P s (lbN P s (pop (c % 256) - 1))))) 7 (nI (P 0 4)), g) ∧ ∃ ls' aw' n', BH g a (fuN mk c 1) ls' aw' n' (ndE nd (c / 256) t) ∧ AB P s t (fuN mk c 1) ls' aw' n' (ndE nd (c / 256) t) (pp + 1) c (P 0 4) ∧ Ch (ndD a) h2 g ∧ ∀ j, j ≠ 13 → hi g a j = hi h2 a j := by
      unfold LX0_settle_1
      refine loop_g (fun k => sI (sI (sI (sI (sI (sI (sR (sR fr0 0 a) 1 p) 2 (nI (encS c))) 3 (nI t)) 4 (nI (c / 256))) 5 (nI (c % 256))) 6 (nI (wt P s (lbN P s (pop (c % 256) - 1))))) 7 (nI k)) (fun k g => ∃ ls' aw' n', BH g a (fuN mk c 1) ls' aw' n' (ndE nd (c / 256) t) ∧ AB P s t (fuN mk c 1) ls' aw' n' (ndE nd (c / 256) t) (pp + 1) c k ∧ Ch (ndD a) h2 g ∧ ∀ j, j ≠ 13 → hi g a j = hi h2 a j) (P 0 4) rfl ⟨fuL ls t l, aw, n, hB2, H1, Ch.rf _ _, fun _ _ => rfl⟩ (fun k g hk hI => ?_) (fun g hI => ?_)
      · obtain ⟨ls', aw', n', hBg, hAg, hcg, hfg⟩ := hI
        have hA := hA2.to hcg.1
        have hGg := hG2.ch hcg (fun j hj => by unfold ndD; omega)
        have hPg := hP2.keepN hcg
        have kp := hGg.s.k
        have f4 := hGg.r.sc (k := 4) (by decide)
        have k7 := hA.k7
        have f7 : DX11_cell (sI (sR fr0 0 (a + 7)) 1 (nI (c / 256))) g = some (nI (doors P (c / 256) 0), g) := by
          rw [x_cellN (by rw [k7]) (hA.ne 7) (by rw [k7]; show c / 256 < 8; omega) (by rw [k7]; decide), hPg.2 _ h7]
        have hdl := doors_lt hW (c / 256) 0
        have fc := x_climbTo hGg.s hGg.r hW h7 hk
        have hcb := climb_le hW (a := c / 256) hk
        by_cases d : dorE P c k
        · obtain ⟨hAn, hn1, hu1⟩ := hAg.await hW hs ht hk d hmc
          obtain ⟨g4, a4, b4, c4, d4⟩ := x_await hA hBg hn1 hu1 (toE c k)
          have est : nI k ||| nI (c % 256 ||| 2 ^ k) <<< (nI 3 &&& nI 31) = nI (encS (toE c k)) := by
            have hx8 : c % 256 ||| 2 ^ k < 2 ^ 8 := or_lt hm8 (pow_lt (by omega))
            rw [n_shlk (by decide) (by omega), fa_or, n_or2 (k := 3) (by omega)]
            unfold encS
            rw [toE_div (by omega), toE_mod (by omega)]
            congr 1
            omega
          have hew : wt P s (lbN P s (pop (c % 256) - 1)) + climb P (c / 256) k = ewE P s c k := rfl
          have d : (doors P (c / 256) 0).testBit k = true := d
          refine ⟨g4, ?_, _, _, _, b4, hAn, hcg.tr c4, fun j hj => (d4 j hj).trans (hfg j hj)⟩
          simp (disch := omega) only [ob_t, ob_n, ob_ite, e_cI, e_cL, e_cR, e_vI, e_vL, e_vR, e_d2, e_d2_a, e_d2_b, e_d2z, e_d2z_a, e_d2z_b, e_d1, e_d1_a, e_GI, e_GI_a, e_GL, e_GL_a, e_GR, e_GR_a, e_AI, e_AI_a, e_AI_b, e_AB, e_AB_a, e_AB_b, e_AZ, e_AZ_a, e_AZ_b, e_AL, e_AL_a, e_AL_b, e_AR, e_AR_a, e_AR_b, e_Len, e_Len_a, e_CI, e_CI_a, e_CI_b, e_CZ, e_CZ_a, e_And, e_kAnd, e_Or, e_kOr, e_Not, e_kNot, e_B, e_kB, e_T, e_kT, e_NN, e_kNN, e_NewA, e_NewA_a, e_NewC, e_kNewC, e_aN, e_aI, e_aI_a, e_aI_b, e_aL, e_aL_a, e_aL_b, e_aR, e_aR_a, e_aR_b, e_Call, e_kCall, e_CallV, e_kCallV, e_SetI, e_kSetI, e_SetL, e_kSetL, e_SetR, e_kSetR, e_Inc, e_Skip, e_Brk, e_Cnt, e_Ret, e_kRet, e_Ret0, e_Seq, e_kSeq0, e_kSeq1, e_kSeq2, e_kSeqR, e_If, e_kIf, e_Do, e_kDo, e_Sup, e_kN0, e_d3, e_k3a, e_k3b, e_k3c, e_P, e_kPa, e_kPb, e_UA, e_kUAa, e_kUAb, e_kUAc, e_UL, e_kULa, e_kULb, e_kULc, e_UF, e_kUFa, e_kUFb, e_Cp, e_kCp, e_Sw, e_kSwa, e_kSwb0, e_kSwb1, e_kSwbR, e_M1, e_kM1, e_MZ, e_kMZ, e_MN, e_kMN, e_Tv, e_kTv, e_Tc, e_kTc, e_lpS, e_kLp, e_kLpB0, e_kLpB1, e_kLpB2, e_kLpBR, e_kLpU, e_dwS, e_kDwB0, e_kDwC, f_II, f_LL, f_RR, f_IL, f_IR, f_LI, f_LR, f_RI, f_RL, o_iadd, o_isub, o_imul, o_iand, o_ior, o_ixor, o_ladd, o_lsub, o_lmul, o_land, o_lor, o_ishl, o_ishr, o_iushr, o_lshl, o_lshr, o_lcmp, o_i2l, o_l2i, o_i2b, o_i2s, o_lneg, o_ineg, o_imax, o_imin, o_idiv, o_irem, o_ldiv, o_lrem, r_lt, r_le, r_gt, r_ge, r_eq, r_ne, q_lt, q_le, q_gt, q_ge, q_eq, q_ne, decide_eq_true_eq, idI, and_true, true_and, and_false, false_and, or_true, true_or, or_false, false_or, not_true_eq_false, not_false_eq_true, if_true, if_false, ite_self, Bool.not_true, Bool.not_false, Bool.false_eq_true, Bool.true_eq_false, decide_true, decide_false, ne_eq, reduceIte, Nat.reduceEqDiff, Option.some.injEq, Prod.mk.injEq, eq_self, fa_lit, nI_add, pk_mul, nI_ltI, nI_leI, nI_eq, b01, b0, b1, x_hasBit, Nat.reduceLeDiff, Nat.reduceAdd, Nat.reduceMul, Nat.reduceSub, Nat.lt_irrefl, Nat.reduceLT, n_inb, nI_clamp, w_hr, w_hk, w_hl, w_eq, w_ne, wl_hr, wl_hk, wl_hi, wl_eq, wl_ne, hA.k, hA.k1, hA.k2, hA.k3, hA.k4, hA.k5, hA.k6, hA.k7, hA.k8, hA.k9, hA.k10, hA.k11, hA.k12, hA.r0, hA.r1, hA.r2, hA.r3, hA.r4, hA.r5, hA.r6, hA.r7, hA.r8, hA.r10, hA.r11, hA.r12, f_ss, f_sR, stI, fI, kp, f4, hk, f7, d, fc, hew, o_imax, n_max, n_shl, fa_or, est, a4]
        · have d' : ¬ (doors P (c / 256) 0).testBit k = true := d
          refine ⟨g, ?_, ls', aw', n', hBg, hAg.skip d, hcg, hfg⟩
          simp (disch := omega) only [ob_t, ob_n, ob_ite, e_cI, e_cL, e_cR, e_vI, e_vL, e_vR, e_d2, e_d2_a, e_d2_b, e_d2z, e_d2z_a, e_d2z_b, e_d1, e_d1_a, e_GI, e_GI_a, e_GL, e_GL_a, e_GR, e_GR_a, e_AI, e_AI_a, e_AI_b, e_AB, e_AB_a, e_AB_b, e_AZ, e_AZ_a, e_AZ_b, e_AL, e_AL_a, e_AL_b, e_AR, e_AR_a, e_AR_b, e_Len, e_Len_a, e_CI, e_CI_a, e_CI_b, e_CZ, e_CZ_a, e_And, e_kAnd, e_Or, e_kOr, e_Not, e_kNot, e_B, e_kB, e_T, e_kT, e_NN, e_kNN, e_NewA, e_NewA_a, e_NewC, e_kNewC, e_aN, e_aI, e_aI_a, e_aI_b, e_aL, e_aL_a, e_aL_b, e_aR, e_aR_a, e_aR_b, e_Call, e_kCall, e_CallV, e_kCallV, e_SetI, e_kSetI, e_SetL, e_kSetL, e_SetR, e_kSetR, e_Inc, e_Skip, e_Brk, e_Cnt, e_Ret, e_kRet, e_Ret0, e_Seq, e_kSeq0, e_kSeq1, e_kSeq2, e_kSeqR, e_If, e_kIf, e_Do, e_kDo, e_Sup, e_kN0, e_d3, e_k3a, e_k3b, e_k3c, e_P, e_kPa, e_kPb, e_UA, e_kUAa, e_kUAb, e_kUAc, e_UL, e_kULa, e_kULb, e_kULc, e_UF, e_kUFa, e_kUFb, e_Cp, e_kCp, e_Sw, e_kSwa, e_kSwb0, e_kSwb1, e_kSwbR, e_M1, e_kM1, e_MZ, e_kMZ, e_MN, e_kMN, e_Tv, e_kTv, e_Tc, e_kTc, e_lpS, e_kLp, e_kLpB0, e_kLpB1, e_kLpB2, e_kLpBR, e_kLpU, e_dwS, e_kDwB0, e_kDwC, f_II, f_LL, f_RR, f_IL, f_IR, f_LI, f_LR, f_RI, f_RL, o_iadd, o_isub, o_imul, o_iand, o_ior, o_ixor, o_ladd, o_lsub, o_lmul, o_land, o_lor, o_ishl, o_ishr, o_iushr, o_lshl, o_lshr, o_lcmp, o_i2l, o_l2i, o_i2b, o_i2s, o_lneg, o_ineg, o_imax, o_imin, o_idiv, o_irem, o_ldiv, o_lrem, r_lt, r_le, r_gt, r_ge, r_eq, r_ne, q_lt, q_le, q_gt, q_ge, q_eq, q_ne, decide_eq_true_eq, idI, and_true, true_and, and_false, false_and, or_true, true_or, or_false, false_or, not_true_eq_false, not_false_eq_true, if_true, if_false, ite_self, Bool.not_true, Bool.not_false, Bool.false_eq_true, Bool.true_eq_false, decide_true, decide_false, ne_eq, reduceIte, Nat.reduceEqDiff, Option.some.injEq, Prod.mk.injEq, eq_self, fa_lit, nI_add, pk_mul, nI_ltI, nI_leI, nI_eq, b01, b0, b1, x_hasBit, Nat.reduceLeDiff, Nat.reduceAdd, Nat.reduceMul, Nat.reduceSub, Nat.lt_irrefl, Nat.reduceLT, n_inb, nI_clamp, w_hr, w_hk, w_hl, w_eq, w_ne, wl_hr, wl_hk, wl_hi, wl_eq, wl_ne, hA.k, hA.k1, hA.k2, hA.k3, hA.k4, hA.k5, hA.k6, hA.k7, hA.k8, hA.k9, hA.k10, hA.k11, hA.k12, hA.r0, hA.r1, hA.r2, hA.r3, hA.r4, hA.r5, hA.r6, hA.r7, hA.r8, hA.r10, hA.r11, hA.r12, f_ss, f_sR, stI, fI, kp, f4, hk, f7, d']
      · obtain ⟨ls', aw', n', hBg, hAg, hcg, hfg⟩ := hI
        have hGg := hG2.ch hcg (fun j hj => by unfold ndD; omega)
        have kp := hGg.s.k
        have f4 := hGg.r.sc (k := 4) (by decide)
        have hA := hA2.to hcg.1
        simp (disch := omega) only [ob_t, ob_n, ob_ite, e_cI, e_cL, e_cR, e_vI, e_vL, e_vR, e_d2, e_d2_a, e_d2_b, e_d2z, e_d2z_a, e_d2z_b, e_d1, e_d1_a, e_GI, e_GI_a, e_GL, e_GL_a, e_GR, e_GR_a, e_AI, e_AI_a, e_AI_b, e_AB, e_AB_a, e_AB_b, e_AZ, e_AZ_a, e_AZ_b, e_AL, e_AL_a, e_AL_b, e_AR, e_AR_a, e_AR_b, e_Len, e_Len_a, e_CI, e_CI_a, e_CI_b, e_CZ, e_CZ_a, e_And, e_kAnd, e_Or, e_kOr, e_Not, e_kNot, e_B, e_kB, e_T, e_kT, e_NN, e_kNN, e_NewA, e_NewA_a, e_NewC, e_kNewC, e_aN, e_aI, e_aI_a, e_aI_b, e_aL, e_aL_a, e_aL_b, e_aR, e_aR_a, e_aR_b, e_Call, e_kCall, e_CallV, e_kCallV, e_SetI, e_kSetI, e_SetL, e_kSetL, e_SetR, e_kSetR, e_Inc, e_Skip, e_Brk, e_Cnt, e_Ret, e_kRet, e_Ret0, e_Seq, e_kSeq0, e_kSeq1, e_kSeq2, e_kSeqR, e_If, e_kIf, e_Do, e_kDo, e_Sup, e_kN0, e_d3, e_k3a, e_k3b, e_k3c, e_P, e_kPa, e_kPb, e_UA, e_kUAa, e_kUAb, e_kUAc, e_UL, e_kULa, e_kULb, e_kULc, e_UF, e_kUFa, e_kUFb, e_Cp, e_kCp, e_Sw, e_kSwa, e_kSwb0, e_kSwb1, e_kSwbR, e_M1, e_kM1, e_MZ, e_kMZ, e_MN, e_kMN, e_Tv, e_kTv, e_Tc, e_kTc, e_lpS, e_kLp, e_kLpB0, e_kLpB1, e_kLpB2, e_kLpBR, e_kLpU, e_dwS, e_kDwB0, e_kDwC, f_II, f_LL, f_RR, f_IL, f_IR, f_LI, f_LR, f_RI, f_RL, o_iadd, o_isub, o_imul, o_iand, o_ior, o_ixor, o_ladd, o_lsub, o_lmul, o_land, o_lor, o_ishl, o_ishr, o_iushr, o_lshl, o_lshr, o_lcmp, o_i2l, o_l2i, o_i2b, o_i2s, o_lneg, o_ineg, o_imax, o_imin, o_idiv, o_irem, o_ldiv, o_lrem, r_lt, r_le, r_gt, r_ge, r_eq, r_ne, q_lt, q_le, q_gt, q_ge, q_eq, q_ne, decide_eq_true_eq, idI, and_true, true_and, and_false, false_and, or_true, true_or, or_false, false_or, not_true_eq_false, not_false_eq_true, if_true, if_false, ite_self, Bool.not_true, Bool.not_false, Bool.false_eq_true, Bool.true_eq_false, decide_true, decide_false, ne_eq, reduceIte, Nat.reduceEqDiff, Option.some.injEq, Prod.mk.injEq, eq_self, fa_lit, nI_add, pk_mul, nI_ltI, nI_leI, nI_eq, b01, b0, b1, x_hasBit, Nat.reduceLeDiff, Nat.reduceAdd, Nat.reduceMul, Nat.reduceSub, Nat.lt_irrefl, Nat.reduceLT, n_inb, nI_clamp, w_hr, w_hk, w_hl, w_eq, w_ne, wl_hr, wl_hk, wl_hi, wl_eq, wl_ne, hA.k, hA.k1, hA.k2, hA.k3, hA.k4, hA.k5, hA.k6, hA.k7, hA.k8, hA.k9, hA.k10, hA.k11, hA.k12, hA.r0, hA.r1, hA.r2, hA.r3, hA.r4, hA.r5, hA.r6, hA.r7, hA.r8, hA.r10, hA.r11, hA.r12, f_ss, f_sR, stI, fI, kp, f4]
    have hcd : cdE P c (P 0 4) = deE P c := by
      have : ∀ j, P 0 4 + j ≤ 8 → cdE P c (P 0 4 + j) = cdE P c (P 0 4) := by
        intro j
        induction j with
        | zero => intro _; rfl
        | succ j ih =>
          intro hj
          have e : cdE P c (P 0 4 + (j + 1)) = cdE P c (P 0 4 + j) := by
            unfold cdE
            rw [show P 0 4 + (j + 1) = P 0 4 + j + 1 by omega, fb_ct_succ]
            have : (doors P (c / 256) 0).testBit (P 0 4 + j) = false := by
              cases q : (doors P (c / 256) 0).testBit (P 0 4 + j)
              · rfl
              · have := doors_h hW q; omega
            rw [this]
            rfl
          rw [e, ih (by omega)]
      have h8 := this (8 - P 0 4) (by omega)
      rw [show P 0 4 + (8 - P 0 4) = 8 by omega] at h8
      rw [← h8]
      rfl
    refine ⟨g, _, ls', aw', n', _, c, ?_, hBg, hAg.any (Nat.le_refl _) hcd c, c12.tr hcg, fun j hj => (hfg j hj).trans ((f2 j).trans (f1 j))⟩
    have hm1 := n_m1z (v := nd (c / 256)) (by omega)
    by_cases y : nd (c / 256) = 0
    · rw [if_pos y] at hh2
      rw [hh2] at L e6
      have hm0 : (nI (nd (c / 256)) + -nI 1 = -nI 1) = True := by rw [hm1]; exact eq_true y
      have r1 := c1.1.1
      have k1 := c1.1.2.1
      simp (disch := omega) only [ob_t, ob_n, ob_ite, e_cI, e_cL, e_cR, e_vI, e_vL, e_vR, e_d2, e_d2_a, e_d2_b, e_d2z, e_d2z_a, e_d2z_b, e_d1, e_d1_a, e_GI, e_GI_a, e_GL, e_GL_a, e_GR, e_GR_a, e_AI, e_AI_a, e_AI_b, e_AB, e_AB_a, e_AB_b, e_AZ, e_AZ_a, e_AZ_b, e_AL, e_AL_a, e_AL_b, e_AR, e_AR_a, e_AR_b, e_Len, e_Len_a, e_CI, e_CI_a, e_CI_b, e_CZ, e_CZ_a, e_And, e_kAnd, e_Or, e_kOr, e_Not, e_kNot, e_B, e_kB, e_T, e_kT, e_NN, e_kNN, e_NewA, e_NewA_a, e_NewC, e_kNewC, e_aN, e_aI, e_aI_a, e_aI_b, e_aL, e_aL_a, e_aL_b, e_aR, e_aR_a, e_aR_b, e_Call, e_kCall, e_CallV, e_kCallV, e_SetI, e_kSetI, e_SetL, e_kSetL, e_SetR, e_kSetR, e_Inc, e_Skip, e_Brk, e_Cnt, e_Ret, e_kRet, e_Ret0, e_Seq, e_kSeq0, e_kSeq1, e_kSeq2, e_kSeqR, e_If, e_kIf, e_Do, e_kDo, e_Sup, e_kN0, e_d3, e_k3a, e_k3b, e_k3c, e_P, e_kPa, e_kPb, e_UA, e_kUAa, e_kUAb, e_kUAc, e_UL, e_kULa, e_kULb, e_kULc, e_UF, e_kUFa, e_kUFb, e_Cp, e_kCp, e_Sw, e_kSwa, e_kSwb0, e_kSwb1, e_kSwbR, e_M1, e_kM1, e_MZ, e_kMZ, e_MN, e_kMN, e_Tv, e_kTv, e_Tc, e_kTc, e_lpS, e_kLp, e_kLpB0, e_kLpB1, e_kLpB2, e_kLpBR, e_kLpU, e_dwS, e_kDwB0, e_kDwC, f_II, f_LL, f_RR, f_IL, f_IR, f_LI, f_LR, f_RI, f_RL, o_iadd, o_isub, o_imul, o_iand, o_ior, o_ixor, o_ladd, o_lsub, o_lmul, o_land, o_lor, o_ishl, o_ishr, o_iushr, o_lshl, o_lshr, o_lcmp, o_i2l, o_l2i, o_i2b, o_i2s, o_lneg, o_ineg, o_imax, o_imin, o_idiv, o_irem, o_ldiv, o_lrem, r_lt, r_le, r_gt, r_ge, r_eq, r_ne, q_lt, q_le, q_gt, q_ge, q_eq, q_ne, decide_eq_true_eq, idI, and_true, true_and, and_false, false_and, or_true, true_or, or_false, false_or, not_true_eq_false, not_false_eq_true, if_true, if_false, ite_self, Bool.not_true, Bool.not_false, Bool.false_eq_true, Bool.true_eq_false, decide_true, decide_false, ne_eq, reduceIte, Nat.reduceEqDiff, Option.some.injEq, Prod.mk.injEq, eq_self, fa_lit, nI_add, pk_mul, nI_ltI, nI_leI, nI_eq, b01, b0, b1, x_hasBit, Nat.reduceLeDiff, Nat.reduceAdd, Nat.reduceMul, Nat.reduceSub, Nat.lt_irrefl, Nat.reduceLT, n_inb, nI_clamp, w_hr, w_hk, w_hl, w_eq, w_ne, wl_hr, wl_hk, wl_hi, wl_eq, wl_ne, hA.k, hA.k1, hA.k2, hA.k3, hA.k4, hA.k5, hA.k6, hA.k7, hA.k8, hA.k9, hA.k10, hA.k11, hA.k12, hA.r0, hA.r1, hA.r2, hA.r3, hA.r4, hA.r5, hA.r6, hA.r7, hA.r8, hA.r10, hA.r11, hA.r12, f_ss, f_sR, stI, fI, DX0_settle, BX0_settle, e1, e2, e3, r1, k1, e4, hm0, e5, x_bitCount, e6, L]
    · rw [if_neg y] at hh2
      rw [hh2] at L e6
      have hm0 : (nI (nd (c / 256)) + -nI 1 = -nI 1) = False := by rw [hm1]; exact eq_false y
      have r1 := c1.1.1
      have k1 := c1.1.2.1
      simp (disch := omega) only [ob_t, ob_n, ob_ite, e_cI, e_cL, e_cR, e_vI, e_vL, e_vR, e_d2, e_d2_a, e_d2_b, e_d2z, e_d2z_a, e_d2z_b, e_d1, e_d1_a, e_GI, e_GI_a, e_GL, e_GL_a, e_GR, e_GR_a, e_AI, e_AI_a, e_AI_b, e_AB, e_AB_a, e_AB_b, e_AZ, e_AZ_a, e_AZ_b, e_AL, e_AL_a, e_AL_b, e_AR, e_AR_a, e_AR_b, e_Len, e_Len_a, e_CI, e_CI_a, e_CI_b, e_CZ, e_CZ_a, e_And, e_kAnd, e_Or, e_kOr, e_Not, e_kNot, e_B, e_kB, e_T, e_kT, e_NN, e_kNN, e_NewA, e_NewA_a, e_NewC, e_kNewC, e_aN, e_aI, e_aI_a, e_aI_b, e_aL, e_aL_a, e_aL_b, e_aR, e_aR_a, e_aR_b, e_Call, e_kCall, e_CallV, e_kCallV, e_SetI, e_kSetI, e_SetL, e_kSetL, e_SetR, e_kSetR, e_Inc, e_Skip, e_Brk, e_Cnt, e_Ret, e_kRet, e_Ret0, e_Seq, e_kSeq0, e_kSeq1, e_kSeq2, e_kSeqR, e_If, e_kIf, e_Do, e_kDo, e_Sup, e_kN0, e_d3, e_k3a, e_k3b, e_k3c, e_P, e_kPa, e_kPb, e_UA, e_kUAa, e_kUAb, e_kUAc, e_UL, e_kULa, e_kULb, e_kULc, e_UF, e_kUFa, e_kUFb, e_Cp, e_kCp, e_Sw, e_kSwa, e_kSwb0, e_kSwb1, e_kSwbR, e_M1, e_kM1, e_MZ, e_kMZ, e_MN, e_kMN, e_Tv, e_kTv, e_Tc, e_kTc, e_lpS, e_kLp, e_kLpB0, e_kLpB1, e_kLpB2, e_kLpBR, e_kLpU, e_dwS, e_kDwB0, e_kDwC, f_II, f_LL, f_RR, f_IL, f_IR, f_LI, f_LR, f_RI, f_RL, o_iadd, o_isub, o_imul, o_iand, o_ior, o_ixor, o_ladd, o_lsub, o_lmul, o_land, o_lor, o_ishl, o_ishr, o_iushr, o_lshl, o_lshr, o_lcmp, o_i2l, o_l2i, o_i2b, o_i2s, o_lneg, o_ineg, o_imax, o_imin, o_idiv, o_irem, o_ldiv, o_lrem, r_lt, r_le, r_gt, r_ge, r_eq, r_ne, q_lt, q_le, q_gt, q_ge, q_eq, q_ne, decide_eq_true_eq, idI, and_true, true_and, and_false, false_and, or_true, true_or, or_false, false_or, not_true_eq_false, not_false_eq_true, if_true, if_false, ite_self, Bool.not_true, Bool.not_false, Bool.false_eq_true, Bool.true_eq_false, decide_true, decide_false, ne_eq, reduceIte, Nat.reduceEqDiff, Option.some.injEq, Prod.mk.injEq, eq_self, fa_lit, nI_add, pk_mul, nI_ltI, nI_leI, nI_eq, b01, b0, b1, x_hasBit, Nat.reduceLeDiff, Nat.reduceAdd, Nat.reduceMul, Nat.reduceSub, Nat.lt_irrefl, Nat.reduceLT, n_inb, nI_clamp, w_hr, w_hk, w_hl, w_eq, w_ne, wl_hr, wl_hk, wl_hi, wl_eq, wl_ne, hA.k, hA.k1, hA.k2, hA.k3, hA.k4, hA.k5, hA.k6, hA.k7, hA.k8, hA.k9, hA.k10, hA.k11, hA.k12, hA.r0, hA.r1, hA.r2, hA.r3, hA.r4, hA.r5, hA.r6, hA.r7, hA.r8, hA.r10, hA.r11, hA.r12, f_ss, f_sR, stI, fI, DX0_settle, BX0_settle, e1, e2, e3, r1, k1, e4, hm0, x_bitCount, e6, L]
  · have H1 := H.seen hW ht hl (by rw [← hc]; exact z)
    rw [if_neg z] at e3
    have hBs : BH h1 a mk (fuL ls t l) aw n nd := by
      obtain ⟨b1, b2⟩ := hB1
      refine ⟨fun e he => ?_, b2⟩
      obtain ⟨b', q1, q2, q3⟩ := b1 e he
      refine ⟨b', q1, q2, fun x hx => (q3 x hx).trans ?_⟩
      unfold fuN
      by_cases w : 256 * x + e = c
      · rw [if_pos w, w]; exact ⟨fun _ => z, fun _ => by decide⟩
      · rw [if_neg w]
    refine ⟨h1, mk, fuL ls t l, aw, n, nd, cc, ?_, hBs, H1, c1, fun j _ => f1 j⟩
    simp (disch := omega) only [ob_t, ob_n, ob_ite, e_cI, e_cL, e_cR, e_vI, e_vL, e_vR, e_d2, e_d2_a, e_d2_b, e_d2z, e_d2z_a, e_d2z_b, e_d1, e_d1_a, e_GI, e_GI_a, e_GL, e_GL_a, e_GR, e_GR_a, e_AI, e_AI_a, e_AI_b, e_AB, e_AB_a, e_AB_b, e_AZ, e_AZ_a, e_AZ_b, e_AL, e_AL_a, e_AL_b, e_AR, e_AR_a, e_AR_b, e_Len, e_Len_a, e_CI, e_CI_a, e_CI_b, e_CZ, e_CZ_a, e_And, e_kAnd, e_Or, e_kOr, e_Not, e_kNot, e_B, e_kB, e_T, e_kT, e_NN, e_kNN, e_NewA, e_NewA_a, e_NewC, e_kNewC, e_aN, e_aI, e_aI_a, e_aI_b, e_aL, e_aL_a, e_aL_b, e_aR, e_aR_a, e_aR_b, e_Call, e_kCall, e_CallV, e_kCallV, e_SetI, e_kSetI, e_SetL, e_kSetL, e_SetR, e_kSetR, e_Inc, e_Skip, e_Brk, e_Cnt, e_Ret, e_kRet, e_Ret0, e_Seq, e_kSeq0, e_kSeq1, e_kSeq2, e_kSeqR, e_If, e_kIf, e_Do, e_kDo, e_Sup, e_kN0, e_d3, e_k3a, e_k3b, e_k3c, e_P, e_kPa, e_kPb, e_UA, e_kUAa, e_kUAb, e_kUAc, e_UL, e_kULa, e_kULb, e_kULc, e_UF, e_kUFa, e_kUFb, e_Cp, e_kCp, e_Sw, e_kSwa, e_kSwb0, e_kSwb1, e_kSwbR, e_M1, e_kM1, e_MZ, e_kMZ, e_MN, e_kMN, e_Tv, e_kTv, e_Tc, e_kTc, e_lpS, e_kLp, e_kLpB0, e_kLpB1, e_kLpB2, e_kLpBR, e_kLpU, e_dwS, e_kDwB0, e_kDwC, f_II, f_LL, f_RR, f_IL, f_IR, f_LI, f_LR, f_RI, f_RL, o_iadd, o_isub, o_imul, o_iand, o_ior, o_ixor, o_ladd, o_lsub, o_lmul, o_land, o_lor, o_ishl, o_ishr, o_iushr, o_lshl, o_lshr, o_lcmp, o_i2l, o_l2i, o_i2b, o_i2s, o_lneg, o_ineg, o_imax, o_imin, o_idiv, o_irem, o_ldiv, o_lrem, r_lt, r_le, r_gt, r_ge, r_eq, r_ne, q_lt, q_le, q_gt, q_ge, q_eq, q_ne, decide_eq_true_eq, idI, and_true, true_and, and_false, false_and, or_true, true_or, or_false, false_or, not_true_eq_false, not_false_eq_true, if_true, if_false, ite_self, Bool.not_true, Bool.not_false, Bool.false_eq_true, Bool.true_eq_false, decide_true, decide_false, ne_eq, reduceIte, Nat.reduceEqDiff, Option.some.injEq, Prod.mk.injEq, eq_self, fa_lit, nI_add, pk_mul, nI_ltI, nI_leI, nI_eq, b01, b0, b1, x_hasBit, Nat.reduceLeDiff, Nat.reduceAdd, Nat.reduceMul, Nat.reduceSub, Nat.lt_irrefl, Nat.reduceLT, n_inb, nI_clamp, w_hr, w_hk, w_hl, w_eq, w_ne, wl_hr, wl_hk, wl_hi, wl_eq, wl_ne, hA.k, hA.k1, hA.k2, hA.k3, hA.k4, hA.k5, hA.k6, hA.k7, hA.k8, hA.k9, hA.k10, hA.k11, hA.k12, hA.r0, hA.r1, hA.r2, hA.r3, hA.r4, hA.r5, hA.r6, hA.r7, hA.r8, hA.r10, hA.r11, hA.r12, f_ss, f_sR, stI, fI, DX0_settle, BX0_settle, e1, e2, e3]
end
