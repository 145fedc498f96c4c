set_option maxRecDepth 100000
set_option maxHeartbeats 1000000
/-! the model's DAYS: its picture, a CARRY -/
def CX (a m : Nat) (h g : St) : Prop := Ch (fun o => o = m ∨ (m + a ≤ o ∧ o < m + 31)) h g ∧ ∀ k, k ≠ 45 → k ≠ 46 → hi g m k = hi h m k
theorem CX.rf (a m : Nat) (h : St) : CX a m h h := ⟨Ch.rf _ h, fun _ _ _ => rfl⟩
theorem CX.tr {n m : Nat} {a b c : St} (h : CX n m a b) (k : CX n m b c) : CX n m a c := ⟨h.1.tr k.1, fun j h1 h2 => (k.2 j h1 h2).trans (h.2 j h1 h2)⟩
theorem CX.cm {a m : Nat} {h g : St} (q : CX a m h g) (ha : 17 ≤ a) : CM m h g := ⟨q.1.mono (fun o ho => by unfold mD; omega), fun k hk1 => q.2 k (by omega) (by omega)⟩
theorem CX.wr {a m r : Nat} (h : St) (k : Nat) (v : Int32) (ha : 1 ≤ a) (h1 : m + a ≤ r) (h2 : r < m + 31) : CX a m h (wI h r k v) := ⟨Ch.w (Or.inr ⟨h1, h2⟩) h k v, fun j _ _ => by rw [wI_hi, if_neg (by omega)]⟩
theorem CX.wm {a m : Nat} (h : St) (k : Nat) (v : Int32) (h1 : k = 45 ∨ k = 46) : CX a m h (wI h m k v) := ⟨Ch.w (Or.inl rfl) h k v, fun j _ _ => by rw [wI_hi, if_neg (by omega)]⟩
theorem CX.at {a m : Nat} {h g : St} (q : CX a m h g) {r : Nat} (h1 : r < m ∨ (m < r ∧ r < m + a) ∨ m + 31 ≤ r) (k : Nat) : hi g r k = hi h r k := (q.1.2 r (by omega)).1 k
theorem CX.mono {a b m : Nat} {h g : St} (q : CX b m h g) (ab : a ≤ b) : CX a m h g := ⟨q.1.mono (fun o ho => by omega), q.2⟩
def CY (m : Nat) (h g : St) : Prop := CX 23 m h g ∧ ∀ c, hi g (m + 29) c = hi h (m + 29) c
theorem CY.rf (m : Nat) (h : St) : CY m h h := ⟨CX.rf _ _ _, fun _ => rfl⟩
theorem CY.tr {m : Nat} {a b c : St} (h : CY m a b) (k : CY m b c) : CY m a c := ⟨h.1.tr k.1, fun j => (k.2 j).trans (h.2 j)⟩
theorem CM.hr {m : Nat} {h g : St} (q : CM m h g) : hr g = hr h := q.1.1.1
theorem CM.hk {m : Nat} {h g : St} (q : CM m h g) : hk g = hk h := q.1.1.2.1
theorem CX.hr {a m : Nat} {h g : St} (q : CX a m h g) : hr g = hr h := q.1.1.1
theorem CX.hk {a m : Nat} {h g : St} (q : CX a m h g) : hk g = hk h := q.1.1.2.1
theorem CY.hr {m : Nat} {h g : St} (q : CY m h g) : hr g = hr h := q.1.1.1.1
theorem CY.hk {m : Nat} {h g : St} (q : CY m h g) : hk g = hk h := q.1.1.1.2.1
theorem CY.cm {m : Nat} {h g : St} (q : CY m h g) : CM m h g := q.1.cm (by decide)
def mo (j : Nat) : Nat := [0, 23, 24, 25, 27, 26, 28].getD j 0
def mq0 (k : Nat) : Nat := [27, 29, 30, 28, 0, 0, 45, 46].getD k 0
def mq (j k : Nat) : Nat := if j = 0 then mq0 k else k
def menc (j k v : Nat) : Int32 := if j = 0 ∧ k = 1 then nI v + -nI 1 else nI v
def MIn (P : PT) (j k : Nat) : Prop := j < 7 ∧ (j = 0 → k < 8 ∧ k ≠ 4 ∧ k ≠ 5) ∧ (j = 1 → k < P 0 6) ∧ (j = 2 ∨ j = 3 ∨ j = 5 → k < P 0 7) ∧ (j = 4 → k / 8 < P 0 7 ∧ k % 8 < P 0 4) ∧ (j = 6 → k < P 9 1)
def RN (h : St) (m : Nat) (P S : PT) : Prop := ∀ j k, MIn P j k → hi h (m + mo j) (mq j k) = menc j k (S j k)
theorem mo_inj : ∀ a, a < 7 → ∀ b, b < 7 → mo a = mo b → a = b := by decide
theorem mq_inj : ∀ a, a < 8 → ∀ b, b < 8 → (a ≠ 4 ∧ a ≠ 5 ∧ b ≠ 4 ∧ b ≠ 5 ∧ mq0 a = mq0 b) → a = b := by decide
theorem RN.w {h : St} {m : Nat} {P S : PT} (hR : RN h m P S) {j k : Nat} (v : Nat) (h7 : j < 7) (h0 : j = 0 → k < 8 ∧ k ≠ 4 ∧ k ≠ 5) : RN (wI h (m + mo j) (mq j k) (menc j k v)) m P (up S j k v) := by
  intro a b hab
  rw [wI_hi]
  unfold up
  by_cases z : a = j ∧ b = k
  · obtain ⟨rfl, rfl⟩ := z
    rw [if_pos ⟨rfl, rfl⟩, if_pos ⟨rfl, rfl⟩]
  · rw [if_neg z, if_neg (fun y => ?_)]
    · exact hR a b hab
    · have e1 := mo_inj a hab.1 j h7 (by omega)
      subst e1
      refine z ⟨rfl, ?_⟩
      have y2 := y.2
      unfold mq at y2
      by_cases a0 : a = 0
      · rw [if_pos a0, if_pos a0] at y2
        have h1 := h0 a0
        have h2 := hab.2.1 a0
        exact mq_inj b h2.1 k h1.1 ⟨h2.2.1, h2.2.2, h1.2.1, h1.2.2, y2⟩
      · rw [if_neg a0, if_neg a0] at y2
        exact y2
theorem RN.cong {h : St} {m : Nat} {P S T : PT} (hR : RN h m P S) (q : ∀ j k, MIn P j k → S j k = T j k) : RN h m P T := fun j k hjk => by rw [hR j k hjk, q j k hjk]
theorem RN.other {h g : St} {m : Nat} {P S : PT} (hR : RN h m P S) (q : ∀ j k, MIn P j k → hi g (m + mo j) (mq j k) = hi h (m + mo j) (mq j k)) : RN g m P S := fun j k hjk => by rw [q j k hjk, hR j k hjk]
theorem mo_le : ∀ a, a < 7 → mo a < 29 := by decide
section
variable {h : St} {m : Nat} {P S : PT}
theorem RN.n0 (hR : RN h m P S) : hi h m 27 = nI (S 0 0) := hR 0 0 (by unfold MIn; omega)
theorem RN.n1 (hR : RN h m P S) : hi h m 29 = nI (S 0 1) + -nI 1 := hR 0 1 (by unfold MIn; omega)
theorem RN.n2 (hR : RN h m P S) : hi h m 30 = nI (S 0 2) := hR 0 2 (by unfold MIn; omega)
theorem RN.n3 (hR : RN h m P S) : hi h m 28 = nI (S 0 3) := hR 0 3 (by unfold MIn; omega)
theorem RN.n6 (hR : RN h m P S) : hi h m 45 = nI (S 0 6) := hR 0 6 (by unfold MIn; omega)
theorem RN.n7 (hR : RN h m P S) : hi h m 46 = nI (S 0 7) := hR 0 7 (by unfold MIn; omega)
theorem RN.a1 (hR : RN h m P S) {k : Nat} (hk1 : k < P 0 6) : hi h (m + 23) k = nI (S 1 k) := hR 1 k (by unfold MIn; omega)
theorem RN.a2 (hR : RN h m P S) {k : Nat} (hk1 : k < P 0 7) : hi h (m + 24) k = nI (S 2 k) := hR 2 k (by unfold MIn; omega)
theorem RN.a3 (hR : RN h m P S) {k : Nat} (hk1 : k < P 0 7) : hi h (m + 25) k = nI (S 3 k) := hR 3 k (by unfold MIn; omega)
theorem RN.a5 (hR : RN h m P S) {k : Nat} (hk1 : k < P 0 7) : hi h (m + 26) k = nI (S 5 k) := hR 5 k (by unfold MIn; omega)
theorem RN.a6 (hR : RN h m P S) {k : Nat} (hk1 : k < P 9 1) : hi h (m + 28) k = nI (S 6 k) := hR 6 k (by unfold MIn; omega)
theorem RN.a4 (hR : RN h m P S) {s a : Nat} (hs : s < P 0 7) (ha : a < P 0 4) (h8 : P 0 4 ≤ 8) : hi h (m + 27) (8 * s + a) = nI (S 4 (8 * s + a)) := hR 4 (8 * s + a) (by unfold MIn; omega)
theorem M_put (hR : RN h m P S) {j k n : Nat} (v : Nat) (h1 : 1 ≤ j) (h7 : j < 7) (e : hk h (m + mo j) = (13, n)) (hk1 : k < n) (hn1 : n < 2 ^ 31) : ∃ g, stI 13 idI (m + mo j) (nI k) (nI v) h = some g ∧ RN g m P (up S j k v) ∧ CY m h g := by
  have h2 := mo_le j h7
  have h3 : 23 ≤ mo j := by
    have : ∀ a, a < 7 → 1 ≤ a → 23 ≤ mo a := by decide
    exact this j h7 h1
  refine ⟨wI h (m + mo j) k (nI v), st_ok (by rw [e]) (by rw [e]; exact hk1) (by rw [e]; exact hn1), ?_, CX.wr h k _ (by omega) (by omega) (by omega), fun c => by rw [wI_hi, if_neg (by omega)]⟩
  have := hR.w v (j := j) (k := k) h7 (by omega)
  unfold mq menc at this
  rw [if_neg (by omega), if_neg (by omega)] at this
  exact this
theorem M_fld (H : MS h m) (hR : RN h m P S) {k : Nat} (v : Nat) (hk1 : k = 6 ∨ k = 7) : ∃ g, fI 12 (mq0 k) m (nI v) h = some g ∧ RN g m P (up S 0 k v) ∧ CY m h g := by
  refine ⟨wI h m (mq0 k) (nI v), ?_, ?_, CX.wm h _ _ ?_, fun c => by rw [wI_hi, if_neg (by omega)]⟩
  · unfold fI
    rw [if_pos (by rw [H.k])]
  · have := hR.w v (j := 0) (k := k) (by decide) (by omega)
    unfold mq menc at this
    rw [if_pos rfl, if_neg (by omega)] at this
    exact this
  · rcases hk1 with rfl | rfl <;> decide
theorem M_oth (hR : RN h m P S) {r k n : Nat} (v : Int32) (hr1 : r = 29 ∨ r = 30) (e : hk h (m + r) = (13, n)) (hk1 : k < n) (hn1 : n < 2 ^ 31) : stI 13 idI (m + r) (nI k) v h = some (wI h (m + r) k v) ∧ RN (wI h (m + r) k v) m P S ∧ CX 23 m h (wI h (m + r) k v) := by
  refine ⟨st_ok (by rw [e]) (by rw [e]; exact hk1) (by rw [e]; exact hn1), hR.other (fun j k hjk => ?_), CX.wr h k _ (by omega) (by omega) (by omega)⟩
  have h2 := mo_le j hjk.1
  rw [wI_hi, if_neg (by omega)]
theorem m_whyNow (H : MG h m P) (hR : RN h m P S) (hS : WFS P S) {i : Nat} (hi1 : i < P 9 1) : ∃ g, DX12_whyNow (sI (sR fr0 0 m) 1 (nI i)) h = some (nI (hinS P S i), g) ∧ RN g m P S ∧ CX 23 m h g ∧ (∀ c, c ≠ i → hi g (m + 29) c = hi h (m + 29) c) ∧ (hinS P S i = 0 → hi g (m + 29) i = nI (loadS P S (P 11 i) (P 12 i))) := by
  have hM := H.s
  have hb := H.w.all
  obtain ⟨hm, hs, ha, hd⟩ := H.w.cy hi1
  have hl := loadS_le H.w hS hs ha
  have hst := (H.w.cr hm).2
  have hf := hS.2.2.2.2.1 _ hs
  have hx := hS.1
  unfold WFX at hx
  have hmm := hS.2.2.2.1 _ hm
  have h6 := hS.2.1
  have h7 := hS.2.2.1
  have h3 := hS.2.2.2.2.2.1 _ hs
  have e1 : DX12_carryPart (sI (sI (sR fr0 0 m) 1 (nI i)) 2 (nI 0)) h = some (nI (P 10 i), h) := m_carryPart H hi1 (t := 0) (by decide)
  have e2 : DX12_carryPart (sI (sI (sR fr0 0 m) 1 (nI i)) 2 (nI 1)) h = some (nI (P 11 i), h) := m_carryPart H hi1 (t := 1) (by decide)
  have e3 : DX12_carryPart (sI (sI (sR fr0 0 m) 1 (nI i)) 2 (nI 2)) h = some (nI (P 12 i), h) := m_carryPart H hi1 (t := 2) (by decide)
  have f6 := hR.n6
  have f7 := hR.n7
  have e4 := hR.a1 hm
  have e5 := hR.a2 hs
  have e6 := m_isWay H (a := S 1 (P 10 i)) (b := P 12 i) hmm ha hx.2.2.1 hx.2.1 hR.n2 hR.n1
  have e7 := m_heavyOf H hs h3
  have e8 := hR.a3 hs
  have e9 := m_climbOf H (a := S 1 (P 10 i)) hmm ha
  have e10 := H.cstrong hm
  have hdl : doors P (S 2 (P 11 i)) (S 0 1) < 2 ^ 8 := doN_lt H.w _ _ _ (Nat.le_refl _)
  unfold hinS
  by_cases q1 : (S 0 6).testBit (P 10 i) = true
  · refine ⟨h, ?_, hR, CX.rf _ _ _, fun _ _ => rfl, fun z => ?_⟩
    · simp (disch := omega) only [ob_t, ob_n, ob_ite, e_cI, e_cL, e_cR, e_vI, e_vL, e_vR, e_d2, e_d2_a, e_d2_b, e_d2z, e_d2z_a, e_d2z_b, e_d1, e_d1_a, e_GI, e_GI_a, e_GL, e_GL_a, e_GR, e_GR_a, e_AI, e_AI_a, e_AI_b, e_AB, e_AB_a, e_AB_b, e_AZ, e_AZ_a, e_AZ_b, e_AL, e_AL_a, e_AL_b, e_AR, e_AR_a, e_AR_b, e_Len, e_Len_a, e_CI, e_CI_a, e_CI_b, e_CZ, e_CZ_a, e_And, e_kAnd, e_Or, e_kOr, e_Not, e_kNot, e_B, e_kB, e_T, e_kT, e_NN, e_kNN, e_NewA, e_NewA_a, e_NewC, e_kNewC, e_aN, e_aI, e_aI_a, e_aI_b, e_aL, e_aL_a, e_aL_b, e_aR, e_aR_a, e_aR_b, e_Call, e_kCall, e_CallV, e_kCallV, e_SetI, e_kSetI, e_SetL, e_kSetL, e_SetR, e_kSetR, e_Inc, e_Skip, e_Brk, e_Cnt, e_Ret, e_kRet, e_Ret0, e_Seq, e_kSeq0, e_kSeq1, e_kSeq2, e_kSeqR, e_If, e_kIf, e_Do, e_kDo, e_Sup, e_kN0, e_d3, e_k3a, e_k3b, e_k3c, e_P, e_kPa, e_kPb, e_UA, e_kUAa, e_kUAb, e_kUAc, e_UL, e_kULa, e_kULb, e_kULc, e_UF, e_kUFa, e_kUFb, e_Cp, e_kCp, e_Sw, e_kSwa, e_kSwb0, e_kSwb1, e_kSwbR, e_M1, e_kM1, e_MZ, e_kMZ, e_MN, e_kMN, e_Tv, e_kTv, e_Tc, e_kTc, e_lpS, e_kLp, e_kLpB0, e_kLpB1, e_kLpB2, e_kLpBR, e_kLpU, e_dwS, e_kDwB0, e_kDwC, f_II, f_LL, f_RR, f_IL, f_IR, f_LI, f_LR, f_RI, f_RL, o_iadd, o_isub, o_imul, o_iand, o_ior, o_ixor, o_ladd, o_lsub, o_lmul, o_land, o_lor, o_ishl, o_ishr, o_iushr, o_lshl, o_lcmp, o_i2l, o_l2i, o_i2b, o_i2s, o_lneg, o_imax, o_imin, o_idiv, o_irem, o_ldiv, o_lrem, r_lt, r_le, r_gt, r_ge, r_eq, r_ne, q_lt, q_le, q_gt, q_ge, q_eq, q_ne, decide_eq_true_eq, idI, and_true, true_and, and_false, false_and, or_true, true_or, or_false, false_or, not_true_eq_false, not_false_eq_true, if_true, if_false, ite_self, Bool.not_true, Bool.not_false, Bool.false_eq_true, Bool.true_eq_false, decide_true, decide_false, ne_eq, reduceIte, Nat.reduceEqDiff, Option.some.injEq, Prod.mk.injEq, eq_self, fa_lit, nI_add, pk_mul, nI_ltI, nI_leI, nI_eq, b01, b0, b1, x_hasBit, Nat.reduceLeDiff, Nat.reduceAdd, Nat.reduceMul, Nat.reduceSub, Nat.lt_irrefl, Nat.reduceLT, n_inb, nI_clamp, w_hr, w_hk, w_hl, w_eq, w_ne, wl_hr, wl_hk, wl_hi, wl_eq, wl_ne, hM.k, hM.k1, hM.k2, hM.k3, hM.k4, hM.k5, hM.k6, hM.k7, hM.k8, hM.k9, hM.k10, hM.k11, hM.k12, hM.k13, hM.k14, hM.k15, hM.k16, hM.k17, hM.k18, hM.k19, hM.k20, hM.k21, hM.k22, hM.k23, hM.k24, hM.k25, hM.k26, hM.k27, hM.k28, hM.k29, hM.k30, hM.k31, hM.k32, hM.k33, hM.k34, hM.k35, hM.r1, hM.r2, hM.r3, hM.r4, hM.r5, hM.r16, hM.r17, hM.r18, hM.r19, hM.r20, hM.r21, hM.r22, hM.r23, hM.r24, hM.r25, hM.r26, hM.r31, hM.r32, hM.r33, hM.r34, hM.r35, hM.r36, hM.r37, hM.r38, hM.r39, hM.r40, hM.r41, hM.r42, hM.r43, hM.r44, hM.r47, hM.r48, hM.r49, hM.r50, hM.r54, stI, fI, fZ, fL, stL, DX12_whyNow, BX12_whyNow, e1, e2, e3, f6, f7, m_isBit, q1]
    · rw [if_pos (Or.inl q1)] at z; cases z
  · by_cases q2 : (S 0 7).testBit (P 11 i) = true
    · refine ⟨h, ?_, hR, CX.rf _ _ _, fun _ _ => rfl, fun z => ?_⟩
      · simp (disch := omega) only [ob_t, ob_n, ob_ite, e_cI, e_cL, e_cR, e_vI, e_vL, e_vR, e_d2, e_d2_a, e_d2_b, e_d2z, e_d2z_a, e_d2z_b, e_d1, e_d1_a, e_GI, e_GI_a, e_GL, e_GL_a, e_GR, e_GR_a, e_AI, e_AI_a, e_AI_b, e_AB, e_AB_a, e_AB_b, e_AZ, e_AZ_a, e_AZ_b, e_AL, e_AL_a, e_AL_b, e_AR, e_AR_a, e_AR_b, e_Len, e_Len_a, e_CI, e_CI_a, e_CI_b, e_CZ, e_CZ_a, e_And, e_kAnd, e_Or, e_kOr, e_Not, e_kNot, e_B, e_kB, e_T, e_kT, e_NN, e_kNN, e_NewA, e_NewA_a, e_NewC, e_kNewC, e_aN, e_aI, e_aI_a, e_aI_b, e_aL, e_aL_a, e_aL_b, e_aR, e_aR_a, e_aR_b, e_Call, e_kCall, e_CallV, e_kCallV, e_SetI, e_kSetI, e_SetL, e_kSetL, e_SetR, e_kSetR, e_Inc, e_Skip, e_Brk, e_Cnt, e_Ret, e_kRet, e_Ret0, e_Seq, e_kSeq0, e_kSeq1, e_kSeq2, e_kSeqR, e_If, e_kIf, e_Do, e_kDo, e_Sup, e_kN0, e_d3, e_k3a, e_k3b, e_k3c, e_P, e_kPa, e_kPb, e_UA, e_kUAa, e_kUAb, e_kUAc, e_UL, e_kULa, e_kULb, e_kULc, e_UF, e_kUFa, e_kUFb, e_Cp, e_kCp, e_Sw, e_kSwa, e_kSwb0, e_kSwb1, e_kSwbR, e_M1, e_kM1, e_MZ, e_kMZ, e_MN, e_kMN, e_Tv, e_kTv, e_Tc, e_kTc, e_lpS, e_kLp, e_kLpB0, e_kLpB1, e_kLpB2, e_kLpBR, e_kLpU, e_dwS, e_kDwB0, e_kDwC, f_II, f_LL, f_RR, f_IL, f_IR, f_LI, f_LR, f_RI, f_RL, o_iadd, o_isub, o_imul, o_iand, o_ior, o_ixor, o_ladd, o_lsub, o_lmul, o_land, o_lor, o_ishl, o_ishr, o_iushr, o_lshl, o_lcmp, o_i2l, o_l2i, o_i2b, o_i2s, o_lneg, o_imax, o_imin, o_idiv, o_irem, o_ldiv, o_lrem, r_lt, r_le, r_gt, r_ge, r_eq, r_ne, q_lt, q_le, q_gt, q_ge, q_eq, q_ne, decide_eq_true_eq, idI, and_true, true_and, and_false, false_and, or_true, true_or, or_false, false_or, not_true_eq_false, not_false_eq_true, if_true, if_false, ite_self, Bool.not_true, Bool.not_false, Bool.false_eq_true, Bool.true_eq_false, decide_true, decide_false, ne_eq, reduceIte, Nat.reduceEqDiff, Option.some.injEq, Prod.mk.injEq, eq_self, fa_lit, nI_add, pk_mul, nI_ltI, nI_leI, nI_eq, b01, b0, b1, x_hasBit, Nat.reduceLeDiff, Nat.reduceAdd, Nat.reduceMul, Nat.reduceSub, Nat.lt_irrefl, Nat.reduceLT, n_inb, nI_clamp, w_hr, w_hk, w_hl, w_eq, w_ne, wl_hr, wl_hk, wl_hi, wl_eq, wl_ne, hM.k, hM.k1, hM.k2, hM.k3, hM.k4, hM.k5, hM.k6, hM.k7, hM.k8, hM.k9, hM.k10, hM.k11, hM.k12, hM.k13, hM.k14, hM.k15, hM.k16, hM.k17, hM.k18, hM.k19, hM.k20, hM.k21, hM.k22, hM.k23, hM.k24, hM.k25, hM.k26, hM.k27, hM.k28, hM.k29, hM.k30, hM.k31, hM.k32, hM.k33, hM.k34, hM.k35, hM.r1, hM.r2, hM.r3, hM.r4, hM.r5, hM.r16, hM.r17, hM.r18, hM.r19, hM.r20, hM.r21, hM.r22, hM.r23, hM.r24, hM.r25, hM.r26, hM.r31, hM.r32, hM.r33, hM.r34, hM.r35, hM.r36, hM.r37, hM.r38, hM.r39, hM.r40, hM.r41, hM.r42, hM.r43, hM.r44, hM.r47, hM.r48, hM.r49, hM.r50, hM.r54, stI, fI, fZ, fL, stL, DX12_whyNow, BX12_whyNow, e1, e2, e3, f6, f7, m_isBit, q1, q2]
      · rw [if_pos (Or.inr q2)] at z; cases z
    · have q12 : ¬ ((S 0 6).testBit (P 10 i) = true ∨ (S 0 7).testBit (P 11 i) = true) := fun z => z.elim q1 q2
      rw [if_neg q12]
      by_cases q3 : S 1 (P 10 i) = S 2 (P 11 i)
      · rw [if_neg (fun z => z q3)]
        by_cases q4 : (S 0 2).testBit (P 12 i) = true
        · rw [if_pos (Or.inl q4)]
          refine ⟨h, ?_, hR, CX.rf _ _ _, fun _ _ => rfl, fun z => by cases z⟩
          rw [if_neg (fun z => z.1 q4)] at e6
          rw [q3] at e6 e4
          simp (disch := omega) only [ob_t, ob_n, ob_ite, e_cI, e_cL, e_cR, e_vI, e_vL, e_vR, e_d2, e_d2_a, e_d2_b, e_d2z, e_d2z_a, e_d2z_b, e_d1, e_d1_a, e_GI, e_GI_a, e_GL, e_GL_a, e_GR, e_GR_a, e_AI, e_AI_a, e_AI_b, e_AB, e_AB_a, e_AB_b, e_AZ, e_AZ_a, e_AZ_b, e_AL, e_AL_a, e_AL_b, e_AR, e_AR_a, e_AR_b, e_Len, e_Len_a, e_CI, e_CI_a, e_CI_b, e_CZ, e_CZ_a, e_And, e_kAnd, e_Or, e_kOr, e_Not, e_kNot, e_B, e_kB, e_T, e_kT, e_NN, e_kNN, e_NewA, e_NewA_a, e_NewC, e_kNewC, e_aN, e_aI, e_aI_a, e_aI_b, e_aL, e_aL_a, e_aL_b, e_aR, e_aR_a, e_aR_b, e_Call, e_kCall, e_CallV, e_kCallV, e_SetI, e_kSetI, e_SetL, e_kSetL, e_SetR, e_kSetR, e_Inc, e_Skip, e_Brk, e_Cnt, e_Ret, e_kRet, e_Ret0, e_Seq, e_kSeq0, e_kSeq1, e_kSeq2, e_kSeqR, e_If, e_kIf, e_Do, e_kDo, e_Sup, e_kN0, e_d3, e_k3a, e_k3b, e_k3c, e_P, e_kPa, e_kPb, e_UA, e_kUAa, e_kUAb, e_kUAc, e_UL, e_kULa, e_kULb, e_kULc, e_UF, e_kUFa, e_kUFb, e_Cp, e_kCp, e_Sw, e_kSwa, e_kSwb0, e_kSwb1, e_kSwbR, e_M1, e_kM1, e_MZ, e_kMZ, e_MN, e_kMN, e_Tv, e_kTv, e_Tc, e_kTc, e_lpS, e_kLp, e_kLpB0, e_kLpB1, e_kLpB2, e_kLpBR, e_kLpU, e_dwS, e_kDwB0, e_kDwC, f_II, f_LL, f_RR, f_IL, f_IR, f_LI, f_LR, f_RI, f_RL, o_iadd, o_isub, o_imul, o_iand, o_ior, o_ixor, o_ladd, o_lsub, o_lmul, o_land, o_lor, o_ishl, o_ishr, o_iushr, o_lshl, o_lcmp, o_i2l, o_l2i, o_i2b, o_i2s, o_lneg, o_imax, o_imin, o_idiv, o_irem, o_ldiv, o_lrem, r_lt, r_le, r_gt, r_ge, r_eq, r_ne, q_lt, q_le, q_gt, q_ge, q_eq, q_ne, decide_eq_true_eq, idI, and_true, true_and, and_false, false_and, or_true, true_or, or_false, false_or, not_true_eq_false, not_false_eq_true, if_true, if_false, ite_self, Bool.not_true, Bool.not_false, Bool.false_eq_true, Bool.true_eq_false, decide_true, decide_false, ne_eq, reduceIte, Nat.reduceEqDiff, Option.some.injEq, Prod.mk.injEq, eq_self, fa_lit, nI_add, pk_mul, nI_ltI, nI_leI, nI_eq, b01, b0, b1, x_hasBit, Nat.reduceLeDiff, Nat.reduceAdd, Nat.reduceMul, Nat.reduceSub, Nat.lt_irrefl, Nat.reduceLT, n_inb, nI_clamp, w_hr, w_hk, w_hl, w_eq, w_ne, wl_hr, wl_hk, wl_hi, wl_eq, wl_ne, hM.k, hM.k1, hM.k2, hM.k3, hM.k4, hM.k5, hM.k6, hM.k7, hM.k8, hM.k9, hM.k10, hM.k11, hM.k12, hM.k13, hM.k14, hM.k15, hM.k16, hM.k17, hM.k18, hM.k19, hM.k20, hM.k21, hM.k22, hM.k23, hM.k24, hM.k25, hM.k26, hM.k27, hM.k28, hM.k29, hM.k30, hM.k31, hM.k32, hM.k33, hM.k34, hM.k35, hM.r1, hM.r2, hM.r3, hM.r4, hM.r5, hM.r16, hM.r17, hM.r18, hM.r19, hM.r20, hM.r21, hM.r22, hM.r23, hM.r24, hM.r25, hM.r26, hM.r31, hM.r32, hM.r33, hM.r34, hM.r35, hM.r36, hM.r37, hM.r38, hM.r39, hM.r40, hM.r41, hM.r42, hM.r43, hM.r44, hM.r47, hM.r48, hM.r49, hM.r50, hM.r54, stI, fI, fZ, fL, stL, DX12_whyNow, BX12_whyNow, e1, e2, e3, f6, f7, m_isBit, q1, q2, e4, e5, q3, e6]
        · by_cases q5 : (doors P (S 2 (P 11 i)) (S 0 1)).testBit (P 12 i) = true
          · have q45 : ¬ ((S 0 2).testBit (P 12 i) = true ∨ ¬ (doors P (S 2 (P 11 i)) (S 0 1)).testBit (P 12 i) = true) := fun z => z.elim q4 (fun y => y q5)
            rw [if_neg q45]
            rw [if_pos ⟨q4, by rw [q3]; exact q5⟩] at e6
            have e11 : wt P (P 11 i) (S 3 (P 11 i)) + climb P (S 1 (P 10 i)) (P 12 i) = loadS P S (P 11 i) (P 12 i) := by rw [q3]; rfl
            obtain ⟨a1, b1, c1⟩ := M_oth hR (r := 29) (k := i) (nI (loadS P S (P 11 i) (P 12 i))) (Or.inl rfl) hM.k29 (by omega) (by decide)
            have ra := w_eq h (m + 29) i (nI (loadS P S (P 11 i) (P 12 i)))
            have rb : hi (wI h (m + 29) i (nI (loadS P S (P 11 i) (P 12 i)))) (m + 10) (2 * P 10 i + 1) = nI (P 5 (P 10 i)) := by rw [wI_hi, if_neg (by omega)]; exact e10
            refine ⟨_, ?_, b1, c1, fun c hc => by rw [wI_hi, if_neg (by omega)], fun _ => ra⟩
            by_cases q6 : P 5 (P 10 i) < loadS P S (P 11 i) (P 12 i)
            · rw [if_pos q6]
              rw [q3] at e6 e9
              rw [q3] at e4
              rw [q3] at e11
              simp (disch := omega) only [ob_t, ob_n, ob_ite, e_cI, e_cL, e_cR, e_vI, e_vL, e_vR, e_d2, e_d2_a, e_d2_b, e_d2z, e_d2z_a, e_d2z_b, e_d1, e_d1_a, e_GI, e_GI_a, e_GL, e_GL_a, e_GR, e_GR_a, e_AI, e_AI_a, e_AI_b, e_AB, e_AB_a, e_AB_b, e_AZ, e_AZ_a, e_AZ_b, e_AL, e_AL_a, e_AL_b, e_AR, e_AR_a, e_AR_b, e_Len, e_Len_a, e_CI, e_CI_a, e_CI_b, e_CZ, e_CZ_a, e_And, e_kAnd, e_Or, e_kOr, e_Not, e_kNot, e_B, e_kB, e_T, e_kT, e_NN, e_kNN, e_NewA, e_NewA_a, e_NewC, e_kNewC, e_aN, e_aI, e_aI_a, e_aI_b, e_aL, e_aL_a, e_aL_b, e_aR, e_aR_a, e_aR_b, e_Call, e_kCall, e_CallV, e_kCallV, e_SetI, e_kSetI, e_SetL, e_kSetL, e_SetR, e_kSetR, e_Inc, e_Skip, e_Brk, e_Cnt, e_Ret, e_kRet, e_Ret0, e_Seq, e_kSeq0, e_kSeq1, e_kSeq2, e_kSeqR, e_If, e_kIf, e_Do, e_kDo, e_Sup, e_kN0, e_d3, e_k3a, e_k3b, e_k3c, e_P, e_kPa, e_kPb, e_UA, e_kUAa, e_kUAb, e_kUAc, e_UL, e_kULa, e_kULb, e_kULc, e_UF, e_kUFa, e_kUFb, e_Cp, e_kCp, e_Sw, e_kSwa, e_kSwb0, e_kSwb1, e_kSwbR, e_M1, e_kM1, e_MZ, e_kMZ, e_MN, e_kMN, e_Tv, e_kTv, e_Tc, e_kTc, e_lpS, e_kLp, e_kLpB0, e_kLpB1, e_kLpB2, e_kLpBR, e_kLpU, e_dwS, e_kDwB0, e_kDwC, f_II, f_LL, f_RR, f_IL, f_IR, f_LI, f_LR, f_RI, f_RL, o_iadd, o_isub, o_imul, o_iand, o_ior, o_ixor, o_ladd, o_lsub, o_lmul, o_land, o_lor, o_ishl, o_ishr, o_iushr, o_lshl, o_lcmp, o_i2l, o_l2i, o_i2b, o_i2s, o_lneg, o_imax, o_imin, o_idiv, o_irem, o_ldiv, o_lrem, r_lt, r_le, r_gt, r_ge, r_eq, r_ne, q_lt, q_le, q_gt, q_ge, q_eq, q_ne, decide_eq_true_eq, idI, and_true, true_and, and_false, false_and, or_true, true_or, or_false, false_or, not_true_eq_false, not_false_eq_true, if_true, if_false, ite_self, Bool.not_true, Bool.not_false, Bool.false_eq_true, Bool.true_eq_false, decide_true, decide_false, ne_eq, reduceIte, Nat.reduceEqDiff, Option.some.injEq, Prod.mk.injEq, eq_self, fa_lit, nI_add, pk_mul, nI_ltI, nI_leI, nI_eq, b01, b0, b1, x_hasBit, Nat.reduceLeDiff, Nat.reduceAdd, Nat.reduceMul, Nat.reduceSub, Nat.lt_irrefl, Nat.reduceLT, n_inb, nI_clamp, w_hr, w_hk, w_hl, w_eq, w_ne, wl_hr, wl_hk, wl_hi, wl_eq, wl_ne, hM.k, hM.k1, hM.k2, hM.k3, hM.k4, hM.k5, hM.k6, hM.k7, hM.k8, hM.k9, hM.k10, hM.k11, hM.k12, hM.k13, hM.k14, hM.k15, hM.k16, hM.k17, hM.k18, hM.k19, hM.k20, hM.k21, hM.k22, hM.k23, hM.k24, hM.k25, hM.k26, hM.k27, hM.k28, hM.k29, hM.k30, hM.k31, hM.k32, hM.k33, hM.k34, hM.k35, hM.r1, hM.r2, hM.r3, hM.r4, hM.r5, hM.r16, hM.r17, hM.r18, hM.r19, hM.r20, hM.r21, hM.r22, hM.r23, hM.r24, hM.r25, hM.r26, hM.r31, hM.r32, hM.r33, hM.r34, hM.r35, hM.r36, hM.r37, hM.r38, hM.r39, hM.r40, hM.r41, hM.r42, hM.r43, hM.r44, hM.r47, hM.r48, hM.r49, hM.r50, hM.r54, stI, fI, fZ, fL, stL, DX12_whyNow, BX12_whyNow, e1, e2, e3, f6, f7, m_isBit, q1, q2, e4, e5, e6, e7, e8, e9, e10, e11, q6]
            · rw [if_neg q6]
              rw [q3] at e6 e9
              rw [q3] at e4
              rw [q3] at e11
              simp (disch := omega) only [ob_t, ob_n, ob_ite, e_cI, e_cL, e_cR, e_vI, e_vL, e_vR, e_d2, e_d2_a, e_d2_b, e_d2z, e_d2z_a, e_d2z_b, e_d1, e_d1_a, e_GI, e_GI_a, e_GL, e_GL_a, e_GR, e_GR_a, e_AI, e_AI_a, e_AI_b, e_AB, e_AB_a, e_AB_b, e_AZ, e_AZ_a, e_AZ_b, e_AL, e_AL_a, e_AL_b, e_AR, e_AR_a, e_AR_b, e_Len, e_Len_a, e_CI, e_CI_a, e_CI_b, e_CZ, e_CZ_a, e_And, e_kAnd, e_Or, e_kOr, e_Not, e_kNot, e_B, e_kB, e_T, e_kT, e_NN, e_kNN, e_NewA, e_NewA_a, e_NewC, e_kNewC, e_aN, e_aI, e_aI_a, e_aI_b, e_aL, e_aL_a, e_aL_b, e_aR, e_aR_a, e_aR_b, e_Call, e_kCall, e_CallV, e_kCallV, e_SetI, e_kSetI, e_SetL, e_kSetL, e_SetR, e_kSetR, e_Inc, e_Skip, e_Brk, e_Cnt, e_Ret, e_kRet, e_Ret0, e_Seq, e_kSeq0, e_kSeq1, e_kSeq2, e_kSeqR, e_If, e_kIf, e_Do, e_kDo, e_Sup, e_kN0, e_d3, e_k3a, e_k3b, e_k3c, e_P, e_kPa, e_kPb, e_UA, e_kUAa, e_kUAb, e_kUAc, e_UL, e_kULa, e_kULb, e_kULc, e_UF, e_kUFa, e_kUFb, e_Cp, e_kCp, e_Sw, e_kSwa, e_kSwb0, e_kSwb1, e_kSwbR, e_M1, e_kM1, e_MZ, e_kMZ, e_MN, e_kMN, e_Tv, e_kTv, e_Tc, e_kTc, e_lpS, e_kLp, e_kLpB0, e_kLpB1, e_kLpB2, e_kLpBR, e_kLpU, e_dwS, e_kDwB0, e_kDwC, f_II, f_LL, f_RR, f_IL, f_IR, f_LI, f_LR, f_RI, f_RL, o_iadd, o_isub, o_imul, o_iand, o_ior, o_ixor, o_ladd, o_lsub, o_lmul, o_land, o_lor, o_ishl, o_ishr, o_iushr, o_lshl, o_lcmp, o_i2l, o_l2i, o_i2b, o_i2s, o_lneg, o_imax, o_imin, o_idiv, o_irem, o_ldiv, o_lrem, r_lt, r_le, r_gt, r_ge, r_eq, r_ne, q_lt, q_le, q_gt, q_ge, q_eq, q_ne, decide_eq_true_eq, idI, and_true, true_and, and_false, false_and, or_true, true_or, or_false, false_or, not_true_eq_false, not_false_eq_true, if_true, if_false, ite_self, Bool.not_true, Bool.not_false, Bool.false_eq_true, Bool.true_eq_false, decide_true, decide_false, ne_eq, reduceIte, Nat.reduceEqDiff, Option.some.injEq, Prod.mk.injEq, eq_self, fa_lit, nI_add, pk_mul, nI_ltI, nI_leI, nI_eq, b01, b0, b1, x_hasBit, Nat.reduceLeDiff, Nat.reduceAdd, Nat.reduceMul, Nat.reduceSub, Nat.lt_irrefl, Nat.reduceLT, n_inb, nI_clamp, w_hr, w_hk, w_hl, w_eq, w_ne, wl_hr, wl_hk, wl_hi, wl_eq, wl_ne, hM.k, hM.k1, hM.k2, hM.k3, hM.k4, hM.k5, hM.k6, hM.k7, hM.k8, hM.k9, hM.k10, hM.k11, hM.k12, hM.k13, hM.k14, hM.k15, hM.k16, hM.k17, hM.k18, hM.k19, hM.k20, hM.k21, hM.k22, hM.k23, hM.k24, hM.k25, hM.k26, hM.k27, hM.k28, hM.k29, hM.k30, hM.k31, hM.k32, hM.k33, hM.k34, hM.k35, hM.r1, hM.r2, hM.r3, hM.r4, hM.r5, hM.r16, hM.r17, hM.r18, hM.r19, hM.r20, hM.r21, hM.r22, hM.r23, hM.r24, hM.r25, hM.r26, hM.r31, hM.r32, hM.r33, hM.r34, hM.r35, hM.r36, hM.r37, hM.r38, hM.r39, hM.r40, hM.r41, hM.r42, hM.r43, hM.r44, hM.r47, hM.r48, hM.r49, hM.r50, hM.r54, stI, fI, fZ, fL, stL, DX12_whyNow, BX12_whyNow, e1, e2, e3, f6, f7, m_isBit, q1, q2, e4, e5, e6, e7, e8, e9, e10, e11, q6]
          · rw [if_pos (Or.inr q5)]
            refine ⟨h, ?_, hR, CX.rf _ _ _, fun _ _ => rfl, fun z => by cases z⟩
            rw [if_neg (fun z => q5 (by rw [← q3]; exact z.2))] at e6
            rw [q3] at e6 e4
            simp (disch := omega) only [ob_t, ob_n, ob_ite, e_cI, e_cL, e_cR, e_vI, e_vL, e_vR, e_d2, e_d2_a, e_d2_b, e_d2z, e_d2z_a, e_d2z_b, e_d1, e_d1_a, e_GI, e_GI_a, e_GL, e_GL_a, e_GR, e_GR_a, e_AI, e_AI_a, e_AI_b, e_AB, e_AB_a, e_AB_b, e_AZ, e_AZ_a, e_AZ_b, e_AL, e_AL_a, e_AL_b, e_AR, e_AR_a, e_AR_b, e_Len, e_Len_a, e_CI, e_CI_a, e_CI_b, e_CZ, e_CZ_a, e_And, e_kAnd, e_Or, e_kOr, e_Not, e_kNot, e_B, e_kB, e_T, e_kT, e_NN, e_kNN, e_NewA, e_NewA_a, e_NewC, e_kNewC, e_aN, e_aI, e_aI_a, e_aI_b, e_aL, e_aL_a, e_aL_b, e_aR, e_aR_a, e_aR_b, e_Call, e_kCall, e_CallV, e_kCallV, e_SetI, e_kSetI, e_SetL, e_kSetL, e_SetR, e_kSetR, e_Inc, e_Skip, e_Brk, e_Cnt, e_Ret, e_kRet, e_Ret0, e_Seq, e_kSeq0, e_kSeq1, e_kSeq2, e_kSeqR, e_If, e_kIf, e_Do, e_kDo, e_Sup, e_kN0, e_d3, e_k3a, e_k3b, e_k3c, e_P, e_kPa, e_kPb, e_UA, e_kUAa, e_kUAb, e_kUAc, e_UL, e_kULa, e_kULb, e_kULc, e_UF, e_kUFa, e_kUFb, e_Cp, e_kCp, e_Sw, e_kSwa, e_kSwb0, e_kSwb1, e_kSwbR, e_M1, e_kM1, e_MZ, e_kMZ, e_MN, e_kMN, e_Tv, e_kTv, e_Tc, e_kTc, e_lpS, e_kLp, e_kLpB0, e_kLpB1, e_kLpB2, e_kLpBR, e_kLpU, e_dwS, e_kDwB0, e_kDwC, f_II, f_LL, f_RR, f_IL, f_IR, f_LI, f_LR, f_RI, f_RL, o_iadd, o_isub, o_imul, o_iand, o_ior, o_ixor, o_ladd, o_lsub, o_lmul, o_land, o_lor, o_ishl, o_ishr, o_iushr, o_lshl, o_lcmp, o_i2l, o_l2i, o_i2b, o_i2s, o_lneg, o_imax, o_imin, o_idiv, o_irem, o_ldiv, o_lrem, r_lt, r_le, r_gt, r_ge, r_eq, r_ne, q_lt, q_le, q_gt, q_ge, q_eq, q_ne, decide_eq_true_eq, idI, and_true, true_and, and_false, false_and, or_true, true_or, or_false, false_or, not_true_eq_false, not_false_eq_true, if_true, if_false, ite_self, Bool.not_true, Bool.not_false, Bool.false_eq_true, Bool.true_eq_false, decide_true, decide_false, ne_eq, reduceIte, Nat.reduceEqDiff, Option.some.injEq, Prod.mk.injEq, eq_self, fa_lit, nI_add, pk_mul, nI_ltI, nI_leI, nI_eq, b01, b0, b1, x_hasBit, Nat.reduceLeDiff, Nat.reduceAdd, Nat.reduceMul, Nat.reduceSub, Nat.lt_irrefl, Nat.reduceLT, n_inb, nI_clamp, w_hr, w_hk, w_hl, w_eq, w_ne, wl_hr, wl_hk, wl_hi, wl_eq, wl_ne, hM.k, hM.k1, hM.k2, hM.k3, hM.k4, hM.k5, hM.k6, hM.k7, hM.k8, hM.k9, hM.k10, hM.k11, hM.k12, hM.k13, hM.k14, hM.k15, hM.k16, hM.k17, hM.k18, hM.k19, hM.k20, hM.k21, hM.k22, hM.k23, hM.k24, hM.k25, hM.k26, hM.k27, hM.k28, hM.k29, hM.k30, hM.k31, hM.k32, hM.k33, hM.k34, hM.k35, hM.r1, hM.r2, hM.r3, hM.r4, hM.r5, hM.r16, hM.r17, hM.r18, hM.r19, hM.r20, hM.r21, hM.r22, hM.r23, hM.r24, hM.r25, hM.r26, hM.r31, hM.r32, hM.r33, hM.r34, hM.r35, hM.r36, hM.r37, hM.r38, hM.r39, hM.r40, hM.r41, hM.r42, hM.r43, hM.r44, hM.r47, hM.r48, hM.r49, hM.r50, hM.r54, stI, fI, fZ, fL, stL, DX12_whyNow, BX12_whyNow, e1, e2, e3, f6, f7, m_isBit, q1, q2, e4, e5, e6]
      · rw [if_pos q3]
        refine ⟨h, ?_, hR, CX.rf _ _ _, fun _ _ => rfl, fun z => by cases z⟩
        simp (disch := omega) only [ob_t, ob_n, ob_ite, e_cI, e_cL, e_cR, e_vI, e_vL, e_vR, e_d2, e_d2_a, e_d2_b, e_d2z, e_d2z_a, e_d2z_b, e_d1, e_d1_a, e_GI, e_GI_a, e_GL, e_GL_a, e_GR, e_GR_a, e_AI, e_AI_a, e_AI_b, e_AB, e_AB_a, e_AB_b, e_AZ, e_AZ_a, e_AZ_b, e_AL, e_AL_a, e_AL_b, e_AR, e_AR_a, e_AR_b, e_Len, e_Len_a, e_CI, e_CI_a, e_CI_b, e_CZ, e_CZ_a, e_And, e_kAnd, e_Or, e_kOr, e_Not, e_kNot, e_B, e_kB, e_T, e_kT, e_NN, e_kNN, e_NewA, e_NewA_a, e_NewC, e_kNewC, e_aN, e_aI, e_aI_a, e_aI_b, e_aL, e_aL_a, e_aL_b, e_aR, e_aR_a, e_aR_b, e_Call, e_kCall, e_CallV, e_kCallV, e_SetI, e_kSetI, e_SetL, e_kSetL, e_SetR, e_kSetR, e_Inc, e_Skip, e_Brk, e_Cnt, e_Ret, e_kRet, e_Ret0, e_Seq, e_kSeq0, e_kSeq1, e_kSeq2, e_kSeqR, e_If, e_kIf, e_Do, e_kDo, e_Sup, e_kN0, e_d3, e_k3a, e_k3b, e_k3c, e_P, e_kPa, e_kPb, e_UA, e_kUAa, e_kUAb, e_kUAc, e_UL, e_kULa, e_kULb, e_kULc, e_UF, e_kUFa, e_kUFb, e_Cp, e_kCp, e_Sw, e_kSwa, e_kSwb0, e_kSwb1, e_kSwbR, e_M1, e_kM1, e_MZ, e_kMZ, e_MN, e_kMN, e_Tv, e_kTv, e_Tc, e_kTc, e_lpS, e_kLp, e_kLpB0, e_kLpB1, e_kLpB2, e_kLpBR, e_kLpU, e_dwS, e_kDwB0, e_kDwC, f_II, f_LL, f_RR, f_IL, f_IR, f_LI, f_LR, f_RI, f_RL, o_iadd, o_isub, o_imul, o_iand, o_ior, o_ixor, o_ladd, o_lsub, o_lmul, o_land, o_lor, o_ishl, o_ishr, o_iushr, o_lshl, o_lcmp, o_i2l, o_l2i, o_i2b, o_i2s, o_lneg, o_imax, o_imin, o_idiv, o_irem, o_ldiv, o_lrem, r_lt, r_le, r_gt, r_ge, r_eq, r_ne, q_lt, q_le, q_gt, q_ge, q_eq, q_ne, decide_eq_true_eq, idI, and_true, true_and, and_false, false_and, or_true, true_or, or_false, false_or, not_true_eq_false, not_false_eq_true, if_true, if_false, ite_self, Bool.not_true, Bool.not_false, Bool.false_eq_true, Bool.true_eq_false, decide_true, decide_false, ne_eq, reduceIte, Nat.reduceEqDiff, Option.some.injEq, Prod.mk.injEq, eq_self, fa_lit, nI_add, pk_mul, nI_ltI, nI_leI, nI_eq, b01, b0, b1, x_hasBit, Nat.reduceLeDiff, Nat.reduceAdd, Nat.reduceMul, Nat.reduceSub, Nat.lt_irrefl, Nat.reduceLT, n_inb, nI_clamp, w_hr, w_hk, w_hl, w_eq, w_ne, wl_hr, wl_hk, wl_hi, wl_eq, wl_ne, hM.k, hM.k1, hM.k2, hM.k3, hM.k4, hM.k5, hM.k6, hM.k7, hM.k8, hM.k9, hM.k10, hM.k11, hM.k12, hM.k13, hM.k14, hM.k15, hM.k16, hM.k17, hM.k18, hM.k19, hM.k20, hM.k21, hM.k22, hM.k23, hM.k24, hM.k25, hM.k26, hM.k27, hM.k28, hM.k29, hM.k30, hM.k31, hM.k32, hM.k33, hM.k34, hM.k35, hM.r1, hM.r2, hM.r3, hM.r4, hM.r5, hM.r16, hM.r17, hM.r18, hM.r19, hM.r20, hM.r21, hM.r22, hM.r23, hM.r24, hM.r25, hM.r26, hM.r31, hM.r32, hM.r33, hM.r34, hM.r35, hM.r36, hM.r37, hM.r38, hM.r39, hM.r40, hM.r41, hM.r42, hM.r43, hM.r44, hM.r47, hM.r48, hM.r49, hM.r50, hM.r54, stI, fI, fZ, fL, stL, DX12_whyNow, BX12_whyNow, e1, e2, e3, f6, f7, m_isBit, q1, q2, e4, e5, q3]
end
