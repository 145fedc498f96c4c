set_option maxRecDepth 100000
set_option maxHeartbeats 1000000
/-! how far, how high, in the model -/
def wq (P : PT) (q x y : Nat) : Nat := if q = 0 then 1 else climb P x y
def rwD (P : PT) (q x : Nat) (D : Nat → Nat) : Nat → Nat → Nat
  | 0 => D
  | y + 1 => if (doors P x 0).testBit y = true then imp (wq P q) (rwD P q x D y) x y else rwD P q x D y
def rrD (P : PT) (q : Nat) (D : Nat → Nat) : Nat → Nat → Nat
  | 0 => D
  | x + 1 => rwD P q x (rrD P q D x) (P 0 4)
def tuD (P : PT) (q : Nat) (D : Nat → Nat) : Nat → Nat → Nat
  | 0 => D
  | t + 1 => rrD P q (tuD P q D t) (P 0 4)
section
variable {P : PT} {q : Nat} {D : Nat → Nat}
theorem wq_le (hW : WFP P) {x y : Nat} (hy : y < P 0 4) : wq P q x y ≤ 20 := by
  unfold wq
  split
  · decide
  · exact climb_le hW hy
theorem impq_bd {M x y : Nat} (hW : WFP P) (hy : y < P 0 4) (hD : ∀ k, D k ≤ M) : ∀ k, imp (wq P q) D x y k ≤ M + 20 := by
  intro k
  have h1 := hD k
  have h2 := hD x
  have h3 := wq_le (q := q) hW (x := x) hy
  unfold imp
  split
  · show (if k = y then _ else _) ≤ _
    split <;> omega
  · omega
theorem rwD_bd {M x : Nat} (hW : WFP P) (hD : ∀ k, D k ≤ M) : ∀ y, y ≤ P 0 4 → ∀ k, rwD P q x D y k ≤ M + 20 * y := by
  intro y
  induction y with
  | zero => intro _ k; exact hD k
  | succ y ih =>
    intro hy k
    have h1 := ih (by omega)
    show (if (doors P x 0).testBit y = true then imp (wq P q) (rwD P q x D y) x y else rwD P q x D y) k ≤ _
    split
    · have := impq_bd (q := q) (x := x) hW (show y < P 0 4 by omega) h1 k
      omega
    · have := h1 k
      omega
theorem rrD_bd {M : Nat} (hW : WFP P) (hD : ∀ k, D k ≤ M) : ∀ x, ∀ k, rrD P q D x k ≤ M + 160 * x := by
  have hb := hW.all
  intro x
  induction x with
  | zero => intro k; exact hD k
  | succ x ih =>
    intro k
    have := rwD_bd (q := q) (x := x) hW ih (P 0 4) (Nat.le_refl _) k
    show rwD P q x (rrD P q D x) (P 0 4) k ≤ _
    omega
theorem tuD_bd {M : Nat} (hW : WFP P) (hD : ∀ k, D k ≤ M) : ∀ t, ∀ k, tuD P q D t k ≤ M + 1280 * t := by
  have hb := hW.all
  intro t
  induction t with
  | zero => intro k; exact hD k
  | succ t ih =>
    intro k
    have := rrD_bd (q := q) hW ih (P 0 4) k
    show rrD P q (tuD P q D t) (P 0 4) k ≤ _
    omega
theorem rwD_better (x : Nat) (D : Nat → Nat) (i : Nat) : ∀ n, Better (rwD P q x D i) (rwD P q x D (i + n)) := by
  intro n
  induction n with
  | zero => exact Better.rf _
  | succ n ih =>
    refine ih.tr ?_
    show Better _ (if (doors P x 0).testBit (i + n) = true then _ else _)
    split
    · exact imp_better _ _
    · exact Better.rf _
theorem rwD_all (x : Nat) (D : Nat → Nat) : Better D (rwD P q x D (P 0 4)) := by
  have := rwD_better (P := P) (q := q) x D 0 (P 0 4)
  rw [Nat.zero_add] at this
  exact this
theorem rrD_better (D : Nat → Nat) (i : Nat) : ∀ n, Better (rrD P q D i) (rrD P q D (i + n)) := by
  intro n
  induction n with
  | zero => exact Better.rf _
  | succ n ih => exact ih.tr (rwD_all _ _)
theorem rwD_sound (hW : WFP P) {a x : Nat} (hS : Sound (Adj P) (wq P q) (P 0 4) a D) : ∀ y, y ≤ P 0 4 → Sound (Adj P) (wq P q) (P 0 4) a (rwD P q x D y) := by
  intro y
  induction y with
  | zero => intro _; exact hS
  | succ y ih =>
    intro hy
    show Sound _ _ _ _ (if (doors P x 0).testBit y = true then _ else _)
    split
    · rename_i hd
      exact imp_sound (ih (by omega)) ((door_adj P x y).mp hd) (by omega)
    · exact ih (by omega)
theorem rrD_sound (hW : WFP P) {a : Nat} (hS : Sound (Adj P) (wq P q) (P 0 4) a D) : ∀ x, Sound (Adj P) (wq P q) (P 0 4) a (rrD P q D x) := by
  intro x
  induction x with
  | zero => exact hS
  | succ x ih => exact rwD_sound hW ih _ (Nat.le_refl _)
theorem tuD_sound (hW : WFP P) {a : Nat} (hS : Sound (Adj P) (wq P q) (P 0 4) a D) : ∀ t, Sound (Adj P) (wq P q) (P 0 4) a (tuD P q D t) := by
  intro t
  induction t with
  | zero => exact hS
  | succ t ih => exact rrD_sound hW ih _
theorem tuD_done (hW : WFP P) {a : Nat} (h0 : DoneTo (Adj P) (wq P q) (P 0 4) a 0 D) : ∀ t, DoneTo (Adj P) (wq P q) (P 0 4) a t (tuD P q D t) := by
  intro t
  induction t with
  | zero => exact h0
  | succ t ih =>
    refine done_next ih (by have := rrD_better (P := P) (q := q) (tuD P q D t) 0 (P 0 4); rw [Nat.zero_add] at this; exact this) (fun x y hA hx hy => ?_)
    have b0 : Better (tuD P q D t) (rrD P q (tuD P q D t) x) := by have := rrD_better (P := P) (q := q) (tuD P q D t) 0 x; rw [Nat.zero_add] at this; exact this
    have b1 : Better (rrD P q (tuD P q D t) (x + 1)) (rrD P q (tuD P q D t) (P 0 4)) := by have := rrD_better (P := P) (q := q) (tuD P q D t) (x + 1) (P 0 4 - (x + 1)); rw [show x + 1 + (P 0 4 - (x + 1)) = P 0 4 by omega] at this; exact this
    have c0 : Better (rrD P q (tuD P q D t) x) (rwD P q x (rrD P q (tuD P q D t) x) y) := by have := rwD_better (P := P) (q := q) x (rrD P q (tuD P q D t) x) 0 y; rw [Nat.zero_add] at this; exact this
    have c1 : Better (rwD P q x (rrD P q (tuD P q D t) x) (y + 1)) (rwD P q x (rrD P q (tuD P q D t) x) (P 0 4)) := by have := rwD_better (P := P) (q := q) x (rrD P q (tuD P q D t) x) (y + 1) (P 0 4 - (y + 1)); rw [show y + 1 + (P 0 4 - (y + 1)) = P 0 4 by omega] at this; exact this
    refine ⟨_, b0.tr c0, ?_⟩
    have e : rwD P q x (rrD P q (tuD P q D t) x) (y + 1) = imp (wq P q) (rwD P q x (rrD P q (tuD P q D t) x) y) x y := if_pos ((door_adj P x y).mpr hA)
    rw [e] at c1
    exact c1.tr b1
theorem m_dist (hW : WFP P) {a : Nat} (ha : a < P 0 4) (b : Nat) : DistIs (Adj P) (wq P q) (P 0 4) a b (tuD P q (fun k => if k = a then 1 else 0) (P 0 4 - 1) b) := by
  refine done_dist (tuD_sound hW (fun b hb1 => ?_) _) (t := P 0 4 - 1) (by omega) (tuD_done hW (fun b v k hk1 hw => ?_) _) b
  · have z : b = a := by
      by_cases z : b = a
      · exact z
      · exact absurd (if_neg z) hb1
    subst z
    refine ⟨_, 0, wk_zero ha, ?_⟩
    show _ = if b = b then _ else _
    rw [if_pos rfl]
    rfl
  · have h0 : k = 0 := by omega
    subst h0
    have z : b = a := hw.2.1.symm.trans hw.1
    subst z
    show (if b = b then _ else _) ≠ 0 ∧ (if b = b then _ else _) ≤ _
    rw [if_pos rfl]
    exact ⟨by decide, by omega⟩
end
def DI (h : St) (m : Nat) (P : PT) (D : Nat → Nat) : Prop := ∀ k, k < P 0 4 → hi h (m + 31) k = nI (if D k = 0 then 100000 else D k - 1)
section
variable {h : St} {m q : Nat} {P : PT} {D : Nat → Nat}
theorem cm31 {h g : St} {m : Nat} (q : Ch (fun o => o = m + 31) h g) : CM m h g := ⟨q.mono (fun o ho => by unfold mD; omega), fun k _ => (q.2 m (by omega)).1 k⟩
theorem m_dist2 (H : MG h m P) (hq : q = 0 ∨ q = 1) (h30 : hi h m 30 = nI 0) (h29 : hi h m 29 = -nI 1) (hD : DI h m P D) (hM : ∀ k, D k ≤ 20000) {x : Nat} (hx : x < P 0 4) {a b t : Int32} : ∃ g, LX12_distOf_2 (sI (sI (sI (sI (sI (sI (sR fr0 0 m) 1 a) 2 b) 3 (nI q)) 4 t) 5 (nI x)) 6 (nI 0)) h = some (.inl 0, sI (sI (sI (sI (sI (sI (sR fr0 0 m) 1 a) 2 b) 3 (nI q)) 4 t) 5 (nI x)) 6 (nI (P 0 4)), g) ∧ DI g m P (rwD P q x D (P 0 4)) ∧ Ch (fun o => o = m + 31) h g := by
  have hW := H.w
  have hb := hW.all
  unfold LX12_distOf_2
  refine loop_g (fun k => sI (sI (sI (sI (sI (sI (sR fr0 0 m) 1 a) 2 b) 3 (nI q)) 4 t) 5 (nI x)) 6 (nI k)) (fun k g => DI g m P (rwD P q x D k) ∧ Ch (fun o => o = m + 31) h g) (P 0 4) rfl ⟨hD, Ch.rf _ _⟩ (fun k g hk hI => ?_) (fun g hI => ?_)
  · obtain ⟨hDg, hc⟩ := hI
    have Hg := H.cm (cm31 hc)
    have hM' := Hg.s
    have hM := hM
    have e4 := m_houses Hg
    have e30 : hi g m 30 = nI 0 := by rw [(hc.2 m (by omega)).1]; exact h30
    have e29 : hi g m 29 = nI 0 + -nI 1 := by rw [(hc.2 m (by omega)).1, h29]; decide
    have ew := m_isWay Hg (a := x) (b := k) (sh := 0) (lo := 0) hx hk (by decide) (by decide) e30 e29
    have hz : ¬ (0 : Nat).testBit k = true := by rw [Nat.zero_testBit]; exact fun z => by cases z
    have ec := m_climbOf Hg (a := x) (b := k) hx hk
    obtain ⟨E, hE⟩ : ∃ E, E = rwD P q x D k := ⟨_, rfl⟩
    have bE := rwD_bd (q := q) (x := x) hW hM k (by omega)
    have e0 : rwD P q x D (k + 1) = if (doors P x 0).testBit k = true then imp (wq P q) E x k else E := by rw [hE]; rfl
    rw [e0]
    rw [← hE] at hDg bE
    have vx := hDg x hx
    have vk := hDg k hk
    have bx := bE x
    have bk := bE k
    have hcb := climb_le hW (a := x) hk
    have es : nI (wq P q x k) = if q = 0 then nI 1 else nI (climb P x k) := by unfold wq; split <;> rfl
    have hwl := wq_le (q := q) hW (x := x) hk
    by_cases zd : (doors P x 0).testBit k = true
    · rw [if_pos ⟨hz, zd⟩] at ew
      rw [if_pos zd]
      by_cases zx : E x = 0
      · rw [if_pos zx] at vx
        have ei : imp (wq P q) E x k = E := by unfold imp; rw [if_neg (fun z => z.1 zx)]
        rw [ei]
        have zl : ¬ 100000 + wq P q x k < (if E k = 0 then 100000 else E k - 1) := by
          split <;> omega
        refine ⟨g, ?_, hDg, hc⟩
        generalize (if E k = 0 then 100000 else E k - 1) = K at vk zl
        unfold wq at zl
        rcases hq with rfl | rfl
        · rw [if_pos rfl] at zl
          simp (disch := omega) only [ob_t, ob_n, ob_ite, e_cI, e_cL, e_cR, e_vI, e_vL, e_vR, e_d2, e_d2_a, e_d2_b, e_d2z, e_d2z_a, e_d2z_b, e_d1, e_d1_a, e_GI, e_GI_a, e_GL, e_GL_a, e_GR, e_GR_a, e_AI, e_AI_a, e_AI_b, e_AB, e_AB_a, e_AB_b, e_AZ, e_AZ_a, e_AZ_b, e_AL, e_AL_a, e_AL_b, e_AR, e_AR_a, e_AR_b, e_Len, e_Len_a, e_CI, e_CI_a, e_CI_b, e_CZ, e_CZ_a, e_And, e_kAnd, e_Or, e_kOr, e_Not, e_kNot, e_B, e_kB, e_T, e_kT, e_NN, e_kNN, e_NewA, e_NewA_a, e_NewC, e_kNewC, e_aN, e_aI, e_aI_a, e_aI_b, e_aL, e_aL_a, e_aL_b, e_aR, e_aR_a, e_aR_b, e_Call, e_kCall, e_CallV, e_kCallV, e_SetI, e_kSetI, e_SetL, e_kSetL, e_SetR, e_kSetR, e_Inc, e_Skip, e_Brk, e_Cnt, e_Ret, e_kRet, e_Ret0, e_Seq, e_kSeq0, e_kSeq1, e_kSeq2, e_kSeqR, e_If, e_kIf, e_Do, e_kDo, e_Sup, e_kN0, e_d3, e_k3a, e_k3b, e_k3c, e_P, e_kPa, e_kPb, e_UA, e_kUAa, e_kUAb, e_kUAc, e_UL, e_kULa, e_kULb, e_kULc, e_UF, e_kUFa, e_kUFb, e_Cp, e_kCp, e_Sw, e_kSwa, e_kSwb0, e_kSwb1, e_kSwbR, e_M1, e_kM1, e_MZ, e_kMZ, e_MN, e_kMN, e_Tv, e_kTv, e_Tc, e_kTc, e_lpS, e_kLp, e_kLpB0, e_kLpB1, e_kLpB2, e_kLpBR, e_kLpU, e_dwS, e_kDwB0, e_kDwC, f_II, f_LL, f_RR, f_IL, f_IR, f_LI, f_LR, f_RI, f_RL, o_iadd, o_isub, o_imul, o_iand, o_ior, o_ixor, o_ladd, o_lsub, o_lmul, o_land, o_lor, o_ishl, o_ishr, o_iushr, o_lshl, o_lcmp, o_i2l, o_l2i, o_i2b, o_i2s, o_lneg, o_imax, o_imin, o_idiv, o_irem, o_ldiv, o_lrem, r_lt, r_le, r_gt, r_ge, r_eq, r_ne, q_lt, q_le, q_gt, q_ge, q_eq, q_ne, decide_eq_true_eq, idI, and_true, true_and, and_false, false_and, or_true, true_or, or_false, false_or, not_true_eq_false, not_false_eq_true, if_true, if_false, ite_self, Bool.not_true, Bool.not_false, Bool.false_eq_true, Bool.true_eq_false, decide_true, decide_false, ne_eq, reduceIte, Nat.reduceEqDiff, Option.some.injEq, Prod.mk.injEq, eq_self, fa_lit, nI_add, pk_mul, nI_ltI, nI_leI, nI_eq, b01, b0, b1, x_hasBit, Nat.reduceLeDiff, Nat.reduceAdd, Nat.reduceMul, Nat.reduceSub, Nat.lt_irrefl, Nat.reduceLT, n_inb, nI_clamp, w_hr, w_hk, w_hl, w_eq, w_ne, wl_hr, wl_hk, wl_hi, wl_eq, wl_ne, hM'.k, hM'.r47, hM'.k31, e4, hk, ew, vx, vk, nI_ltI]
          by_cases zz : 100000 + 1 < K
          · exact absurd zz zl
          · simp only [zz, if_false, Nat.reduceAdd, ite_self]
            try simp [zz]
            try omega
        · rw [if_neg (by decide)] at zl
          simp (disch := omega) only [ob_t, ob_n, ob_ite, e_cI, e_cL, e_cR, e_vI, e_vL, e_vR, e_d2, e_d2_a, e_d2_b, e_d2z, e_d2z_a, e_d2z_b, e_d1, e_d1_a, e_GI, e_GI_a, e_GL, e_GL_a, e_GR, e_GR_a, e_AI, e_AI_a, e_AI_b, e_AB, e_AB_a, e_AB_b, e_AZ, e_AZ_a, e_AZ_b, e_AL, e_AL_a, e_AL_b, e_AR, e_AR_a, e_AR_b, e_Len, e_Len_a, e_CI, e_CI_a, e_CI_b, e_CZ, e_CZ_a, e_And, e_kAnd, e_Or, e_kOr, e_Not, e_kNot, e_B, e_kB, e_T, e_kT, e_NN, e_kNN, e_NewA, e_NewA_a, e_NewC, e_kNewC, e_aN, e_aI, e_aI_a, e_aI_b, e_aL, e_aL_a, e_aL_b, e_aR, e_aR_a, e_aR_b, e_Call, e_kCall, e_CallV, e_kCallV, e_SetI, e_kSetI, e_SetL, e_kSetL, e_SetR, e_kSetR, e_Inc, e_Skip, e_Brk, e_Cnt, e_Ret, e_kRet, e_Ret0, e_Seq, e_kSeq0, e_kSeq1, e_kSeq2, e_kSeqR, e_If, e_kIf, e_Do, e_kDo, e_Sup, e_kN0, e_d3, e_k3a, e_k3b, e_k3c, e_P, e_kPa, e_kPb, e_UA, e_kUAa, e_kUAb, e_kUAc, e_UL, e_kULa, e_kULb, e_kULc, e_UF, e_kUFa, e_kUFb, e_Cp, e_kCp, e_Sw, e_kSwa, e_kSwb0, e_kSwb1, e_kSwbR, e_M1, e_kM1, e_MZ, e_kMZ, e_MN, e_kMN, e_Tv, e_kTv, e_Tc, e_kTc, e_lpS, e_kLp, e_kLpB0, e_kLpB1, e_kLpB2, e_kLpBR, e_kLpU, e_dwS, e_kDwB0, e_kDwC, f_II, f_LL, f_RR, f_IL, f_IR, f_LI, f_LR, f_RI, f_RL, o_iadd, o_isub, o_imul, o_iand, o_ior, o_ixor, o_ladd, o_lsub, o_lmul, o_land, o_lor, o_ishl, o_ishr, o_iushr, o_lshl, o_lcmp, o_i2l, o_l2i, o_i2b, o_i2s, o_lneg, o_imax, o_imin, o_idiv, o_irem, o_ldiv, o_lrem, r_lt, r_le, r_gt, r_ge, r_eq, r_ne, q_lt, q_le, q_gt, q_ge, q_eq, q_ne, decide_eq_true_eq, idI, and_true, true_and, and_false, false_and, or_true, true_or, or_false, false_or, not_true_eq_false, not_false_eq_true, if_true, if_false, ite_self, Bool.not_true, Bool.not_false, Bool.false_eq_true, Bool.true_eq_false, decide_true, decide_false, ne_eq, reduceIte, Nat.reduceEqDiff, Option.some.injEq, Prod.mk.injEq, eq_self, fa_lit, nI_add, pk_mul, nI_ltI, nI_leI, nI_eq, b01, b0, b1, x_hasBit, Nat.reduceLeDiff, Nat.reduceAdd, Nat.reduceMul, Nat.reduceSub, Nat.lt_irrefl, Nat.reduceLT, n_inb, nI_clamp, w_hr, w_hk, w_hl, w_eq, w_ne, wl_hr, wl_hk, wl_hi, wl_eq, wl_ne, hM'.k, hM'.r47, hM'.k31, e4, hk, ew, ec, vx, vk, zl]
      · rw [if_neg zx] at vx
        by_cases zk : E k = 0
        · rw [if_pos zk] at vk
          have ei : imp (wq P q) E x k = fun i => if i = k then E x + wq P q x k else E i := by unfold imp; rw [if_pos ⟨zx, Or.inl zk⟩]
          have zl : E x - 1 + wq P q x k < 100000 := by omega
          rw [ei]
          refine ⟨wI g (m + 31) k (nI (E x - 1 + wq P q x k)), ?_, fun i hi1 => ?_, hc.tr (Ch.w (D := fun o => o = m + 31) (r := m + 31) rfl _ _ _)⟩
          · rcases hq with rfl | rfl
            · have ew1 : wq P 0 x k = 1 := rfl
              rw [ew1] at zl ⊢
              simp (disch := omega) only [ob_t, ob_n, ob_ite, e_cI, e_cL, e_cR, e_vI, e_vL, e_vR, e_d2, e_d2_a, e_d2_b, e_d2z, e_d2z_a, e_d2z_b, e_d1, e_d1_a, e_GI, e_GI_a, e_GL, e_GL_a, e_GR, e_GR_a, e_AI, e_AI_a, e_AI_b, e_AB, e_AB_a, e_AB_b, e_AZ, e_AZ_a, e_AZ_b, e_AL, e_AL_a, e_AL_b, e_AR, e_AR_a, e_AR_b, e_Len, e_Len_a, e_CI, e_CI_a, e_CI_b, e_CZ, e_CZ_a, e_And, e_kAnd, e_Or, e_kOr, e_Not, e_kNot, e_B, e_kB, e_T, e_kT, e_NN, e_kNN, e_NewA, e_NewA_a, e_NewC, e_kNewC, e_aN, e_aI, e_aI_a, e_aI_b, e_aL, e_aL_a, e_aL_b, e_aR, e_aR_a, e_aR_b, e_Call, e_kCall, e_CallV, e_kCallV, e_SetI, e_kSetI, e_SetL, e_kSetL, e_SetR, e_kSetR, e_Inc, e_Skip, e_Brk, e_Cnt, e_Ret, e_kRet, e_Ret0, e_Seq, e_kSeq0, e_kSeq1, e_kSeq2, e_kSeqR, e_If, e_kIf, e_Do, e_kDo, e_Sup, e_kN0, e_d3, e_k3a, e_k3b, e_k3c, e_P, e_kPa, e_kPb, e_UA, e_kUAa, e_kUAb, e_kUAc, e_UL, e_kULa, e_kULb, e_kULc, e_UF, e_kUFa, e_kUFb, e_Cp, e_kCp, e_Sw, e_kSwa, e_kSwb0, e_kSwb1, e_kSwbR, e_M1, e_kM1, e_MZ, e_kMZ, e_MN, e_kMN, e_Tv, e_kTv, e_Tc, e_kTc, e_lpS, e_kLp, e_kLpB0, e_kLpB1, e_kLpB2, e_kLpBR, e_kLpU, e_dwS, e_kDwB0, e_kDwC, f_II, f_LL, f_RR, f_IL, f_IR, f_LI, f_LR, f_RI, f_RL, o_iadd, o_isub, o_imul, o_iand, o_ior, o_ixor, o_ladd, o_lsub, o_lmul, o_land, o_lor, o_ishl, o_ishr, o_iushr, o_lshl, o_lcmp, o_i2l, o_l2i, o_i2b, o_i2s, o_lneg, o_imax, o_imin, o_idiv, o_irem, o_ldiv, o_lrem, r_lt, r_le, r_gt, r_ge, r_eq, r_ne, q_lt, q_le, q_gt, q_ge, q_eq, q_ne, decide_eq_true_eq, idI, and_true, true_and, and_false, false_and, or_true, true_or, or_false, false_or, not_true_eq_false, not_false_eq_true, if_true, if_false, ite_self, Bool.not_true, Bool.not_false, Bool.false_eq_true, Bool.true_eq_false, decide_true, decide_false, ne_eq, reduceIte, Nat.reduceEqDiff, Option.some.injEq, Prod.mk.injEq, eq_self, fa_lit, nI_add, pk_mul, nI_ltI, nI_leI, nI_eq, b01, b0, b1, x_hasBit, Nat.reduceLeDiff, Nat.reduceAdd, Nat.reduceMul, Nat.reduceSub, Nat.lt_irrefl, Nat.reduceLT, n_inb, nI_clamp, w_hr, w_hk, w_hl, w_eq, w_ne, wl_hr, wl_hk, wl_hi, wl_eq, wl_ne, hM'.k, hM'.r47, hM'.k31, stI, e4, hk, ew, vx, vk, zl]
            · have ew1 : wq P 1 x k = climb P x k := rfl
              rw [ew1] at zl ⊢
              simp (disch := omega) only [ob_t, ob_n, ob_ite, e_cI, e_cL, e_cR, e_vI, e_vL, e_vR, e_d2, e_d2_a, e_d2_b, e_d2z, e_d2z_a, e_d2z_b, e_d1, e_d1_a, e_GI, e_GI_a, e_GL, e_GL_a, e_GR, e_GR_a, e_AI, e_AI_a, e_AI_b, e_AB, e_AB_a, e_AB_b, e_AZ, e_AZ_a, e_AZ_b, e_AL, e_AL_a, e_AL_b, e_AR, e_AR_a, e_AR_b, e_Len, e_Len_a, e_CI, e_CI_a, e_CI_b, e_CZ, e_CZ_a, e_And, e_kAnd, e_Or, e_kOr, e_Not, e_kNot, e_B, e_kB, e_T, e_kT, e_NN, e_kNN, e_NewA, e_NewA_a, e_NewC, e_kNewC, e_aN, e_aI, e_aI_a, e_aI_b, e_aL, e_aL_a, e_aL_b, e_aR, e_aR_a, e_aR_b, e_Call, e_kCall, e_CallV, e_kCallV, e_SetI, e_kSetI, e_SetL, e_kSetL, e_SetR, e_kSetR, e_Inc, e_Skip, e_Brk, e_Cnt, e_Ret, e_kRet, e_Ret0, e_Seq, e_kSeq0, e_kSeq1, e_kSeq2, e_kSeqR, e_If, e_kIf, e_Do, e_kDo, e_Sup, e_kN0, e_d3, e_k3a, e_k3b, e_k3c, e_P, e_kPa, e_kPb, e_UA, e_kUAa, e_kUAb, e_kUAc, e_UL, e_kULa, e_kULb, e_kULc, e_UF, e_kUFa, e_kUFb, e_Cp, e_kCp, e_Sw, e_kSwa, e_kSwb0, e_kSwb1, e_kSwbR, e_M1, e_kM1, e_MZ, e_kMZ, e_MN, e_kMN, e_Tv, e_kTv, e_Tc, e_kTc, e_lpS, e_kLp, e_kLpB0, e_kLpB1, e_kLpB2, e_kLpBR, e_kLpU, e_dwS, e_kDwB0, e_kDwC, f_II, f_LL, f_RR, f_IL, f_IR, f_LI, f_LR, f_RI, f_RL, o_iadd, o_isub, o_imul, o_iand, o_ior, o_ixor, o_ladd, o_lsub, o_lmul, o_land, o_lor, o_ishl, o_ishr, o_iushr, o_lshl, o_lcmp, o_i2l, o_l2i, o_i2b, o_i2s, o_lneg, o_imax, o_imin, o_idiv, o_irem, o_ldiv, o_lrem, r_lt, r_le, r_gt, r_ge, r_eq, r_ne, q_lt, q_le, q_gt, q_ge, q_eq, q_ne, decide_eq_true_eq, idI, and_true, true_and, and_false, false_and, or_true, true_or, or_false, false_or, not_true_eq_false, not_false_eq_true, if_true, if_false, ite_self, Bool.not_true, Bool.not_false, Bool.false_eq_true, Bool.true_eq_false, decide_true, decide_false, ne_eq, reduceIte, Nat.reduceEqDiff, Option.some.injEq, Prod.mk.injEq, eq_self, fa_lit, nI_add, pk_mul, nI_ltI, nI_leI, nI_eq, b01, b0, b1, x_hasBit, Nat.reduceLeDiff, Nat.reduceAdd, Nat.reduceMul, Nat.reduceSub, Nat.lt_irrefl, Nat.reduceLT, n_inb, nI_clamp, w_hr, w_hk, w_hl, w_eq, w_ne, wl_hr, wl_hk, wl_hi, wl_eq, wl_ne, hM'.k, hM'.r47, hM'.k31, stI, e4, hk, ew, ec, vx, vk, zl]
          · show _ = nI (if (if i = k then E x + wq P q x k else E i) = 0 then 100000 else (if i = k then E x + wq P q x k else E i) - 1)
            by_cases zi : i = k
            · rw [if_pos zi, if_neg (by omega), zi, w_eq, show E x - 1 + wq P q x k = E x + wq P q x k - 1 by omega]
            · rw [if_neg zi, w_ne (by omega)]; exact hDg i hi1
        · rw [if_neg zk] at vk
          by_cases zl : E x - 1 + wq P q x k < E k - 1
          · have ei : imp (wq P q) E x k = fun i => if i = k then E x + wq P q x k else E i := by unfold imp; rw [if_pos ⟨zx, Or.inr (by omega)⟩]
            rw [ei]
            refine ⟨wI g (m + 31) k (nI (E x - 1 + wq P q x k)), ?_, fun i hi1 => ?_, hc.tr (Ch.w (D := fun o => o = m + 31) (r := m + 31) rfl _ _ _)⟩
            · rcases hq with rfl | rfl
              · have ew1 : wq P 0 x k = 1 := rfl
                rw [ew1] at zl ⊢
                simp (disch := omega) only [ob_t, ob_n, ob_ite, e_cI, e_cL, e_cR, e_vI, e_vL, e_vR, e_d2, e_d2_a, e_d2_b, e_d2z, e_d2z_a, e_d2z_b, e_d1, e_d1_a, e_GI, e_GI_a, e_GL, e_GL_a, e_GR, e_GR_a, e_AI, e_AI_a, e_AI_b, e_AB, e_AB_a, e_AB_b, e_AZ, e_AZ_a, e_AZ_b, e_AL, e_AL_a, e_AL_b, e_AR, e_AR_a, e_AR_b, e_Len, e_Len_a, e_CI, e_CI_a, e_CI_b, e_CZ, e_CZ_a, e_And, e_kAnd, e_Or, e_kOr, e_Not, e_kNot, e_B, e_kB, e_T, e_kT, e_NN, e_kNN, e_NewA, e_NewA_a, e_NewC, e_kNewC, e_aN, e_aI, e_aI_a, e_aI_b, e_aL, e_aL_a, e_aL_b, e_aR, e_aR_a, e_aR_b, e_Call, e_kCall, e_CallV, e_kCallV, e_SetI, e_kSetI, e_SetL, e_kSetL, e_SetR, e_kSetR, e_Inc, e_Skip, e_Brk, e_Cnt, e_Ret, e_kRet, e_Ret0, e_Seq, e_kSeq0, e_kSeq1, e_kSeq2, e_kSeqR, e_If, e_kIf, e_Do, e_kDo, e_Sup, e_kN0, e_d3, e_k3a, e_k3b, e_k3c, e_P, e_kPa, e_kPb, e_UA, e_kUAa, e_kUAb, e_kUAc, e_UL, e_kULa, e_kULb, e_kULc, e_UF, e_kUFa, e_kUFb, e_Cp, e_kCp, e_Sw, e_kSwa, e_kSwb0, e_kSwb1, e_kSwbR, e_M1, e_kM1, e_MZ, e_kMZ, e_MN, e_kMN, e_Tv, e_kTv, e_Tc, e_kTc, e_lpS, e_kLp, e_kLpB0, e_kLpB1, e_kLpB2, e_kLpBR, e_kLpU, e_dwS, e_kDwB0, e_kDwC, f_II, f_LL, f_RR, f_IL, f_IR, f_LI, f_LR, f_RI, f_RL, o_iadd, o_isub, o_imul, o_iand, o_ior, o_ixor, o_ladd, o_lsub, o_lmul, o_land, o_lor, o_ishl, o_ishr, o_iushr, o_lshl, o_lcmp, o_i2l, o_l2i, o_i2b, o_i2s, o_lneg, o_imax, o_imin, o_idiv, o_irem, o_ldiv, o_lrem, r_lt, r_le, r_gt, r_ge, r_eq, r_ne, q_lt, q_le, q_gt, q_ge, q_eq, q_ne, decide_eq_true_eq, idI, and_true, true_and, and_false, false_and, or_true, true_or, or_false, false_or, not_true_eq_false, not_false_eq_true, if_true, if_false, ite_self, Bool.not_true, Bool.not_false, Bool.false_eq_true, Bool.true_eq_false, decide_true, decide_false, ne_eq, reduceIte, Nat.reduceEqDiff, Option.some.injEq, Prod.mk.injEq, eq_self, fa_lit, nI_add, pk_mul, nI_ltI, nI_leI, nI_eq, b01, b0, b1, x_hasBit, Nat.reduceLeDiff, Nat.reduceAdd, Nat.reduceMul, Nat.reduceSub, Nat.lt_irrefl, Nat.reduceLT, n_inb, nI_clamp, w_hr, w_hk, w_hl, w_eq, w_ne, wl_hr, wl_hk, wl_hi, wl_eq, wl_ne, hM'.k, hM'.r47, hM'.k31, stI, e4, hk, ew, vx, vk, zl]
              · have ew1 : wq P 1 x k = climb P x k := rfl
                rw [ew1] at zl ⊢
                simp (disch := omega) only [ob_t, ob_n, ob_ite, e_cI, e_cL, e_cR, e_vI, e_vL, e_vR, e_d2, e_d2_a, e_d2_b, e_d2z, e_d2z_a, e_d2z_b, e_d1, e_d1_a, e_GI, e_GI_a, e_GL, e_GL_a, e_GR, e_GR_a, e_AI, e_AI_a, e_AI_b, e_AB, e_AB_a, e_AB_b, e_AZ, e_AZ_a, e_AZ_b, e_AL, e_AL_a, e_AL_b, e_AR, e_AR_a, e_AR_b, e_Len, e_Len_a, e_CI, e_CI_a, e_CI_b, e_CZ, e_CZ_a, e_And, e_kAnd, e_Or, e_kOr, e_Not, e_kNot, e_B, e_kB, e_T, e_kT, e_NN, e_kNN, e_NewA, e_NewA_a, e_NewC, e_kNewC, e_aN, e_aI, e_aI_a, e_aI_b, e_aL, e_aL_a, e_aL_b, e_aR, e_aR_a, e_aR_b, e_Call, e_kCall, e_CallV, e_kCallV, e_SetI, e_kSetI, e_SetL, e_kSetL, e_SetR, e_kSetR, e_Inc, e_Skip, e_Brk, e_Cnt, e_Ret, e_kRet, e_Ret0, e_Seq, e_kSeq0, e_kSeq1, e_kSeq2, e_kSeqR, e_If, e_kIf, e_Do, e_kDo, e_Sup, e_kN0, e_d3, e_k3a, e_k3b, e_k3c, e_P, e_kPa, e_kPb, e_UA, e_kUAa, e_kUAb, e_kUAc, e_UL, e_kULa, e_kULb, e_kULc, e_UF, e_kUFa, e_kUFb, e_Cp, e_kCp, e_Sw, e_kSwa, e_kSwb0, e_kSwb1, e_kSwbR, e_M1, e_kM1, e_MZ, e_kMZ, e_MN, e_kMN, e_Tv, e_kTv, e_Tc, e_kTc, e_lpS, e_kLp, e_kLpB0, e_kLpB1, e_kLpB2, e_kLpBR, e_kLpU, e_dwS, e_kDwB0, e_kDwC, f_II, f_LL, f_RR, f_IL, f_IR, f_LI, f_LR, f_RI, f_RL, o_iadd, o_isub, o_imul, o_iand, o_ior, o_ixor, o_ladd, o_lsub, o_lmul, o_land, o_lor, o_ishl, o_ishr, o_iushr, o_lshl, o_lcmp, o_i2l, o_l2i, o_i2b, o_i2s, o_lneg, o_imax, o_imin, o_idiv, o_irem, o_ldiv, o_lrem, r_lt, r_le, r_gt, r_ge, r_eq, r_ne, q_lt, q_le, q_gt, q_ge, q_eq, q_ne, decide_eq_true_eq, idI, and_true, true_and, and_false, false_and, or_true, true_or, or_false, false_or, not_true_eq_false, not_false_eq_true, if_true, if_false, ite_self, Bool.not_true, Bool.not_false, Bool.false_eq_true, Bool.true_eq_false, decide_true, decide_false, ne_eq, reduceIte, Nat.reduceEqDiff, Option.some.injEq, Prod.mk.injEq, eq_self, fa_lit, nI_add, pk_mul, nI_ltI, nI_leI, nI_eq, b01, b0, b1, x_hasBit, Nat.reduceLeDiff, Nat.reduceAdd, Nat.reduceMul, Nat.reduceSub, Nat.lt_irrefl, Nat.reduceLT, n_inb, nI_clamp, w_hr, w_hk, w_hl, w_eq, w_ne, wl_hr, wl_hk, wl_hi, wl_eq, wl_ne, hM'.k, hM'.r47, hM'.k31, stI, e4, hk, ew, ec, vx, vk, zl]
            · show _ = nI (if (if i = k then E x + wq P q x k else E i) = 0 then 100000 else (if i = k then E x + wq P q x k else E i) - 1)
              by_cases zi : i = k
              · rw [if_pos zi, if_neg (by omega), zi, w_eq, show E x - 1 + wq P q x k = E x + wq P q x k - 1 by omega]
              · rw [if_neg zi, w_ne (by omega)]; exact hDg i hi1
          · have ei : imp (wq P q) E x k = E := by unfold imp; rw [if_neg (fun z => by have := z.2; omega)]
            rw [ei]
            refine ⟨g, ?_, hDg, hc⟩
            rcases hq with rfl | rfl
            · have ew1 : wq P 0 x k = 1 := rfl
              rw [ew1] at zl
              simp (disch := omega) only [ob_t, ob_n, ob_ite, e_cI, e_cL, e_cR, e_vI, e_vL, e_vR, e_d2, e_d2_a, e_d2_b, e_d2z, e_d2z_a, e_d2z_b, e_d1, e_d1_a, e_GI, e_GI_a, e_GL, e_GL_a, e_GR, e_GR_a, e_AI, e_AI_a, e_AI_b, e_AB, e_AB_a, e_AB_b, e_AZ, e_AZ_a, e_AZ_b, e_AL, e_AL_a, e_AL_b, e_AR, e_AR_a, e_AR_b, e_Len, e_Len_a, e_CI, e_CI_a, e_CI_b, e_CZ, e_CZ_a, e_And, e_kAnd, e_Or, e_kOr, e_Not, e_kNot, e_B, e_kB, e_T, e_kT, e_NN, e_kNN, e_NewA, e_NewA_a, e_NewC, e_kNewC, e_aN, e_aI, e_aI_a, e_aI_b, e_aL, e_aL_a, e_aL_b, e_aR, e_aR_a, e_aR_b, e_Call, e_kCall, e_CallV, e_kCallV, e_SetI, e_kSetI, e_SetL, e_kSetL, e_SetR, e_kSetR, e_Inc, e_Skip, e_Brk, e_Cnt, e_Ret, e_kRet, e_Ret0, e_Seq, e_kSeq0, e_kSeq1, e_kSeq2, e_kSeqR, e_If, e_kIf, e_Do, e_kDo, e_Sup, e_kN0, e_d3, e_k3a, e_k3b, e_k3c, e_P, e_kPa, e_kPb, e_UA, e_kUAa, e_kUAb, e_kUAc, e_UL, e_kULa, e_kULb, e_kULc, e_UF, e_kUFa, e_kUFb, e_Cp, e_kCp, e_Sw, e_kSwa, e_kSwb0, e_kSwb1, e_kSwbR, e_M1, e_kM1, e_MZ, e_kMZ, e_MN, e_kMN, e_Tv, e_kTv, e_Tc, e_kTc, e_lpS, e_kLp, e_kLpB0, e_kLpB1, e_kLpB2, e_kLpBR, e_kLpU, e_dwS, e_kDwB0, e_kDwC, f_II, f_LL, f_RR, f_IL, f_IR, f_LI, f_LR, f_RI, f_RL, o_iadd, o_isub, o_imul, o_iand, o_ior, o_ixor, o_ladd, o_lsub, o_lmul, o_land, o_lor, o_ishl, o_ishr, o_iushr, o_lshl, o_lcmp, o_i2l, o_l2i, o_i2b, o_i2s, o_lneg, o_imax, o_imin, o_idiv, o_irem, o_ldiv, o_lrem, r_lt, r_le, r_gt, r_ge, r_eq, r_ne, q_lt, q_le, q_gt, q_ge, q_eq, q_ne, decide_eq_true_eq, idI, and_true, true_and, and_false, false_and, or_true, true_or, or_false, false_or, not_true_eq_false, not_false_eq_true, if_true, if_false, ite_self, Bool.not_true, Bool.not_false, Bool.false_eq_true, Bool.true_eq_false, decide_true, decide_false, ne_eq, reduceIte, Nat.reduceEqDiff, Option.some.injEq, Prod.mk.injEq, eq_self, fa_lit, nI_add, pk_mul, nI_ltI, nI_leI, nI_eq, b01, b0, b1, x_hasBit, Nat.reduceLeDiff, Nat.reduceAdd, Nat.reduceMul, Nat.reduceSub, Nat.lt_irrefl, Nat.reduceLT, n_inb, nI_clamp, w_hr, w_hk, w_hl, w_eq, w_ne, wl_hr, wl_hk, wl_hi, wl_eq, wl_ne, hM'.k, hM'.r47, hM'.k31, e4, hk, ew, vx, vk, zl]
            · have ew1 : wq P 1 x k = climb P x k := rfl
              rw [ew1] at zl
              simp (disch := omega) only [ob_t, ob_n, ob_ite, e_cI, e_cL, e_cR, e_vI, e_vL, e_vR, e_d2, e_d2_a, e_d2_b, e_d2z, e_d2z_a, e_d2z_b, e_d1, e_d1_a, e_GI, e_GI_a, e_GL, e_GL_a, e_GR, e_GR_a, e_AI, e_AI_a, e_AI_b, e_AB, e_AB_a, e_AB_b, e_AZ, e_AZ_a, e_AZ_b, e_AL, e_AL_a, e_AL_b, e_AR, e_AR_a, e_AR_b, e_Len, e_Len_a, e_CI, e_CI_a, e_CI_b, e_CZ, e_CZ_a, e_And, e_kAnd, e_Or, e_kOr, e_Not, e_kNot, e_B, e_kB, e_T, e_kT, e_NN, e_kNN, e_NewA, e_NewA_a, e_NewC, e_kNewC, e_aN, e_aI, e_aI_a, e_aI_b, e_aL, e_aL_a, e_aL_b, e_aR, e_aR_a, e_aR_b, e_Call, e_kCall, e_CallV, e_kCallV, e_SetI, e_kSetI, e_SetL, e_kSetL, e_SetR, e_kSetR, e_Inc, e_Skip, e_Brk, e_Cnt, e_Ret, e_kRet, e_Ret0, e_Seq, e_kSeq0, e_kSeq1, e_kSeq2, e_kSeqR, e_If, e_kIf, e_Do, e_kDo, e_Sup, e_kN0, e_d3, e_k3a, e_k3b, e_k3c, e_P, e_kPa, e_kPb, e_UA, e_kUAa, e_kUAb, e_kUAc, e_UL, e_kULa, e_kULb, e_kULc, e_UF, e_kUFa, e_kUFb, e_Cp, e_kCp, e_Sw, e_kSwa, e_kSwb0, e_kSwb1, e_kSwbR, e_M1, e_kM1, e_MZ, e_kMZ, e_MN, e_kMN, e_Tv, e_kTv, e_Tc, e_kTc, e_lpS, e_kLp, e_kLpB0, e_kLpB1, e_kLpB2, e_kLpBR, e_kLpU, e_dwS, e_kDwB0, e_kDwC, f_II, f_LL, f_RR, f_IL, f_IR, f_LI, f_LR, f_RI, f_RL, o_iadd, o_isub, o_imul, o_iand, o_ior, o_ixor, o_ladd, o_lsub, o_lmul, o_land, o_lor, o_ishl, o_ishr, o_iushr, o_lshl, o_lcmp, o_i2l, o_l2i, o_i2b, o_i2s, o_lneg, o_imax, o_imin, o_idiv, o_irem, o_ldiv, o_lrem, r_lt, r_le, r_gt, r_ge, r_eq, r_ne, q_lt, q_le, q_gt, q_ge, q_eq, q_ne, decide_eq_true_eq, idI, and_true, true_and, and_false, false_and, or_true, true_or, or_false, false_or, not_true_eq_false, not_false_eq_true, if_true, if_false, ite_self, Bool.not_true, Bool.not_false, Bool.false_eq_true, Bool.true_eq_false, decide_true, decide_false, ne_eq, reduceIte, Nat.reduceEqDiff, Option.some.injEq, Prod.mk.injEq, eq_self, fa_lit, nI_add, pk_mul, nI_ltI, nI_leI, nI_eq, b01, b0, b1, x_hasBit, Nat.reduceLeDiff, Nat.reduceAdd, Nat.reduceMul, Nat.reduceSub, Nat.lt_irrefl, Nat.reduceLT, n_inb, nI_clamp, w_hr, w_hk, w_hl, w_eq, w_ne, wl_hr, wl_hk, wl_hi, wl_eq, wl_ne, hM'.k, hM'.r47, hM'.k31, e4, hk, ew, ec, vx, vk, zl]
    · rw [if_neg (fun z => zd z.2)] at ew
      rw [if_neg zd]
      refine ⟨g, ?_, hDg, hc⟩
      rcases hq with rfl | rfl
      · simp (disch := omega) only [ob_t, ob_n, ob_ite, e_cI, e_cL, e_cR, e_vI, e_vL, e_vR, e_d2, e_d2_a, e_d2_b, e_d2z, e_d2z_a, e_d2z_b, e_d1, e_d1_a, e_GI, e_GI_a, e_GL, e_GL_a, e_GR, e_GR_a, e_AI, e_AI_a, e_AI_b, e_AB, e_AB_a, e_AB_b, e_AZ, e_AZ_a, e_AZ_b, e_AL, e_AL_a, e_AL_b, e_AR, e_AR_a, e_AR_b, e_Len, e_Len_a, e_CI, e_CI_a, e_CI_b, e_CZ, e_CZ_a, e_And, e_kAnd, e_Or, e_kOr, e_Not, e_kNot, e_B, e_kB, e_T, e_kT, e_NN, e_kNN, e_NewA, e_NewA_a, e_NewC, e_kNewC, e_aN, e_aI, e_aI_a, e_aI_b, e_aL, e_aL_a, e_aL_b, e_aR, e_aR_a, e_aR_b, e_Call, e_kCall, e_CallV, e_kCallV, e_SetI, e_kSetI, e_SetL, e_kSetL, e_SetR, e_kSetR, e_Inc, e_Skip, e_Brk, e_Cnt, e_Ret, e_kRet, e_Ret0, e_Seq, e_kSeq0, e_kSeq1, e_kSeq2, e_kSeqR, e_If, e_kIf, e_Do, e_kDo, e_Sup, e_kN0, e_d3, e_k3a, e_k3b, e_k3c, e_P, e_kPa, e_kPb, e_UA, e_kUAa, e_kUAb, e_kUAc, e_UL, e_kULa, e_kULb, e_kULc, e_UF, e_kUFa, e_kUFb, e_Cp, e_kCp, e_Sw, e_kSwa, e_kSwb0, e_kSwb1, e_kSwbR, e_M1, e_kM1, e_MZ, e_kMZ, e_MN, e_kMN, e_Tv, e_kTv, e_Tc, e_kTc, e_lpS, e_kLp, e_kLpB0, e_kLpB1, e_kLpB2, e_kLpBR, e_kLpU, e_dwS, e_kDwB0, e_kDwC, f_II, f_LL, f_RR, f_IL, f_IR, f_LI, f_LR, f_RI, f_RL, o_iadd, o_isub, o_imul, o_iand, o_ior, o_ixor, o_ladd, o_lsub, o_lmul, o_land, o_lor, o_ishl, o_ishr, o_iushr, o_lshl, o_lcmp, o_i2l, o_l2i, o_i2b, o_i2s, o_lneg, o_imax, o_imin, o_idiv, o_irem, o_ldiv, o_lrem, r_lt, r_le, r_gt, r_ge, r_eq, r_ne, q_lt, q_le, q_gt, q_ge, q_eq, q_ne, decide_eq_true_eq, idI, and_true, true_and, and_false, false_and, or_true, true_or, or_false, false_or, not_true_eq_false, not_false_eq_true, if_true, if_false, ite_self, Bool.not_true, Bool.not_false, Bool.false_eq_true, Bool.true_eq_false, decide_true, decide_false, ne_eq, reduceIte, Nat.reduceEqDiff, Option.some.injEq, Prod.mk.injEq, eq_self, fa_lit, nI_add, pk_mul, nI_ltI, nI_leI, nI_eq, b01, b0, b1, x_hasBit, Nat.reduceLeDiff, Nat.reduceAdd, Nat.reduceMul, Nat.reduceSub, Nat.lt_irrefl, Nat.reduceLT, n_inb, nI_clamp, w_hr, w_hk, w_hl, w_eq, w_ne, wl_hr, wl_hk, wl_hi, wl_eq, wl_ne, hM'.k, hM'.r47, hM'.k31, e4, hk, ew, vx]
      · simp (disch := omega) only [ob_t, ob_n, ob_ite, e_cI, e_cL, e_cR, e_vI, e_vL, e_vR, e_d2, e_d2_a, e_d2_b, e_d2z, e_d2z_a, e_d2z_b, e_d1, e_d1_a, e_GI, e_GI_a, e_GL, e_GL_a, e_GR, e_GR_a, e_AI, e_AI_a, e_AI_b, e_AB, e_AB_a, e_AB_b, e_AZ, e_AZ_a, e_AZ_b, e_AL, e_AL_a, e_AL_b, e_AR, e_AR_a, e_AR_b, e_Len, e_Len_a, e_CI, e_CI_a, e_CI_b, e_CZ, e_CZ_a, e_And, e_kAnd, e_Or, e_kOr, e_Not, e_kNot, e_B, e_kB, e_T, e_kT, e_NN, e_kNN, e_NewA, e_NewA_a, e_NewC, e_kNewC, e_aN, e_aI, e_aI_a, e_aI_b, e_aL, e_aL_a, e_aL_b, e_aR, e_aR_a, e_aR_b, e_Call, e_kCall, e_CallV, e_kCallV, e_SetI, e_kSetI, e_SetL, e_kSetL, e_SetR, e_kSetR, e_Inc, e_Skip, e_Brk, e_Cnt, e_Ret, e_kRet, e_Ret0, e_Seq, e_kSeq0, e_kSeq1, e_kSeq2, e_kSeqR, e_If, e_kIf, e_Do, e_kDo, e_Sup, e_kN0, e_d3, e_k3a, e_k3b, e_k3c, e_P, e_kPa, e_kPb, e_UA, e_kUAa, e_kUAb, e_kUAc, e_UL, e_kULa, e_kULb, e_kULc, e_UF, e_kUFa, e_kUFb, e_Cp, e_kCp, e_Sw, e_kSwa, e_kSwb0, e_kSwb1, e_kSwbR, e_M1, e_kM1, e_MZ, e_kMZ, e_MN, e_kMN, e_Tv, e_kTv, e_Tc, e_kTc, e_lpS, e_kLp, e_kLpB0, e_kLpB1, e_kLpB2, e_kLpBR, e_kLpU, e_dwS, e_kDwB0, e_kDwC, f_II, f_LL, f_RR, f_IL, f_IR, f_LI, f_LR, f_RI, f_RL, o_iadd, o_isub, o_imul, o_iand, o_ior, o_ixor, o_ladd, o_lsub, o_lmul, o_land, o_lor, o_ishl, o_ishr, o_iushr, o_lshl, o_lcmp, o_i2l, o_l2i, o_i2b, o_i2s, o_lneg, o_imax, o_imin, o_idiv, o_irem, o_ldiv, o_lrem, r_lt, r_le, r_gt, r_ge, r_eq, r_ne, q_lt, q_le, q_gt, q_ge, q_eq, q_ne, decide_eq_true_eq, idI, and_true, true_and, and_false, false_and, or_true, true_or, or_false, false_or, not_true_eq_false, not_false_eq_true, if_true, if_false, ite_self, Bool.not_true, Bool.not_false, Bool.false_eq_true, Bool.true_eq_false, decide_true, decide_false, ne_eq, reduceIte, Nat.reduceEqDiff, Option.some.injEq, Prod.mk.injEq, eq_self, fa_lit, nI_add, pk_mul, nI_ltI, nI_leI, nI_eq, b01, b0, b1, x_hasBit, Nat.reduceLeDiff, Nat.reduceAdd, Nat.reduceMul, Nat.reduceSub, Nat.lt_irrefl, Nat.reduceLT, n_inb, nI_clamp, w_hr, w_hk, w_hl, w_eq, w_ne, wl_hr, wl_hk, wl_hi, wl_eq, wl_ne, hM'.k, hM'.r47, hM'.k31, e4, hk, ew, ec, vx]
  · obtain ⟨hDg, hc⟩ := hI
    have Hg := H.cm (cm31 hc)
    have hM := Hg.s
    have e4 := m_houses Hg
    simp (disch := omega) only [ob_t, ob_n, ob_ite, e_cI, e_cL, e_cR, e_vI, e_vL, e_vR, e_d2, e_d2_a, e_d2_b, e_d2z, e_d2z_a, e_d2z_b, e_d1, e_d1_a, e_GI, e_GI_a, e_GL, e_GL_a, e_GR, e_GR_a, e_AI, e_AI_a, e_AI_b, e_AB, e_AB_a, e_AB_b, e_AZ, e_AZ_a, e_AZ_b, e_AL, e_AL_a, e_AL_b, e_AR, e_AR_a, e_AR_b, e_Len, e_Len_a, e_CI, e_CI_a, e_CI_b, e_CZ, e_CZ_a, e_And, e_kAnd, e_Or, e_kOr, e_Not, e_kNot, e_B, e_kB, e_T, e_kT, e_NN, e_kNN, e_NewA, e_NewA_a, e_NewC, e_kNewC, e_aN, e_aI, e_aI_a, e_aI_b, e_aL, e_aL_a, e_aL_b, e_aR, e_aR_a, e_aR_b, e_Call, e_kCall, e_CallV, e_kCallV, e_SetI, e_kSetI, e_SetL, e_kSetL, e_SetR, e_kSetR, e_Inc, e_Skip, e_Brk, e_Cnt, e_Ret, e_kRet, e_Ret0, e_Seq, e_kSeq0, e_kSeq1, e_kSeq2, e_kSeqR, e_If, e_kIf, e_Do, e_kDo, e_Sup, e_kN0, e_d3, e_k3a, e_k3b, e_k3c, e_P, e_kPa, e_kPb, e_UA, e_kUAa, e_kUAb, e_kUAc, e_UL, e_kULa, e_kULb, e_kULc, e_UF, e_kUFa, e_kUFb, e_Cp, e_kCp, e_Sw, e_kSwa, e_kSwb0, e_kSwb1, e_kSwbR, e_M1, e_kM1, e_MZ, e_kMZ, e_MN, e_kMN, e_Tv, e_kTv, e_Tc, e_kTc, e_lpS, e_kLp, e_kLpB0, e_kLpB1, e_kLpB2, e_kLpBR, e_kLpU, e_dwS, e_kDwB0, e_kDwC, f_II, f_LL, f_RR, f_IL, f_IR, f_LI, f_LR, f_RI, f_RL, o_iadd, o_isub, o_imul, o_iand, o_ior, o_ixor, o_ladd, o_lsub, o_lmul, o_land, o_lor, o_ishl, o_ishr, o_iushr, o_lshl, o_lcmp, o_i2l, o_l2i, o_i2b, o_i2s, o_lneg, o_imax, o_imin, o_idiv, o_irem, o_ldiv, o_lrem, r_lt, r_le, r_gt, r_ge, r_eq, r_ne, q_lt, q_le, q_gt, q_ge, q_eq, q_ne, decide_eq_true_eq, idI, and_true, true_and, and_false, false_and, or_true, true_or, or_false, false_or, not_true_eq_false, not_false_eq_true, if_true, if_false, ite_self, Bool.not_true, Bool.not_false, Bool.false_eq_true, Bool.true_eq_false, decide_true, decide_false, ne_eq, reduceIte, Nat.reduceEqDiff, Option.some.injEq, Prod.mk.injEq, eq_self, fa_lit, nI_add, pk_mul, nI_ltI, nI_leI, nI_eq, b01, b0, b1, x_hasBit, Nat.reduceLeDiff, Nat.reduceAdd, Nat.reduceMul, Nat.reduceSub, Nat.lt_irrefl, Nat.reduceLT, n_inb, nI_clamp, w_hr, w_hk, w_hl, w_eq, w_ne, wl_hr, wl_hk, wl_hi, wl_eq, wl_ne, hM.k, hM.k1, hM.k2, hM.k3, hM.k4, hM.k5, hM.k6, hM.k7, hM.k8, hM.k9, hM.k10, hM.k11, hM.k12, hM.k13, hM.k14, hM.k15, hM.k16, hM.k17, hM.k18, hM.k19, hM.k20, hM.k21, hM.k22, hM.k23, hM.k24, hM.k25, hM.k26, hM.k27, hM.k28, hM.k29, hM.k30, hM.k31, hM.k32, hM.k33, hM.k34, hM.k35, hM.r1, hM.r2, hM.r3, hM.r4, hM.r5, hM.r16, hM.r17, hM.r18, hM.r19, hM.r20, hM.r21, hM.r22, hM.r23, hM.r24, hM.r25, hM.r26, hM.r31, hM.r32, hM.r33, hM.r34, hM.r35, hM.r36, hM.r37, hM.r38, hM.r39, hM.r40, hM.r41, hM.r42, hM.r43, hM.r44, hM.r47, hM.r48, hM.r49, hM.r50, hM.r54, stI, fI, fZ, fL, stL, e4]
end
