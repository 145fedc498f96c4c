set_option maxRecDepth 100000
set_option maxHeartbeats 1000000
/-! the first of most; what would be otherwise -/
def gM (f : Nat → Nat) : Nat → Nat
  | 0 => 0
  | k + 1 => if gM f k < f k then f k else gM f k
def gA (f : Nat → Nat) : Nat → Nat
  | 0 => 0
  | k + 1 => if gM f k < f k then k + 1 else gA f k
theorem gM_le {f : Nat → Nat} {b : Nat} (h : ∀ k, f k ≤ b) : ∀ n, gM f n ≤ b := by
  intro n
  induction n with
  | zero => exact Nat.zero_le _
  | succ n ih =>
    have := h n
    show (if gM f n < f n then f n else gM f n) ≤ b
    split <;> omega
theorem gA_le (f : Nat → Nat) : ∀ n, gA f n ≤ n := by
  intro n
  induction n with
  | zero => exact Nat.le_refl _
  | succ n ih =>
    show (if gM f n < f n then n + 1 else gA f n) ≤ n + 1
    split <;> omega
theorem gA_M (f : Nat → Nat) : ∀ n, (gA f n = 0 ∧ gM f n = 0) ∨ (gA f n ≠ 0 ∧ gM f n = f (gA f n - 1)) := by
  intro n
  induction n with
  | zero => exact Or.inl ⟨rfl, rfl⟩
  | succ n ih =>
    show ((if gM f n < f n then n + 1 else gA f n) = 0 ∧ (if gM f n < f n then f n else gM f n) = 0) ∨ ((if gM f n < f n then n + 1 else gA f n) ≠ 0 ∧ (if gM f n < f n then f n else gM f n) = f ((if gM f n < f n then n + 1 else gA f n) - 1))
    by_cases z : gM f n < f n
    · rw [if_pos z, if_pos z]
      exact Or.inr ⟨by omega, rfl⟩
    · rw [if_neg z, if_neg z]
      exact ih
theorem gA_pos {f : Nat → Nat} (h : ∀ k, 1 ≤ f k) : ∀ n, 1 ≤ n → gA f n ≠ 0 := by
  intro n hn1
  induction n with
  | zero => omega
  | succ n ih =>
    show (if gM f n < f n then n + 1 else gA f n) ≠ 0
    by_cases z : gM f n < f n
    · rw [if_pos z]; omega
    · rw [if_neg z]
      by_cases y : n = 0
      · subst y
        have : gM f 0 = 0 := rfl
        have := h 0
        omega
      · exact ih (by omega)
/-- the first of least, below a bound -/
def lM (b : Nat) (f : Nat → Nat) : Nat → Nat
  | 0 => b
  | k + 1 => if f k < lM b f k then f k else lM b f k
def lA (b : Nat) (f : Nat → Nat) : Nat → Nat
  | 0 => 0
  | k + 1 => if f k < lM b f k then k + 1 else lA b f k
theorem lM_le {b : Nat} {f : Nat → Nat} : ∀ n, lM b f n ≤ b := by
  intro n
  induction n with
  | zero => exact Nat.le_refl _
  | succ n ih =>
    show (if f n < lM b f n then f n else lM b f n) ≤ b
    split <;> omega
theorem lA_le (b : Nat) (f : Nat → Nat) : ∀ n, lA b f n ≤ n := by
  intro n
  induction n with
  | zero => exact Nat.le_refl _
  | succ n ih =>
    show (if f n < lM b f n then n + 1 else lA b f n) ≤ n + 1
    split <;> omega
/-- above, where one more is told: n - 1 as a number -/
theorem n_gt1 {a b : Nat} (ha : a < 2 ^ 20) (hb : b < 2 ^ 20) : (nI a + -nI 1 < nI b) = (a < b + 1) := by
  by_cases z : a = 0
  · subst z
    rw [fa_lt, nI_toInt (n := b) (by omega), show (nI 0 + -nI 1 : Int32).toInt = -1 by decide]
    exact propext (by omega)
  · rw [n_pred (by omega), fa_lt, nI_toInt (n := a - 1) (by omega), nI_toInt (n := b) (by omega)]
    exact propext (by omega)
theorem n_le1 {a b : Nat} (ha : a < 2 ^ 20) (hb : b < 2 ^ 20) : (nI b ≤ nI a + -nI 1) = (b + 1 ≤ a) := by
  by_cases z : a = 0
  · subst z
    rw [fa_le, nI_toInt (n := b) (by omega), show (nI 0 + -nI 1 : Int32).toInt = -1 by decide]
    exact propext (by omega)
  · rw [n_pred (by omega), fa_le, nI_toInt (n := a - 1) (by omega), nI_toInt (n := b) (by omega)]
    exact propext (by omega)
def whT (P : PT) (k v : Nat) : PT := up (asTold P Z0) 0 k v
def WFk (k v : Nat) : Prop := (k = 0 ∧ v ≤ 3) ∨ (k = 1 ∧ v ≤ 12) ∨ (k = 2 ∧ v < 256) ∨ (k = 3 ∧ v < 4096)
theorem WFX_wh {P : PT} (hW : WFP P) (S : PT) {k v : Nat} (h : WFk k v) : WFX P (up (asTold P S) 0 k v) := by
  have hb := hW.all
  unfold WFk at h
  rcases h with ⟨rfl, h⟩ | ⟨rfl, h⟩ | ⟨rfl, h⟩ | ⟨rfl, h⟩ <;> (refine ⟨?_, ?_, ?_, ?_, Or.inl ?_⟩ <;> simp [asTold, up] <;> omega)
theorem wh6 (P S T : PT) (k v i : Nat) (hi1 : i < 6) : up (asTold P S) 0 k v 0 i = up (asTold P T) 0 k v 0 i := by
  unfold up
  split
  · rfl
  · exact told6 P S T i hi1
theorem wh_eq {P : PT} (hW : WFP P) (S : PT) (k v d : Nat) {j i : Nat} (hu : UIn P j i) (hn1 : j ≠ 0 ∨ i < 6) : runN P (up (asTold P S) 0 k v) d j i = runN P (whT P k v) d j i := (runN_same hW (wh6 P S Z0 k v) d).at hu hn1
theorem heard_wh {P : PT} (hW : WFP P) (S : PT) (k v d : Nat) {s : Nat} (hs : s < P 0 7) : heard P (runN P (up (asTold P S) 0 k v) d) s = heard P (runN P (whT P k v) d) s := by
  have hb := hW.all
  exact heN_c _ hb.2.2.2.1 (fun a ha => wh_eq hW S k v d (by unfold UIn; omega) (by omega))
section
variable {W : St} {h : St} {P : PT}
theorem Inv.what (H : Inv W h P) {k v : Nat} (hk1 : WFk k v) : ∃ S g1 g2, DX2_setAsTold (sR (sR fr0 0 (oW + 1)) 1 oP) h = some ((), g1) ∧ fI 2 k (oW + 1) (enc 0 k v) g1 = some g2 ∧ RC g2 (oW + 1) (up (asTold P S) 0 k v) ∧ Ch (cD (oW + 1)) h g1 ∧ Ch (cD (oW + 1)) h g2 := by
  obtain ⟨S, hS⟩ := H.wi
  have hD := H.dw
  obtain ⟨g1, a1, b1, c1⟩ := x_setAsTold hD.c hS H.ps H.pg.r
  obtain ⟨g2, a2, b2, c2⟩ := C_fld (hD.c.to c1.1) b1 (k := k) v (w := enc 0 k v) rfl
  exact ⟨S, g1, g2, a1, a2, b2, c1, c1.tr c2⟩
theorem Inv.whfill (H : Inv W h P) {k v : Nat} (hk1 : WFk k v) : ∃ S g1 g2 g3, DX2_setAsTold (sR (sR fr0 0 (oW + 1)) 1 oP) h = some ((), g1) ∧ fI 2 k (oW + 1) (enc 0 k v) g1 = some g2 ∧ DX3_fill (sR (sR fr0 0 oW) 1 oP) g2 = some ((), g3) ∧ DRel g3 oW P (up (asTold P S) 0 k v) ∧ SH h g1 ∧ SH g1 g2 ∧ SH g2 g3 ∧ Inv W g3 P ∧ Ch (dD oW) h g3 := by
  have hc := o_is
  obtain ⟨S, g1, g2, a1, a2, b2, c1, c2⟩ := H.what hk1
  have hd2 := H.dw.to c2.1
  have hG2 := H.pg.ch c2 (fun j hj => by unfold cD; omega)
  obtain ⟨g3, a3, b3, c3⟩ := x_dfill hd2 b2 hG2 (WFX_wh H.w S hk1) (by omega)
  have c2' : Ch (dD oW) h g2 := c2.mono (fun o ho => by unfold cD at ho; unfold dD; omega)
  have q := c2'.tr c3
  have s2 : SH g1 g2 := ⟨c2.1.1.trans c1.1.1.symm, c2.1.2.1.trans c1.1.2.1.symm, c2.1.2.2.1.trans c1.1.2.2.1.symm, c2.1.2.2.2.trans c1.1.2.2.2.symm⟩
  exact ⟨S, g1, g2, g3, a1, a2, a3, b3, c1.1, s2, c3.1, H.wh q (fun o ho => by unfold dD at ho; omega) ⟨_, b3.2.2⟩, q⟩
theorem Inv.whrun (H : Inv W h P) {k v : Nat} (hk1 : WFk k v) : ∃ S g1 g2 g3, DX2_setAsTold (sR (sR fr0 0 (oW + 1)) 1 oP) h = some ((), g1) ∧ fI 2 k (oW + 1) (enc 0 k v) g1 = some g2 ∧ DX2_runThrough (sR (sR fr0 0 (oW + 1)) 1 oP) g2 = some ((), g3) ∧ RC g3 (oW + 1) (runN P (up (asTold P S) 0 k v) (P 0 1)) ∧ SH h g1 ∧ SH g1 g2 ∧ SH g2 g3 ∧ Inv W g3 P ∧ Ch (cD (oW + 1)) h g3 := by
  have hc := o_is
  obtain ⟨S, g1, g2, a1, a2, b2, c1, c2⟩ := H.what hk1
  have hd2 := H.dw.to c2.1
  have hG2 := H.pg.ch c2 (fun j hj => by unfold cD; omega)
  obtain ⟨g3, a3, b3, c3⟩ := x_runThrough hd2.c b2 hG2 (WFX_wh H.w S hk1) (by omega)
  have q := c2.tr c3
  have s2 : SH g1 g2 := ⟨c2.1.1.trans c1.1.1.symm, c2.1.2.1.trans c1.1.2.1.symm, c2.1.2.2.1.trans c1.1.2.2.1.symm, c2.1.2.2.2.trans c1.1.2.2.2.symm⟩
  exact ⟨S, g1, g2, g3, a1, a2, a3, b3, c1.1, s2, c3.1, H.wh q (fun o ho => by unfold cD at ho; omega) ⟨_, b3⟩, q⟩
theorem x_hearersBy (H : Inv W h P) {s v : Nat} (hs : s < P 0 7) (hv : v ≤ 3) : ∃ g, DX11_hearersBy (sI (sI (sR fr0 0 oX) 1 (nI s)) 2 (nI v)) h = some (nI (heard P (runN P (whT P 0 v) (P 0 1)) s), g) ∧ Inv W g P := by
  have hb := H.w.all
  obtain ⟨S, g1, g2, g3, a1, a2, a3, b3, s1, s2, s3, H3, -⟩ := H.whfill (k := 0) (v := v) (Or.inl ⟨rfl, hv⟩)
  have a2 : fI 2 0 (oW + 1) (nI v) g1 = some g2 := a2
  have e1 := x_hearersOn H3.dw H3.pg (WFX_wh H.w S (Or.inl ⟨rfl, hv⟩)) b3 (s := s) (day := P 0 1) (by omega) (Nat.le_refl _)
  rw [heard_wh H.w S 0 v (P 0 1) hs] at e1
  have hO := H.co
  have hP := H.ps
  have hD := H.dw
  have f1 := H3.pg.r.sc (k := 1) (by decide)
  have r1 := s1.1
  have k1 := s1.2.1
  have r2 := s2.1
  have k2 := s2.2.1
  have r3 := s3.1
  have k3 := s3.2.1
  have kc := hD.c.k
  refine ⟨g3, ?_, H3⟩
  simp (disch := omega) only [ob_t, ob_n, ob_ite, e_cI, e_cL, e_cR, e_vI, e_vL, e_vR, e_d2, e_d2_a, e_d2_b, e_d2z, e_d2z_a, e_d2z_b, e_d1, e_d1_a, e_GI, e_GI_a, e_GL, e_GL_a, e_GR, e_GR_a, e_AI, e_AI_a, e_AI_b, e_AB, e_AB_a, e_AB_b, e_AZ, e_AZ_a, e_AZ_b, e_AL, e_AL_a, e_AL_b, e_AR, e_AR_a, e_AR_b, e_Len, e_Len_a, e_CI, e_CI_a, e_CI_b, e_CZ, e_CZ_a, e_And, e_kAnd, e_Or, e_kOr, e_Not, e_kNot, e_B, e_kB, e_T, e_kT, e_NN, e_kNN, e_NewA, e_NewA_a, e_NewC, e_kNewC, e_aN, e_aI, e_aI_a, e_aI_b, e_aL, e_aL_a, e_aL_b, e_aR, e_aR_a, e_aR_b, e_Call, e_kCall, e_CallV, e_kCallV, e_SetI, e_kSetI, e_SetL, e_kSetL, e_SetR, e_kSetR, e_Inc, e_Skip, e_Brk, e_Cnt, e_Ret, e_kRet, e_Ret0, e_Seq, e_kSeq0, e_kSeq1, e_kSeq2, e_kSeqR, e_If, e_kIf, e_Do, e_kDo, e_Sup, e_kN0, e_d3, e_k3a, e_k3b, e_k3c, e_P, e_kPa, e_kPb, e_UA, e_kUAa, e_kUAb, e_kUAc, e_UL, e_kULa, e_kULb, e_kULc, e_UF, e_kUFa, e_kUFb, e_Cp, e_kCp, e_Sw, e_kSwa, e_kSwb0, e_kSwb1, e_kSwbR, e_M1, e_kM1, e_MZ, e_kMZ, e_MN, e_kMN, e_Tv, e_kTv, e_Tc, e_kTc, e_lpS, e_kLp, e_kLpB0, e_kLpB1, e_kLpB2, e_kLpBR, e_kLpU, e_dwS, e_kDwB0, e_kDwC, f_II, f_LL, f_RR, f_IL, f_IR, f_LI, f_LR, f_RI, f_RL, o_iadd, o_isub, o_imul, o_iand, o_ior, o_ixor, o_ladd, o_lsub, o_lmul, o_land, o_lor, o_ishl, o_ishr, o_iushr, o_lshl, o_lshr, o_lcmp, o_i2l, o_l2i, o_i2b, o_i2s, o_lneg, o_ineg, o_imax, o_imin, o_idiv, o_irem, o_ldiv, o_lrem, r_lt, r_le, r_gt, r_ge, r_eq, r_ne, q_lt, q_le, q_gt, q_ge, q_eq, q_ne, decide_eq_true_eq, idI, and_true, true_and, and_false, false_and, or_true, true_or, or_false, false_or, not_true_eq_false, not_false_eq_true, if_true, if_false, ite_self, Bool.not_true, Bool.not_false, Bool.false_eq_true, Bool.true_eq_false, decide_true, decide_false, ne_eq, reduceIte, Nat.reduceEqDiff, Option.some.injEq, Prod.mk.injEq, eq_self, fa_lit, nI_add, pk_mul, nI_ltI, nI_leI, nI_eq, b01, b0, b1, x_hasBit, Nat.reduceLeDiff, Nat.reduceAdd, Nat.reduceMul, Nat.reduceSub, Nat.lt_irrefl, Nat.reduceLT, hO.koX, hO.k32, hO.k33, hO.k34, hO.k67, hO.k68, hO.k69, hO.k70, hO.k71, hO.k100, hO.k101, hO.k115, hO.k116, hO.k117, hO.k118, hO.k119, hO.k120, hO.k121, hO.roX_0, hO.roX_1, hO.roX_2, hO.roX_3, hO.roX_4, hO.roX_5, hO.roX_6, hO.roX_7, hO.roX_8, hO.roX_9, hO.roX_10, hO.roX_11, hO.roX_12, hO.roX_13, hO.r32_0, hO.r68_0, hO.r68_1, hO.r68_2, hO.r100_0, hO.r115_2, hO.r115_3, hO.r118_1, hP.k, hP.k9, hP.r8, hP.r9, hP.r10, hP.r11, hP.r12, hP.r13, hP.r14, hP.r15, hP.r16, hP.c3, hP.c4, hP.c5, hP.c6, hP.c7, hP.c8, n_inb, nI_clamp, w_hr, w_hk, w_hl, w_eq, w_ne, wl_hr, wl_hk, wl_hi, wl_eq, wl_ne, f_ss, f_sR, f_sL, lc0, lc1, lc01, DX11_hearersBy, BX11_hearersBy, hD.k, hD.r1, kc, a1, r1, k1, a2, r2, k2, a3, r3, k3, f1, e1]
theorem wh4 {P : PT} (hW : WFP P) {k v : Nat} (hk1 : WFk k v) (d : Nat) {i : Nat} (hi1 : i < 24) : runN P (whT P k v) d 4 i < 64 := WFS4 hW (WFX_wh hW Z0 hk1) d hi1
end
