set_option maxRecDepth 100000
set_option maxHeartbeats 4000000
/-! a DAY of a Course, in plain numbers and in the class -/
def loadS (P S : PT) (s a : Nat) : Nat := wt P s (S 3 s) + climb P (S 2 s) a
def hinS (P S : PT) (i : Nat) : Nat :=
  if (S 0 6).testBit (P 10 i) = true ∨ (S 0 7).testBit (P 11 i) = true then 2
  else if S 1 (P 10 i) ≠ S 2 (P 11 i) then 3
  else if (S 0 2).testBit (P 12 i) = true ∨ ¬ (doors P (S 2 (P 11 i)) (S 0 1)).testBit (P 12 i) = true then 4
  else if P 5 (P 10 i) < loadS P S (P 11 i) (P 12 i) then 5 else 0
def wetS (P S : PT) (s : Nat) (b : Bool) : Nat := if b = true then rubL P s (S 3 s) 1 else S 3 s
def outS (P S : PT) (i : Nat) : PT := up (up (up (up (up S 7 i (loadS P S (P 11 i) (P 12 i) + 1)) 0 6 (S 0 6 ||| 2 ^ P 10 i)) 0 7 (S 0 7 ||| 2 ^ P 11 i)) 1 (P 10 i) (P 12 i)) 2 (P 11 i) (P 12 i)
def carS (P S : PT) (i : Nat) (b : Bool) : PT :=
  if (S 5 (P 11 i)).testBit (P 12 i) = true then up (up (outS P S i) 4 (8 * P 11 i + P 12 i) (S 4 (8 * P 11 i + P 12 i) ||| wetS P S (P 11 i) b)) 3 (P 11 i) (wetS P S (P 11 i) b)
  else up (up (up (outS P S i) 4 (8 * P 11 i + P 12 i) (S 4 (8 * P 11 i + P 12 i) ||| wetS P S (P 11 i) b)) 5 (P 11 i) (S 5 (P 11 i) ||| 2 ^ P 12 i)) 3 (P 11 i) (rubL P (P 11 i) (wetS P S (P 11 i) b) (S 0 0))
def stepS (P S : PT) (d i : Nat) : PT := if P 13 i = d then (if hinS P S i = 0 then carS P (up S 6 i (hinS P S i)) i ((S 0 3).testBit d) else up S 6 i (hinS P S i)) else S
def dayN (P S : PT) (d : Nat) : Nat → PT
  | 0 => up (up S 0 6 0) 0 7 0
  | i + 1 => stepS P (dayN P S d i) d i
def dayS (P S : PT) (d : Nat) : PT := dayN P S d (P 9 1)
/-- where a SLATE lies at first -/
def fsS (P S : PT) (s : Nat) : Nat := if s + 1 = S 0 4 then S 0 5 - 1 else P 6 s
def begS (P S : PT) : PT := fun j k =>
  if j = 1 ∧ k < P 0 6 then P 4 k else if j = 2 ∧ k < P 0 7 then fsS P S k else if j = 3 ∧ k < P 0 7 then lf0 P k
  else if j = 5 ∧ k < P 0 7 then 2 ^ fsS P S k else if j = 4 then (if k / 8 < P 0 7 ∧ k % 8 = fsS P S (k / 8) then lf0 P (k / 8) else 0)
  else if j = 6 then 1 else if j = 7 then 0 else S j k
def runN (P S : PT) : Nat → PT
  | 0 => begS P S
  | d + 1 => dayS P (runN P S d) d
/-- what stands of a Course's value -/
def WFX (P S : PT) : Prop := S 0 0 ≤ 3 ∧ S 0 1 ≤ 12 ∧ S 0 2 < 256 ∧ S 0 3 < 4096 ∧ (S 0 4 = 0 ∨ (S 0 4 ≤ P 0 7 ∧ 1 ≤ S 0 5 ∧ S 0 5 ≤ P 0 4))
def WFS (P S : PT) : Prop := WFX P S ∧ S 0 6 < 32 ∧ S 0 7 < 8 ∧ (∀ m, m < P 0 6 → S 1 m < P 0 4) ∧ (∀ s, s < P 0 7 → S 2 s < P 0 4) ∧ (∀ s, s < P 0 7 → S 3 s < 2 ^ P 7 s) ∧ (∀ s, s < P 0 7 → S 5 s < 256) ∧ (∀ k, k < 24 → S 4 k < 64) ∧ (∀ i, i < 32 → S 6 i ≤ 5) ∧ ∀ i, i < 32 → S 7 i ≤ 201
def PG (h : St) (p : Nat) (P : PT) : Prop := PS h p ∧ RP h p P ∧ WFP P
theorem PG.s {h : St} {p : Nat} {P : PT} (G : PG h p P) : PS h p := G.1
theorem PG.r {h : St} {p : Nat} {P : PT} (G : PG h p P) : RP h p P := G.2.1
theorem PG.w {h : St} {p : Nat} {P : PT} (G : PG h p P) : WFP P := G.2.2
theorem PG.ch {D : Nat → Prop} {h h' : St} {p : Nat} {P : PT} (G : PG h p P) (q : Ch D h h') (hD : ∀ j, j < 16 → ¬ D (p + j)) : PG h' p P := ⟨G.s.to q.1, RP.ch q hD G.r, G.w⟩
theorem bit_lt {l n : Nat} (hl : l < 2 ^ n) {i : Nat} (hb : l.testBit i = true) : i < n := by
  refine Nat.lt_of_not_le fun z => ?_
  rw [Nat.testBit_lt_two_pow (Nat.lt_of_lt_of_le hl (Nat.pow_le_pow_right (by decide) z))] at hb
  cases hb
theorem rubL_le (P : PT) (s l law : Nat) : rubL P s l law ≤ l := by
  unfold rubL
  split
  · exact Nat.le_refl _
  · exact clr_le _ _
theorem WFP.sl {P : PT} (hW : WFP P) {s : Nat} (hs : s < P 0 7) : P 6 s < P 0 4 ∧ 1 ≤ P 7 s ∧ P 7 s ≤ 6 ∧ ∀ i, i < P 7 s → 1 ≤ P 8 (6 * s + i) ∧ P 8 (6 * s + i) ≤ 30 := hW.2.2.2.2.2.2.2.2.2.2.2.2.2.2.2.2.2.2.1 s hs
theorem WFP.cy {P : PT} (hW : WFP P) {k : Nat} (hk : k < P 9 1) : P 10 k < P 0 6 ∧ P 11 k < P 0 7 ∧ P 12 k < P 0 4 ∧ P 13 k ≤ 11 := hW.2.2.2.2.2.2.2.2.2.2.2.2.2.2.2.2.2.2.2.1 k hk
theorem WFP.cr {P : PT} (hW : WFP P) {k : Nat} (hk : k < P 0 6) : P 4 k < P 0 4 ∧ P 5 k ≤ 99 := hW.2.2.2.2.2.2.2.2.2.2.2.2.2.2.2.2.2.1 k hk
theorem WFP.hi {P : PT} (hW : WFP P) {k : Nat} (hk : k < P 0 4) : P 1 k ≤ 20 := hW.2.2.2.2.2.2.2.2.2.2.2.2.2.2.2.1 k hk
theorem wt_le {P : PT} (hW : WFP P) {s l : Nat} (hs : s < P 0 7) (hl : l < 2 ^ P 7 s) : wt P s l ≤ 180 := by
  have h1 := hW.sl hs
  exact wtN_le (fun i _ hb => (h1.2.2.2 i (bit_lt hl hb)).2) 6 (Nat.le_refl _)
theorem pw6 {P : PT} (hW : WFP P) {s : Nat} (hs : s < P 0 7) : 2 ^ P 7 s ≤ 64 := by
  have h1 := hW.sl hs
  exact show 2 ^ P 7 s ≤ 2 ^ 6 from Nat.pow_le_pow_right (by decide) h1.2.2.1
theorem climb_le {P : PT} (hW : WFP P) {a b : Nat} (hb : b < P 0 4) : climb P a b ≤ 20 := by
  have := hW.hi hb
  unfold climb
  omega
theorem loadS_le {P S : PT} (hW : WFP P) (hS : WFS P S) {s a : Nat} (hs : s < P 0 7) (ha : a < P 0 4) : loadS P S s a ≤ 200 := by
  have h1 := wt_le hW hs (hS.2.2.2.2.2.1 s hs)
  have h2 := climb_le hW (a := S 2 s) ha
  unfold loadS
  omega
/-- the lowest bit goes -/
def fsN (l : Nat) : Nat → Nat
  | 0 => 0
  | k + 1 => if l.testBit k = true ∧ fsN l k = 0 then k + 1 else fsN l k
theorem bs_fs (P : PT) (s l : Nat) : ∀ k, bsN P s l 1 k = fsN l k := by
  intro k
  induction k with
  | zero => rfl
  | succ k ih =>
    unfold bsN fsN
    rw [ih]
    simp
theorem low_d : ∀ l, l < 64 → nI l &&& (nI l - nI 1) = nI (if fsN l 6 = 0 then l else clr l (2 ^ (fsN l 6 - 1))) := by decide +kernel
theorem n_low (P : PT) (s : Nat) {l : Nat} (hl : l < 64) : nI l &&& (nI l - nI 1) = nI (rubL P s l 1) := by
  rw [low_d l hl]
  unfold rubL
  rw [bs_fs]
  simp
section
variable {h : St} {c p : Nat} {S P : PT}
theorem x_loadTo (hC : CS h c) (hR : RC h c S) (hG : PG h p P) (hS : WFS P S) {s a : Nat} (hs : s < P 0 7) (ha : a < P 0 4) : DX2_loadTo (sI (sI (sR (sR fr0 0 c) 1 p) 2 (nI s)) 3 (nI a)) h = some (nI (loadS P S s a), h) := by
  obtain ⟨hP, hRP, hW⟩ := hG
  have hb := hW.all
  have hl := hS.2.2.2.2.2.1 s hs
  have hl6 := pw6 hW hs
  have e1 := C_cell hC hR (j := 3) (k := s) (by decide) (by decide) (by show s < 3; omega)
  have e2 := C_cell hC hR (j := 2) (k := s) (by decide) (by decide) (by show s < 3; omega)
  have e3 := x_weightOf hP hRP hW hs (l := S 3 s) (by omega) (fun i _ hb => bit_lt hl hb)
  have e4 := x_climbTo hP hRP hW (hS.2.2.2.2.1 s hs) ha
  simp (disch := omega) only [DX2_loadTo, BX2_loadTo, ob_t, ob_n, ob_ite, e_cI, e_cL, e_cR, e_vI, e_vL, e_vR, e_d2, e_d2_a, e_d2_b, e_d2z, e_d2z_a, e_d2z_b, e_d1, e_d1_a, e_GI, e_GI_a, e_GL, e_GL_a, e_GR, e_GR_a, e_AI, e_AI_a, e_AI_b, e_AB, e_AB_a, e_AB_b, e_AZ, e_AZ_a, e_AZ_b, e_AL, e_AL_a, e_AL_b, e_AR, e_AR_a, e_AR_b, e_Len, e_Len_a, e_CI, e_CI_a, e_CI_b, e_CZ, e_CZ_a, e_And, e_kAnd, e_Or, e_kOr, e_Not, e_kNot, e_B, e_kB, e_T, e_kT, e_NN, e_kNN, e_NewA, e_NewA_a, e_NewC, e_kNewC, e_aN, e_aI, e_aI_a, e_aI_b, e_aL, e_aL_a, e_aL_b, e_aR, e_aR_a, e_aR_b, e_Call, e_kCall, e_CallV, e_kCallV, e_SetI, e_kSetI, e_SetL, e_kSetL, e_SetR, e_kSetR, e_Inc, e_Skip, e_Brk, e_Cnt, e_Ret, e_kRet, e_Ret0, e_Seq, e_kSeq0, e_kSeq1, e_kSeq2, e_kSeqR, e_If, e_kIf, e_Do, e_kDo, e_Sup, e_kN0, e_d3, e_k3a, e_k3b, e_k3c, e_P, e_kPa, e_kPb, e_UA, e_kUAa, e_kUAb, e_kUAc, e_UL, e_kULa, e_kULb, e_kULc, e_UF, e_kUFa, e_kUFb, e_Cp, e_kCp, e_Sw, e_kSwa, e_kSwb0, e_kSwb1, e_kSwbR, e_M1, e_kM1, e_MZ, e_kMZ, e_MN, e_kMN, e_Tv, e_kTv, e_Tc, e_kTc, e_lpS, e_kLp, e_kLpB0, e_kLpB1, e_kLpB2, e_kLpBR, e_kLpU, e_dwS, e_kDwB0, e_kDwC, f_II, f_LL, f_RR, f_IL, f_IR, f_LI, f_LR, f_RI, f_RL, o_iadd, o_isub, o_imul, o_iand, o_ior, o_ixor, o_ladd, o_lsub, o_lmul, o_land, o_lor, o_ishl, o_ishr, o_iushr, o_lshl, o_lshr, o_lcmp, o_i2l, o_l2i, o_i2b, o_i2s, o_lneg, o_ineg, o_imax, o_imin, o_idiv, o_irem, o_ldiv, o_lrem, r_lt, r_le, r_gt, r_ge, r_eq, r_ne, q_lt, q_le, q_gt, q_ge, q_eq, q_ne, decide_eq_true_eq, idI, and_true, true_and, and_false, false_and, or_true, true_or, or_false, false_or, not_true_eq_false, not_false_eq_true, if_true, if_false, ite_self, Bool.not_true, Bool.not_false, Bool.false_eq_true, Bool.true_eq_false, decide_true, decide_false, ne_eq, reduceIte, Nat.reduceEqDiff, Option.some.injEq, Prod.mk.injEq, eq_self, fa_lit, nI_add, pk_mul, nI_ltI, nI_leI, nI_eq, b01, b0, b1, x_hasBit, Nat.reduceLeDiff, Nat.reduceAdd, Nat.reduceMul, Nat.reduceSub, Nat.lt_irrefl, Nat.reduceLT, hP.k, hC.k, hC.r8, hC.r9, hC.r10, hC.r11, hC.r12, hC.r13, hC.r14, e1, e2, e3, e4, loadS]
theorem x_hindrance (hC : CS h c) (hR : RC h c S) (hG : PG h p P) (hS : WFS P S) {i : Nat} (hi1 : i < P 9 1) : DX2_hindrance (sI (sR (sR fr0 0 c) 1 p) 2 (nI i)) h = some (nI (hinS P S i), h) := by
  have hG' := hG
  obtain ⟨hP, hRP, hW⟩ := hG
  have hb := hW.all
  obtain ⟨hm, hs, ha, hd⟩ := hW.cy hi1
  have hl := loadS_le hW hS hs ha
  have hst := (hW.cr hm).2
  have hf := hS.2.2.2.2.1 _ hs
  have hx := hS.1
  unfold WFX at hx
  have hmm := hS.2.2.2.1 _ hm
  have h6 := hS.2.1
  have h7 := hS.2.2.1
  have f6 : hi h c 6 = nI (S 0 6) := hR 0 6 (by unfold CIn; exact ⟨by decide, by decide⟩)
  have f7 : hi h c 7 = nI (S 0 7) := hR 0 7 (by unfold CIn; exact ⟨by decide, by decide⟩)
  have f2 : hi h c 2 = nI (S 0 2) := hR 0 2 (by unfold CIn; exact ⟨by decide, by decide⟩)
  have f1 : hi h c 1 = nI (S 0 1) + -nI 1 := hR 0 1 (by unfold CIn; exact ⟨by decide, by decide⟩)
  have e1 := RP.car hP hRP hW (j := 10) (by decide) (by decide) hi1
  have e2 := RP.car hP hRP hW (j := 11) (by decide) (by decide) hi1
  have e3 := RP.car hP hRP hW (j := 12) (by decide) (by decide) hi1
  have e4 := C_cell hC hR (j := 2) (k := P 11 i) (by decide) (by decide) (by show _ < 3; omega)
  have e5 := C_cell hC hR (j := 1) (k := P 10 i) (by decide) (by decide) (by show _ < 5; omega)
  have e6 := x_doorsOf hP hRP hW (a := S 2 (P 11 i)) (lost := S 0 1) (by omega) hx.2.1
  have e7 := x_loadTo hC hR hG' hS hs ha
  have e8 := RP.cstrong hP hRP hW hm
  have hdl : doors P (S 2 (P 11 i)) (S 0 1) < 2 ^ 8 := doN_lt hW _ _ _ (Nat.le_refl _)
  unfold hinS
  by_cases q1 : (S 0 6).testBit (P 10 i) = true
  · simp (disch := omega) only [DX2_hindrance, BX2_hindrance, ob_t, ob_n, ob_ite, e_cI, e_cL, e_cR, e_vI, e_vL, e_vR, e_d2, e_d2_a, e_d2_b, e_d2z, e_d2z_a, e_d2z_b, e_d1, e_d1_a, e_GI, e_GI_a, e_GL, e_GL_a, e_GR, e_GR_a, e_AI, e_AI_a, e_AI_b, e_AB, e_AB_a, e_AB_b, e_AZ, e_AZ_a, e_AZ_b, e_AL, e_AL_a, e_AL_b, e_AR, e_AR_a, e_AR_b, e_Len, e_Len_a, e_CI, e_CI_a, e_CI_b, e_CZ, e_CZ_a, e_And, e_kAnd, e_Or, e_kOr, e_Not, e_kNot, e_B, e_kB, e_T, e_kT, e_NN, e_kNN, e_NewA, e_NewA_a, e_NewC, e_kNewC, e_aN, e_aI, e_aI_a, e_aI_b, e_aL, e_aL_a, e_aL_b, e_aR, e_aR_a, e_aR_b, e_Call, e_kCall, e_CallV, e_kCallV, e_SetI, e_kSetI, e_SetL, e_kSetL, e_SetR, e_kSetR, e_Inc, e_Skip, e_Brk, e_Cnt, e_Ret, e_kRet, e_Ret0, e_Seq, e_kSeq0, e_kSeq1, e_kSeq2, e_kSeqR, e_If, e_kIf, e_Do, e_kDo, e_Sup, e_kN0, e_d3, e_k3a, e_k3b, e_k3c, e_P, e_kPa, e_kPb, e_UA, e_kUAa, e_kUAb, e_kUAc, e_UL, e_kULa, e_kULb, e_kULc, e_UF, e_kUFa, e_kUFb, e_Cp, e_kCp, e_Sw, e_kSwa, e_kSwb0, e_kSwb1, e_kSwbR, e_M1, e_kM1, e_MZ, e_kMZ, e_MN, e_kMN, e_Tv, e_kTv, e_Tc, e_kTc, e_lpS, e_kLp, e_kLpB0, e_kLpB1, e_kLpB2, e_kLpBR, e_kLpU, e_dwS, e_kDwB0, e_kDwC, f_II, f_LL, f_RR, f_IL, f_IR, f_LI, f_LR, f_RI, f_RL, o_iadd, o_isub, o_imul, o_iand, o_ior, o_ixor, o_ladd, o_lsub, o_lmul, o_land, o_lor, o_ishl, o_ishr, o_iushr, o_lshl, o_lshr, o_lcmp, o_i2l, o_l2i, o_i2b, o_i2s, o_lneg, o_ineg, o_imax, o_imin, o_idiv, o_irem, o_ldiv, o_lrem, r_lt, r_le, r_gt, r_ge, r_eq, r_ne, q_lt, q_le, q_gt, q_ge, q_eq, q_ne, decide_eq_true_eq, idI, and_true, true_and, and_false, false_and, or_true, true_or, or_false, false_or, not_true_eq_false, not_false_eq_true, if_true, if_false, ite_self, Bool.not_true, Bool.not_false, Bool.false_eq_true, Bool.true_eq_false, decide_true, decide_false, ne_eq, reduceIte, Nat.reduceEqDiff, Option.some.injEq, Prod.mk.injEq, eq_self, fa_lit, nI_add, pk_mul, nI_ltI, nI_leI, nI_eq, b01, b0, b1, x_hasBit, Nat.reduceLeDiff, Nat.reduceAdd, Nat.reduceMul, Nat.reduceSub, Nat.lt_irrefl, Nat.reduceLT, hP.k, hP.k9, hP.r8, hP.r9, hP.r10, hP.r11, hP.r12, hP.r13, hP.r14, hP.r15, hP.r16, hP.c3, hP.c4, hP.c5, hP.c6, hP.c7, hP.c8, hC.k, hC.r8, hC.r9, hC.r10, hC.r11, hC.r12, hC.r13, hC.r14, f6, f7, f2, f1, e1, e2, e3, e4, e5, e6, e7, e8, q1]
  · by_cases q2 : (S 0 7).testBit (P 11 i) = true
    · simp (disch := omega) only [DX2_hindrance, BX2_hindrance, ob_t, ob_n, ob_ite, e_cI, e_cL, e_cR, e_vI, e_vL, e_vR, e_d2, e_d2_a, e_d2_b, e_d2z, e_d2z_a, e_d2z_b, e_d1, e_d1_a, e_GI, e_GI_a, e_GL, e_GL_a, e_GR, e_GR_a, e_AI, e_AI_a, e_AI_b, e_AB, e_AB_a, e_AB_b, e_AZ, e_AZ_a, e_AZ_b, e_AL, e_AL_a, e_AL_b, e_AR, e_AR_a, e_AR_b, e_Len, e_Len_a, e_CI, e_CI_a, e_CI_b, e_CZ, e_CZ_a, e_And, e_kAnd, e_Or, e_kOr, e_Not, e_kNot, e_B, e_kB, e_T, e_kT, e_NN, e_kNN, e_NewA, e_NewA_a, e_NewC, e_kNewC, e_aN, e_aI, e_aI_a, e_aI_b, e_aL, e_aL_a, e_aL_b, e_aR, e_aR_a, e_aR_b, e_Call, e_kCall, e_CallV, e_kCallV, e_SetI, e_kSetI, e_SetL, e_kSetL, e_SetR, e_kSetR, e_Inc, e_Skip, e_Brk, e_Cnt, e_Ret, e_kRet, e_Ret0, e_Seq, e_kSeq0, e_kSeq1, e_kSeq2, e_kSeqR, e_If, e_kIf, e_Do, e_kDo, e_Sup, e_kN0, e_d3, e_k3a, e_k3b, e_k3c, e_P, e_kPa, e_kPb, e_UA, e_kUAa, e_kUAb, e_kUAc, e_UL, e_kULa, e_kULb, e_kULc, e_UF, e_kUFa, e_kUFb, e_Cp, e_kCp, e_Sw, e_kSwa, e_kSwb0, e_kSwb1, e_kSwbR, e_M1, e_kM1, e_MZ, e_kMZ, e_MN, e_kMN, e_Tv, e_kTv, e_Tc, e_kTc, e_lpS, e_kLp, e_kLpB0, e_kLpB1, e_kLpB2, e_kLpBR, e_kLpU, e_dwS, e_kDwB0, e_kDwC, f_II, f_LL, f_RR, f_IL, f_IR, f_LI, f_LR, f_RI, f_RL, o_iadd, o_isub, o_imul, o_iand, o_ior, o_ixor, o_ladd, o_lsub, o_lmul, o_land, o_lor, o_ishl, o_ishr, o_iushr, o_lshl, o_lshr, o_lcmp, o_i2l, o_l2i, o_i2b, o_i2s, o_lneg, o_ineg, o_imax, o_imin, o_idiv, o_irem, o_ldiv, o_lrem, r_lt, r_le, r_gt, r_ge, r_eq, r_ne, q_lt, q_le, q_gt, q_ge, q_eq, q_ne, decide_eq_true_eq, idI, and_true, true_and, and_false, false_and, or_true, true_or, or_false, false_or, not_true_eq_false, not_false_eq_true, if_true, if_false, ite_self, Bool.not_true, Bool.not_false, Bool.false_eq_true, Bool.true_eq_false, decide_true, decide_false, ne_eq, reduceIte, Nat.reduceEqDiff, Option.some.injEq, Prod.mk.injEq, eq_self, fa_lit, nI_add, pk_mul, nI_ltI, nI_leI, nI_eq, b01, b0, b1, x_hasBit, Nat.reduceLeDiff, Nat.reduceAdd, Nat.reduceMul, Nat.reduceSub, Nat.lt_irrefl, Nat.reduceLT, hP.k, hP.k9, hP.r8, hP.r9, hP.r10, hP.r11, hP.r12, hP.r13, hP.r14, hP.r15, hP.r16, hP.c3, hP.c4, hP.c5, hP.c6, hP.c7, hP.c8, hC.k, hC.r8, hC.r9, hC.r10, hC.r11, hC.r12, hC.r13, hC.r14, f6, f7, f2, f1, e1, e2, e3, e4, e5, e6, e7, e8, q1, q2]
    · by_cases q3 : S 1 (P 10 i) = S 2 (P 11 i)
      · by_cases q4 : (S 0 2).testBit (P 12 i) = true
        · simp (disch := omega) only [DX2_hindrance, BX2_hindrance, ob_t, ob_n, ob_ite, e_cI, e_cL, e_cR, e_vI, e_vL, e_vR, e_d2, e_d2_a, e_d2_b, e_d2z, e_d2z_a, e_d2z_b, e_d1, e_d1_a, e_GI, e_GI_a, e_GL, e_GL_a, e_GR, e_GR_a, e_AI, e_AI_a, e_AI_b, e_AB, e_AB_a, e_AB_b, e_AZ, e_AZ_a, e_AZ_b, e_AL, e_AL_a, e_AL_b, e_AR, e_AR_a, e_AR_b, e_Len, e_Len_a, e_CI, e_CI_a, e_CI_b, e_CZ, e_CZ_a, e_And, e_kAnd, e_Or, e_kOr, e_Not, e_kNot, e_B, e_kB, e_T, e_kT, e_NN, e_kNN, e_NewA, e_NewA_a, e_NewC, e_kNewC, e_aN, e_aI, e_aI_a, e_aI_b, e_aL, e_aL_a, e_aL_b, e_aR, e_aR_a, e_aR_b, e_Call, e_kCall, e_CallV, e_kCallV, e_SetI, e_kSetI, e_SetL, e_kSetL, e_SetR, e_kSetR, e_Inc, e_Skip, e_Brk, e_Cnt, e_Ret, e_kRet, e_Ret0, e_Seq, e_kSeq0, e_kSeq1, e_kSeq2, e_kSeqR, e_If, e_kIf, e_Do, e_kDo, e_Sup, e_kN0, e_d3, e_k3a, e_k3b, e_k3c, e_P, e_kPa, e_kPb, e_UA, e_kUAa, e_kUAb, e_kUAc, e_UL, e_kULa, e_kULb, e_kULc, e_UF, e_kUFa, e_kUFb, e_Cp, e_kCp, e_Sw, e_kSwa, e_kSwb0, e_kSwb1, e_kSwbR, e_M1, e_kM1, e_MZ, e_kMZ, e_MN, e_kMN, e_Tv, e_kTv, e_Tc, e_kTc, e_lpS, e_kLp, e_kLpB0, e_kLpB1, e_kLpB2, e_kLpBR, e_kLpU, e_dwS, e_kDwB0, e_kDwC, f_II, f_LL, f_RR, f_IL, f_IR, f_LI, f_LR, f_RI, f_RL, o_iadd, o_isub, o_imul, o_iand, o_ior, o_ixor, o_ladd, o_lsub, o_lmul, o_land, o_lor, o_ishl, o_ishr, o_iushr, o_lshl, o_lshr, o_lcmp, o_i2l, o_l2i, o_i2b, o_i2s, o_lneg, o_ineg, o_imax, o_imin, o_idiv, o_irem, o_ldiv, o_lrem, r_lt, r_le, r_gt, r_ge, r_eq, r_ne, q_lt, q_le, q_gt, q_ge, q_eq, q_ne, decide_eq_true_eq, idI, and_true, true_and, and_false, false_and, or_true, true_or, or_false, false_or, not_true_eq_false, not_false_eq_true, if_true, if_false, ite_self, Bool.not_true, Bool.not_false, Bool.false_eq_true, Bool.true_eq_false, decide_true, decide_false, ne_eq, reduceIte, Nat.reduceEqDiff, Option.some.injEq, Prod.mk.injEq, eq_self, fa_lit, nI_add, pk_mul, nI_ltI, nI_leI, nI_eq, b01, b0, b1, x_hasBit, Nat.reduceLeDiff, Nat.reduceAdd, Nat.reduceMul, Nat.reduceSub, Nat.lt_irrefl, Nat.reduceLT, hP.k, hP.k9, hP.r8, hP.r9, hP.r10, hP.r11, hP.r12, hP.r13, hP.r14, hP.r15, hP.r16, hP.c3, hP.c4, hP.c5, hP.c6, hP.c7, hP.c8, hC.k, hC.r8, hC.r9, hC.r10, hC.r11, hC.r12, hC.r13, hC.r14, f6, f7, f2, f1, e1, e2, e3, e4, e5, e6, e7, e8, q1, q2, q3, q4]
        · by_cases q5 : (doors P (S 2 (P 11 i)) (S 0 1)).testBit (P 12 i) = true
          · by_cases q6 : P 5 (P 10 i) < loadS P S (P 11 i) (P 12 i)
            · simp (disch := omega) only [DX2_hindrance, BX2_hindrance, ob_t, ob_n, ob_ite, e_cI, e_cL, e_cR, e_vI, e_vL, e_vR, e_d2, e_d2_a, e_d2_b, e_d2z, e_d2z_a, e_d2z_b, e_d1, e_d1_a, e_GI, e_GI_a, e_GL, e_GL_a, e_GR, e_GR_a, e_AI, e_AI_a, e_AI_b, e_AB, e_AB_a, e_AB_b, e_AZ, e_AZ_a, e_AZ_b, e_AL, e_AL_a, e_AL_b, e_AR, e_AR_a, e_AR_b, e_Len, e_Len_a, e_CI, e_CI_a, e_CI_b, e_CZ, e_CZ_a, e_And, e_kAnd, e_Or, e_kOr, e_Not, e_kNot, e_B, e_kB, e_T, e_kT, e_NN, e_kNN, e_NewA, e_NewA_a, e_NewC, e_kNewC, e_aN, e_aI, e_aI_a, e_aI_b, e_aL, e_aL_a, e_aL_b, e_aR, e_aR_a, e_aR_b, e_Call, e_kCall, e_CallV, e_kCallV, e_SetI, e_kSetI, e_SetL, e_kSetL, e_SetR, e_kSetR, e_Inc, e_Skip, e_Brk, e_Cnt, e_Ret, e_kRet, e_Ret0, e_Seq, e_kSeq0, e_kSeq1, e_kSeq2, e_kSeqR, e_If, e_kIf, e_Do, e_kDo, e_Sup, e_kN0, e_d3, e_k3a, e_k3b, e_k3c, e_P, e_kPa, e_kPb, e_UA, e_kUAa, e_kUAb, e_kUAc, e_UL, e_kULa, e_kULb, e_kULc, e_UF, e_kUFa, e_kUFb, e_Cp, e_kCp, e_Sw, e_kSwa, e_kSwb0, e_kSwb1, e_kSwbR, e_M1, e_kM1, e_MZ, e_kMZ, e_MN, e_kMN, e_Tv, e_kTv, e_Tc, e_kTc, e_lpS, e_kLp, e_kLpB0, e_kLpB1, e_kLpB2, e_kLpBR, e_kLpU, e_dwS, e_kDwB0, e_kDwC, f_II, f_LL, f_RR, f_IL, f_IR, f_LI, f_LR, f_RI, f_RL, o_iadd, o_isub, o_imul, o_iand, o_ior, o_ixor, o_ladd, o_lsub, o_lmul, o_land, o_lor, o_ishl, o_ishr, o_iushr, o_lshl, o_lshr, o_lcmp, o_i2l, o_l2i, o_i2b, o_i2s, o_lneg, o_ineg, o_imax, o_imin, o_idiv, o_irem, o_ldiv, o_lrem, r_lt, r_le, r_gt, r_ge, r_eq, r_ne, q_lt, q_le, q_gt, q_ge, q_eq, q_ne, decide_eq_true_eq, idI, and_true, true_and, and_false, false_and, or_true, true_or, or_false, false_or, not_true_eq_false, not_false_eq_true, if_true, if_false, ite_self, Bool.not_true, Bool.not_false, Bool.false_eq_true, Bool.true_eq_false, decide_true, decide_false, ne_eq, reduceIte, Nat.reduceEqDiff, Option.some.injEq, Prod.mk.injEq, eq_self, fa_lit, nI_add, pk_mul, nI_ltI, nI_leI, nI_eq, b01, b0, b1, x_hasBit, Nat.reduceLeDiff, Nat.reduceAdd, Nat.reduceMul, Nat.reduceSub, Nat.lt_irrefl, Nat.reduceLT, hP.k, hP.k9, hP.r8, hP.r9, hP.r10, hP.r11, hP.r12, hP.r13, hP.r14, hP.r15, hP.r16, hP.c3, hP.c4, hP.c5, hP.c6, hP.c7, hP.c8, hC.k, hC.r8, hC.r9, hC.r10, hC.r11, hC.r12, hC.r13, hC.r14, f6, f7, f2, f1, e1, e2, e3, e4, e5, e6, e7, e8, q1, q2, q3, q4, q5, q6]
            · simp (disch := omega) only [DX2_hindrance, BX2_hindrance, ob_t, ob_n, ob_ite, e_cI, e_cL, e_cR, e_vI, e_vL, e_vR, e_d2, e_d2_a, e_d2_b, e_d2z, e_d2z_a, e_d2z_b, e_d1, e_d1_a, e_GI, e_GI_a, e_GL, e_GL_a, e_GR, e_GR_a, e_AI, e_AI_a, e_AI_b, e_AB, e_AB_a, e_AB_b, e_AZ, e_AZ_a, e_AZ_b, e_AL, e_AL_a, e_AL_b, e_AR, e_AR_a, e_AR_b, e_Len, e_Len_a, e_CI, e_CI_a, e_CI_b, e_CZ, e_CZ_a, e_And, e_kAnd, e_Or, e_kOr, e_Not, e_kNot, e_B, e_kB, e_T, e_kT, e_NN, e_kNN, e_NewA, e_NewA_a, e_NewC, e_kNewC, e_aN, e_aI, e_aI_a, e_aI_b, e_aL, e_aL_a, e_aL_b, e_aR, e_aR_a, e_aR_b, e_Call, e_kCall, e_CallV, e_kCallV, e_SetI, e_kSetI, e_SetL, e_kSetL, e_SetR, e_kSetR, e_Inc, e_Skip, e_Brk, e_Cnt, e_Ret, e_kRet, e_Ret0, e_Seq, e_kSeq0, e_kSeq1, e_kSeq2, e_kSeqR, e_If, e_kIf, e_Do, e_kDo, e_Sup, e_kN0, e_d3, e_k3a, e_k3b, e_k3c, e_P, e_kPa, e_kPb, e_UA, e_kUAa, e_kUAb, e_kUAc, e_UL, e_kULa, e_kULb, e_kULc, e_UF, e_kUFa, e_kUFb, e_Cp, e_kCp, e_Sw, e_kSwa, e_kSwb0, e_kSwb1, e_kSwbR, e_M1, e_kM1, e_MZ, e_kMZ, e_MN, e_kMN, e_Tv, e_kTv, e_Tc, e_kTc, e_lpS, e_kLp, e_kLpB0, e_kLpB1, e_kLpB2, e_kLpBR, e_kLpU, e_dwS, e_kDwB0, e_kDwC, f_II, f_LL, f_RR, f_IL, f_IR, f_LI, f_LR, f_RI, f_RL, o_iadd, o_isub, o_imul, o_iand, o_ior, o_ixor, o_ladd, o_lsub, o_lmul, o_land, o_lor, o_ishl, o_ishr, o_iushr, o_lshl, o_lshr, o_lcmp, o_i2l, o_l2i, o_i2b, o_i2s, o_lneg, o_ineg, o_imax, o_imin, o_idiv, o_irem, o_ldiv, o_lrem, r_lt, r_le, r_gt, r_ge, r_eq, r_ne, q_lt, q_le, q_gt, q_ge, q_eq, q_ne, decide_eq_true_eq, idI, and_true, true_and, and_false, false_and, or_true, true_or, or_false, false_or, not_true_eq_false, not_false_eq_true, if_true, if_false, ite_self, Bool.not_true, Bool.not_false, Bool.false_eq_true, Bool.true_eq_false, decide_true, decide_false, ne_eq, reduceIte, Nat.reduceEqDiff, Option.some.injEq, Prod.mk.injEq, eq_self, fa_lit, nI_add, pk_mul, nI_ltI, nI_leI, nI_eq, b01, b0, b1, x_hasBit, Nat.reduceLeDiff, Nat.reduceAdd, Nat.reduceMul, Nat.reduceSub, Nat.lt_irrefl, Nat.reduceLT, hP.k, hP.k9, hP.r8, hP.r9, hP.r10, hP.r11, hP.r12, hP.r13, hP.r14, hP.r15, hP.r16, hP.c3, hP.c4, hP.c5, hP.c6, hP.c7, hP.c8, hC.k, hC.r8, hC.r9, hC.r10, hC.r11, hC.r12, hC.r13, hC.r14, f6, f7, f2, f1, e1, e2, e3, e4, e5, e6, e7, e8, q1, q2, q3, q4, q5, q6]
          · simp (disch := omega) only [DX2_hindrance, BX2_hindrance, ob_t, ob_n, ob_ite, e_cI, e_cL, e_cR, e_vI, e_vL, e_vR, e_d2, e_d2_a, e_d2_b, e_d2z, e_d2z_a, e_d2z_b, e_d1, e_d1_a, e_GI, e_GI_a, e_GL, e_GL_a, e_GR, e_GR_a, e_AI, e_AI_a, e_AI_b, e_AB, e_AB_a, e_AB_b, e_AZ, e_AZ_a, e_AZ_b, e_AL, e_AL_a, e_AL_b, e_AR, e_AR_a, e_AR_b, e_Len, e_Len_a, e_CI, e_CI_a, e_CI_b, e_CZ, e_CZ_a, e_And, e_kAnd, e_Or, e_kOr, e_Not, e_kNot, e_B, e_kB, e_T, e_kT, e_NN, e_kNN, e_NewA, e_NewA_a, e_NewC, e_kNewC, e_aN, e_aI, e_aI_a, e_aI_b, e_aL, e_aL_a, e_aL_b, e_aR, e_aR_a, e_aR_b, e_Call, e_kCall, e_CallV, e_kCallV, e_SetI, e_kSetI, e_SetL, e_kSetL, e_SetR, e_kSetR, e_Inc, e_Skip, e_Brk, e_Cnt, e_Ret, e_kRet, e_Ret0, e_Seq, e_kSeq0, e_kSeq1, e_kSeq2, e_kSeqR, e_If, e_kIf, e_Do, e_kDo, e_Sup, e_kN0, e_d3, e_k3a, e_k3b, e_k3c, e_P, e_kPa, e_kPb, e_UA, e_kUAa, e_kUAb, e_kUAc, e_UL, e_kULa, e_kULb, e_kULc, e_UF, e_kUFa, e_kUFb, e_Cp, e_kCp, e_Sw, e_kSwa, e_kSwb0, e_kSwb1, e_kSwbR, e_M1, e_kM1, e_MZ, e_kMZ, e_MN, e_kMN, e_Tv, e_kTv, e_Tc, e_kTc, e_lpS, e_kLp, e_kLpB0, e_kLpB1, e_kLpB2, e_kLpBR, e_kLpU, e_dwS, e_kDwB0, e_kDwC, f_II, f_LL, f_RR, f_IL, f_IR, f_LI, f_LR, f_RI, f_RL, o_iadd, o_isub, o_imul, o_iand, o_ior, o_ixor, o_ladd, o_lsub, o_lmul, o_land, o_lor, o_ishl, o_ishr, o_iushr, o_lshl, o_lshr, o_lcmp, o_i2l, o_l2i, o_i2b, o_i2s, o_lneg, o_ineg, o_imax, o_imin, o_idiv, o_irem, o_ldiv, o_lrem, r_lt, r_le, r_gt, r_ge, r_eq, r_ne, q_lt, q_le, q_gt, q_ge, q_eq, q_ne, decide_eq_true_eq, idI, and_true, true_and, and_false, false_and, or_true, true_or, or_false, false_or, not_true_eq_false, not_false_eq_true, if_true, if_false, ite_self, Bool.not_true, Bool.not_false, Bool.false_eq_true, Bool.true_eq_false, decide_true, decide_false, ne_eq, reduceIte, Nat.reduceEqDiff, Option.some.injEq, Prod.mk.injEq, eq_self, fa_lit, nI_add, pk_mul, nI_ltI, nI_leI, nI_eq, b01, b0, b1, x_hasBit, Nat.reduceLeDiff, Nat.reduceAdd, Nat.reduceMul, Nat.reduceSub, Nat.lt_irrefl, Nat.reduceLT, hP.k, hP.k9, hP.r8, hP.r9, hP.r10, hP.r11, hP.r12, hP.r13, hP.r14, hP.r15, hP.r16, hP.c3, hP.c4, hP.c5, hP.c6, hP.c7, hP.c8, hC.k, hC.r8, hC.r9, hC.r10, hC.r11, hC.r12, hC.r13, hC.r14, f6, f7, f2, f1, e1, e2, e3, e4, e5, e6, e7, e8, q1, q2, q3, q4, q5]
      · simp (disch := omega) only [DX2_hindrance, BX2_hindrance, ob_t, ob_n, ob_ite, e_cI, e_cL, e_cR, e_vI, e_vL, e_vR, e_d2, e_d2_a, e_d2_b, e_d2z, e_d2z_a, e_d2z_b, e_d1, e_d1_a, e_GI, e_GI_a, e_GL, e_GL_a, e_GR, e_GR_a, e_AI, e_AI_a, e_AI_b, e_AB, e_AB_a, e_AB_b, e_AZ, e_AZ_a, e_AZ_b, e_AL, e_AL_a, e_AL_b, e_AR, e_AR_a, e_AR_b, e_Len, e_Len_a, e_CI, e_CI_a, e_CI_b, e_CZ, e_CZ_a, e_And, e_kAnd, e_Or, e_kOr, e_Not, e_kNot, e_B, e_kB, e_T, e_kT, e_NN, e_kNN, e_NewA, e_NewA_a, e_NewC, e_kNewC, e_aN, e_aI, e_aI_a, e_aI_b, e_aL, e_aL_a, e_aL_b, e_aR, e_aR_a, e_aR_b, e_Call, e_kCall, e_CallV, e_kCallV, e_SetI, e_kSetI, e_SetL, e_kSetL, e_SetR, e_kSetR, e_Inc, e_Skip, e_Brk, e_Cnt, e_Ret, e_kRet, e_Ret0, e_Seq, e_kSeq0, e_kSeq1, e_kSeq2, e_kSeqR, e_If, e_kIf, e_Do, e_kDo, e_Sup, e_kN0, e_d3, e_k3a, e_k3b, e_k3c, e_P, e_kPa, e_kPb, e_UA, e_kUAa, e_kUAb, e_kUAc, e_UL, e_kULa, e_kULb, e_kULc, e_UF, e_kUFa, e_kUFb, e_Cp, e_kCp, e_Sw, e_kSwa, e_kSwb0, e_kSwb1, e_kSwbR, e_M1, e_kM1, e_MZ, e_kMZ, e_MN, e_kMN, e_Tv, e_kTv, e_Tc, e_kTc, e_lpS, e_kLp, e_kLpB0, e_kLpB1, e_kLpB2, e_kLpBR, e_kLpU, e_dwS, e_kDwB0, e_kDwC, f_II, f_LL, f_RR, f_IL, f_IR, f_LI, f_LR, f_RI, f_RL, o_iadd, o_isub, o_imul, o_iand, o_ior, o_ixor, o_ladd, o_lsub, o_lmul, o_land, o_lor, o_ishl, o_ishr, o_iushr, o_lshl, o_lshr, o_lcmp, o_i2l, o_l2i, o_i2b, o_i2s, o_lneg, o_ineg, o_imax, o_imin, o_idiv, o_irem, o_ldiv, o_lrem, r_lt, r_le, r_gt, r_ge, r_eq, r_ne, q_lt, q_le, q_gt, q_ge, q_eq, q_ne, decide_eq_true_eq, idI, and_true, true_and, and_false, false_and, or_true, true_or, or_false, false_or, not_true_eq_false, not_false_eq_true, if_true, if_false, ite_self, Bool.not_true, Bool.not_false, Bool.false_eq_true, Bool.true_eq_false, decide_true, decide_false, ne_eq, reduceIte, Nat.reduceEqDiff, Option.some.injEq, Prod.mk.injEq, eq_self, fa_lit, nI_add, pk_mul, nI_ltI, nI_leI, nI_eq, b01, b0, b1, x_hasBit, Nat.reduceLeDiff, Nat.reduceAdd, Nat.reduceMul, Nat.reduceSub, Nat.lt_irrefl, Nat.reduceLT, hP.k, hP.k9, hP.r8, hP.r9, hP.r10, hP.r11, hP.r12, hP.r13, hP.r14, hP.r15, hP.r16, hP.c3, hP.c4, hP.c5, hP.c6, hP.c7, hP.c8, hC.k, hC.r8, hC.r9, hC.r10, hC.r11, hC.r12, hC.r13, hC.r14, f6, f7, f2, f1, e1, e2, e3, e4, e5, e6, e7, e8, q1, q2, q3]
end
