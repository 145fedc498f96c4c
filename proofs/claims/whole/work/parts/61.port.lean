/-! the picture of a Port: where its parts lie, what they hold; its value P : place, index -> number -/
def PS (h : St) (p : Nat) : Prop := 31 ≤ p ∧ (∀ j, j < 16 → hk h (p + j) = (if j = 0 then 5 else if j = 9 then 1 else 13, [0, 8, 12, 12, 5, 5, 3, 3, 18, 0, 32, 32, 32, 32, 20, 20].getD j 0)) ∧ (∀ j, j < 9 → hr h p (8 + j) = p + 1 + j) ∧ ∀ j, j < 6 → hr h (p + 9) (3 + j) = p + 10 + j
theorem PS.k0 {h : St} {p : Nat} (H : PS h p) : hk h (p + 0) = (5, 0) := H.2.1 0 (by decide)
theorem PS.k1 {h : St} {p : Nat} (H : PS h p) : hk h (p + 1) = (13, 8) := H.2.1 1 (by decide)
theorem PS.k2 {h : St} {p : Nat} (H : PS h p) : hk h (p + 2) = (13, 12) := H.2.1 2 (by decide)
theorem PS.k3 {h : St} {p : Nat} (H : PS h p) : hk h (p + 3) = (13, 12) := H.2.1 3 (by decide)
theorem PS.k4 {h : St} {p : Nat} (H : PS h p) : hk h (p + 4) = (13, 5) := H.2.1 4 (by decide)
theorem PS.k5 {h : St} {p : Nat} (H : PS h p) : hk h (p + 5) = (13, 5) := H.2.1 5 (by decide)
theorem PS.k6 {h : St} {p : Nat} (H : PS h p) : hk h (p + 6) = (13, 3) := H.2.1 6 (by decide)
theorem PS.k7 {h : St} {p : Nat} (H : PS h p) : hk h (p + 7) = (13, 3) := H.2.1 7 (by decide)
theorem PS.k8 {h : St} {p : Nat} (H : PS h p) : hk h (p + 8) = (13, 18) := H.2.1 8 (by decide)
theorem PS.k9 {h : St} {p : Nat} (H : PS h p) : hk h (p + 9) = (1, 0) := H.2.1 9 (by decide)
theorem PS.k10 {h : St} {p : Nat} (H : PS h p) : hk h (p + 10) = (13, 32) := H.2.1 10 (by decide)
theorem PS.k11 {h : St} {p : Nat} (H : PS h p) : hk h (p + 11) = (13, 32) := H.2.1 11 (by decide)
theorem PS.k12 {h : St} {p : Nat} (H : PS h p) : hk h (p + 12) = (13, 32) := H.2.1 12 (by decide)
theorem PS.k13 {h : St} {p : Nat} (H : PS h p) : hk h (p + 13) = (13, 32) := H.2.1 13 (by decide)
theorem PS.k14 {h : St} {p : Nat} (H : PS h p) : hk h (p + 14) = (13, 20) := H.2.1 14 (by decide)
theorem PS.k15 {h : St} {p : Nat} (H : PS h p) : hk h (p + 15) = (13, 20) := H.2.1 15 (by decide)
theorem PS.k {h : St} {p : Nat} (H : PS h p) : hk h p = (5, 0) := H.2.1 0 (by decide)
theorem PS.r8 {h : St} {p : Nat} (H : PS h p) : hr h p 8 = p + 1 := H.2.2.1 0 (by decide)
theorem PS.r9 {h : St} {p : Nat} (H : PS h p) : hr h p 9 = p + 2 := H.2.2.1 1 (by decide)
theorem PS.r10 {h : St} {p : Nat} (H : PS h p) : hr h p 10 = p + 3 := H.2.2.1 2 (by decide)
theorem PS.r11 {h : St} {p : Nat} (H : PS h p) : hr h p 11 = p + 4 := H.2.2.1 3 (by decide)
theorem PS.r12 {h : St} {p : Nat} (H : PS h p) : hr h p 12 = p + 5 := H.2.2.1 4 (by decide)
theorem PS.r13 {h : St} {p : Nat} (H : PS h p) : hr h p 13 = p + 6 := H.2.2.1 5 (by decide)
theorem PS.r14 {h : St} {p : Nat} (H : PS h p) : hr h p 14 = p + 7 := H.2.2.1 6 (by decide)
theorem PS.r15 {h : St} {p : Nat} (H : PS h p) : hr h p 15 = p + 8 := H.2.2.1 7 (by decide)
theorem PS.r16 {h : St} {p : Nat} (H : PS h p) : hr h p 16 = p + 9 := H.2.2.1 8 (by decide)
theorem PS.c3 {h : St} {p : Nat} (H : PS h p) : hr h (p + 9) 3 = p + 10 := H.2.2.2 0 (by decide)
theorem PS.c4 {h : St} {p : Nat} (H : PS h p) : hr h (p + 9) 4 = p + 11 := H.2.2.2 1 (by decide)
theorem PS.c5 {h : St} {p : Nat} (H : PS h p) : hr h (p + 9) 5 = p + 12 := H.2.2.2 2 (by decide)
theorem PS.c6 {h : St} {p : Nat} (H : PS h p) : hr h (p + 9) 6 = p + 13 := H.2.2.2 3 (by decide)
theorem PS.c7 {h : St} {p : Nat} (H : PS h p) : hr h (p + 9) 7 = p + 14 := H.2.2.2 4 (by decide)
theorem PS.c8 {h : St} {p : Nat} (H : PS h p) : hr h (p + 9) 8 = p + 15 := H.2.2.2 5 (by decide)
theorem PS.ne {h : St} {p : Nat} (H : PS h p) (j : Nat) : p + j ≠ 0 := by have := H.1; omega
theorem PS.ne0 {h : St} {p : Nat} (H : PS h p) : p ≠ 0 := by have := H.1; omega
/-- the same shape -/
def SH (h h' : St) : Prop := hr h' = hr h ∧ hk h' = hk h ∧ hn h' = hn h ∧ hs h' = hs h
theorem SH.rf (h : St) : SH h h := ⟨rfl, rfl, rfl, rfl⟩
theorem SH.tr {a b c : St} (h : SH a b) (k : SH b c) : SH a c := ⟨k.1.trans h.1, k.2.1.trans h.2.1, k.2.2.1.trans h.2.2.1, k.2.2.2.trans h.2.2.2⟩
theorem PS.to {h h' : St} {p : Nat} (H : PS h p) (k : SH h h') : PS h' p := by
  unfold PS
  rw [k.1, k.2.1]
  exact H
abbrev PT : Type := Nat → Nat → Nat
/-- which places of a Port count -/
def PIn (P : PT) (j k : Nat) : Prop := (j = 0 ∧ k < 8) ∨ (j = 1 ∧ k < P 0 4) ∨ (j = 2 ∧ k < P 0 5) ∨ (j = 3 ∧ k < P 0 5) ∨ (j = 4 ∧ k < P 0 6) ∨ (j = 5 ∧ k < P 0 6) ∨ (j = 6 ∧ k < P 0 7) ∨ (j = 7 ∧ k < P 0 7) ∨ (j = 8 ∧ k < 18 ∧ k / 6 < P 0 7 ∧ k % 6 < P 7 (k / 6)) ∨ (j = 9 ∧ k < 3) ∨ (10 ≤ j ∧ j ≤ 13 ∧ k < P 9 1)
def RP (h : St) (p : Nat) (P : PT) : Prop := (∀ j k, PIn P j k → hi h (p + j) k = nI (P j k)) ∧ ∀ k, k < P 9 2 → hi h (p + 14) k = nI (P 14 k) + -1 ∧ hi h (p + 15) k = nI (P 15 k) + -1
/-- a Port's value that can be -/
def WFP (P : PT) : Prop := P 0 1 ≤ 12 ∧ P 0 2 ≤ 3 ∧ P 0 3 ≤ 10 ∧ P 0 4 ≤ 8 ∧ P 0 5 ≤ 12 ∧ P 0 6 ≤ 5 ∧ P 0 7 ≤ 3 ∧ P 9 0 ≤ 12 ∧ P 9 1 ≤ 32 ∧ P 9 2 ≤ 20 ∧ P 9 0 ≤ P 9 1 ∧ P 9 1 ≤ P 9 0 + P 9 2 ∧ P 0 0 ≤ 801 ∧ (P 0 0 = 0 → P 0 1 = 0 ∧ P 0 4 = 0 ∧ P 0 6 = 0 ∧ P 0 7 = 0 ∧ P 9 1 = 0 ∧ P 0 5 = 0 ∧ P 9 2 = 0) ∧ (0 < P 0 0 → 0 < P 0 1) ∧
  (∀ k, k < P 0 4 → P 1 k ≤ 20) ∧ (∀ k, k < P 0 5 → P 2 k < P 0 4 ∧ P 3 k < P 0 4 ∧ P 2 k ≠ P 3 k) ∧ (∀ k, k < P 0 6 → P 4 k < P 0 4 ∧ P 5 k ≤ 99) ∧ (∀ k, k < P 0 7 → P 6 k < P 0 4 ∧ 1 ≤ P 7 k ∧ P 7 k ≤ 6 ∧ ∀ i, i < P 7 k → 1 ≤ P 8 (6 * k + i) ∧ P 8 (6 * k + i) ≤ 30) ∧
  (∀ k, k < P 9 1 → P 10 k < P 0 6 ∧ P 11 k < P 0 7 ∧ P 12 k < P 0 4 ∧ P 13 k ≤ 11) ∧ ∀ k, k < P 9 2 → (P 15 k = 0 ∨ (P 14 k ≤ P 0 7 ∧ 1 ≤ P 14 k ∧ P 15 k ≤ P 7 (P 14 k - 1)))
theorem x_cellN {r k : Nat} {h : St} (h1 : (hk h r).1 = 13) (h0 : r ≠ 0) (h2 : k < (hk h r).2) (h3 : (hk h r).2 < 2 ^ 31) : DX11_cell (sI (sR fr0 0 r) 1 (nI k)) h = some (hi h r k, h) := by
  have e1 : inb (nI k) (hk h r).2 = true := n_inb h3 h2
  have e2 : 0 ≤ nI k := nI_pos' (by omega)
  have e3 : nI k < Int32.ofNat (hk h r).2 := nI_lt h2 h3
  simp only [DX11_cell, BX11_cell, ob_s, ob_n, ob_ite, e_cI, e_cL, e_cR, e_vI, e_vL, e_vR, e_d2, e_d2z, e_d1, e_GI, e_GL, e_GR, e_AI, e_AB, e_AZ, e_AL, e_AR, e_Len, e_CI, e_CZ, e_And, e_Or, e_Not, e_B, e_T, e_NN, e_aN, e_aI, e_aL, e_aR, e_Call, e_CallV, e_SetI, e_SetL, e_SetR, e_Inc, e_Skip, e_Brk, e_Cnt, e_Ret, e_Ret0, e_Seq, e_If, e_Do, e_d3, e_P, e_UA, e_UL, e_UF, e_Cp, e_M1, e_MZ, e_lpS, e_dwS, Sum.elim_inl, Sum.elim_inr, gI_sI, gL_sL, gR_sR, gI_sL, gI_sR, gL_sI, gL_sR, gR_sI, gR_sL, o_iadd, o_isub, o_imul, o_iand, o_ior, o_ixor, o_ladd, o_lsub, o_lmul, o_land, o_lor, o_ishl, o_ishr, o_iushr, o_lshl, o_lcmp, o_i2l, o_l2i, o_i2b, o_i2s, o_lneg, o_imax, o_imin, o_idiv, o_irem, o_ldiv, o_lrem, r_lt, r_le, r_gt, r_ge, r_eq, r_ne, q_lt, q_le, q_gt, q_ge, q_eq, q_ne, decide_eq_true_eq, idI, stI, stL, stR, fI, fZ, fL, fR, and_true, true_and, and_false, false_and, or_true, true_or, or_false, false_or, not_true_eq_false, not_false_eq_true, if_true, if_false, ite_self, Bool.not_true, Bool.not_false, Bool.false_eq_true, Bool.true_eq_false, decide_true, decide_false, ne_eq, reduceIte, Nat.reduceEqDiff, Option.some.injEq, Prod.mk.injEq, eq_self, h1, h0, e1, e2, e3, Nat.reduceLeDiff, nI_clamp (show k < 2 ^ 31 by omega)]
theorem x_cellO {r : Nat} {i : Int32} {h : St} (h1 : (hk h r).1 = 13) (h0 : r ≠ 0) (h2 : ¬ (0 ≤ i ∧ i < Int32.ofNat (hk h r).2)) : DX11_cell (sI (sR fr0 0 r) 1 i) h = some (0, h) := by
  by_cases e2 : 0 ≤ i
  · have e3 : ¬ i < Int32.ofNat (hk h r).2 := fun z => h2 ⟨e2, z⟩
    simp only [DX11_cell, BX11_cell, ob_s, ob_n, ob_ite, e_cI, e_cL, e_cR, e_vI, e_vL, e_vR, e_d2, e_d2z, e_d1, e_GI, e_GL, e_GR, e_AI, e_AB, e_AZ, e_AL, e_AR, e_Len, e_CI, e_CZ, e_And, e_Or, e_Not, e_B, e_T, e_NN, e_aN, e_aI, e_aL, e_aR, e_Call, e_CallV, e_SetI, e_SetL, e_SetR, e_Inc, e_Skip, e_Brk, e_Cnt, e_Ret, e_Ret0, e_Seq, e_If, e_Do, e_d3, e_P, e_UA, e_UL, e_UF, e_Cp, e_M1, e_MZ, e_lpS, e_dwS, Sum.elim_inl, Sum.elim_inr, gI_sI, gL_sL, gR_sR, gI_sL, gI_sR, gL_sI, gL_sR, gR_sI, gR_sL, o_iadd, o_isub, o_imul, o_iand, o_ior, o_ixor, o_ladd, o_lsub, o_lmul, o_land, o_lor, o_ishl, o_ishr, o_iushr, o_lshl, o_lcmp, o_i2l, o_l2i, o_i2b, o_i2s, o_lneg, o_imax, o_imin, o_idiv, o_irem, o_ldiv, o_lrem, r_lt, r_le, r_gt, r_ge, r_eq, r_ne, q_lt, q_le, q_gt, q_ge, q_eq, q_ne, decide_eq_true_eq, idI, stI, stL, stR, fI, fZ, fL, fR, and_true, true_and, and_false, false_and, or_true, true_or, or_false, false_or, not_true_eq_false, not_false_eq_true, if_true, if_false, ite_self, Bool.not_true, Bool.not_false, Bool.false_eq_true, Bool.true_eq_false, decide_true, decide_false, ne_eq, reduceIte, Nat.reduceEqDiff, Option.some.injEq, Prod.mk.injEq, eq_self, h1, h0, e2, e3, Nat.reduceLeDiff]
  · simp only [DX11_cell, BX11_cell, ob_s, ob_n, ob_ite, e_cI, e_cL, e_cR, e_vI, e_vL, e_vR, e_d2, e_d2z, e_d1, e_GI, e_GL, e_GR, e_AI, e_AB, e_AZ, e_AL, e_AR, e_Len, e_CI, e_CZ, e_And, e_Or, e_Not, e_B, e_T, e_NN, e_aN, e_aI, e_aL, e_aR, e_Call, e_CallV, e_SetI, e_SetL, e_SetR, e_Inc, e_Skip, e_Brk, e_Cnt, e_Ret, e_Ret0, e_Seq, e_If, e_Do, e_d3, e_P, e_UA, e_UL, e_UF, e_Cp, e_M1, e_MZ, e_lpS, e_dwS, Sum.elim_inl, Sum.elim_inr, gI_sI, gL_sL, gR_sR, gI_sL, gI_sR, gL_sI, gL_sR, gR_sI, gR_sL, o_iadd, o_isub, o_imul, o_iand, o_ior, o_ixor, o_ladd, o_lsub, o_lmul, o_land, o_lor, o_ishl, o_ishr, o_iushr, o_lshl, o_lcmp, o_i2l, o_l2i, o_i2b, o_i2s, o_lneg, o_imax, o_imin, o_idiv, o_irem, o_ldiv, o_lrem, r_lt, r_le, r_gt, r_ge, r_eq, r_ne, q_lt, q_le, q_gt, q_ge, q_eq, q_ne, decide_eq_true_eq, idI, stI, stL, stR, fI, fZ, fL, fR, and_true, true_and, and_false, false_and, or_true, true_or, or_false, false_or, not_true_eq_false, not_false_eq_true, if_true, if_false, ite_self, Bool.not_true, Bool.not_false, Bool.false_eq_true, Bool.true_eq_false, decide_true, decide_false, ne_eq, reduceIte, Nat.reduceEqDiff, Option.some.injEq, Prod.mk.injEq, eq_self, h1, h0, e2, Nat.reduceLeDiff]
theorem x_put {r k : Nat} {v : Int32} {h : St} (h1 : (hk h r).1 = 13) (h0 : r ≠ 0) (h2 : k < (hk h r).2) (h3 : (hk h r).2 < 2 ^ 31) : DX11_put (sI (sI (sR fr0 0 r) 1 (nI k)) 2 v) h = some ((), wI h r k v) := by
  have e1 : inb (nI k) (hk h r).2 = true := n_inb h3 h2
  have e2 : 0 ≤ nI k := nI_pos' (by omega)
  have e3 : nI k < Int32.ofNat (hk h r).2 := nI_lt h2 h3
  simp only [DX11_put, BX11_put, ob_s, ob_n, ob_ite, e_cI, e_cL, e_cR, e_vI, e_vL, e_vR, e_d2, e_d2z, e_d1, e_GI, e_GL, e_GR, e_AI, e_AB, e_AZ, e_AL, e_AR, e_Len, e_CI, e_CZ, e_And, e_Or, e_Not, e_B, e_T, e_NN, e_aN, e_aI, e_aL, e_aR, e_Call, e_CallV, e_SetI, e_SetL, e_SetR, e_Inc, e_Skip, e_Brk, e_Cnt, e_Ret, e_Ret0, e_Seq, e_If, e_Do, e_d3, e_P, e_UA, e_UL, e_UF, e_Cp, e_M1, e_MZ, e_lpS, e_dwS, Sum.elim_inl, Sum.elim_inr, gI_sI, gL_sL, gR_sR, gI_sL, gI_sR, gL_sI, gL_sR, gR_sI, gR_sL, o_iadd, o_isub, o_imul, o_iand, o_ior, o_ixor, o_ladd, o_lsub, o_lmul, o_land, o_lor, o_ishl, o_ishr, o_iushr, o_lshl, o_lcmp, o_i2l, o_l2i, o_i2b, o_i2s, o_lneg, o_imax, o_imin, o_idiv, o_irem, o_ldiv, o_lrem, r_lt, r_le, r_gt, r_ge, r_eq, r_ne, q_lt, q_le, q_gt, q_ge, q_eq, q_ne, decide_eq_true_eq, idI, stI, stL, stR, fI, fZ, fL, fR, and_true, true_and, and_false, false_and, or_true, true_or, or_false, false_or, not_true_eq_false, not_false_eq_true, if_true, if_false, ite_self, Bool.not_true, Bool.not_false, Bool.false_eq_true, Bool.true_eq_false, decide_true, decide_false, ne_eq, reduceIte, Nat.reduceEqDiff, Option.some.injEq, Prod.mk.injEq, eq_self, h1, h0, e1, e2, e3, Nat.reduceLeDiff, nI_clamp (show k < 2 ^ 31 by omega)]
theorem x_putO {r : Nat} {i v : Int32} {h : St} (h1 : (hk h r).1 = 13) (h0 : r ≠ 0) (h2 : ¬ (0 ≤ i ∧ i < Int32.ofNat (hk h r).2)) : DX11_put (sI (sI (sR fr0 0 r) 1 i) 2 v) h = some ((), h) := by
  by_cases e2 : 0 ≤ i
  · have e3 : ¬ i < Int32.ofNat (hk h r).2 := fun z => h2 ⟨e2, z⟩
    simp only [DX11_put, BX11_put, ob_s, ob_n, ob_ite, e_cI, e_cL, e_cR, e_vI, e_vL, e_vR, e_d2, e_d2z, e_d1, e_GI, e_GL, e_GR, e_AI, e_AB, e_AZ, e_AL, e_AR, e_Len, e_CI, e_CZ, e_And, e_Or, e_Not, e_B, e_T, e_NN, e_aN, e_aI, e_aL, e_aR, e_Call, e_CallV, e_SetI, e_SetL, e_SetR, e_Inc, e_Skip, e_Brk, e_Cnt, e_Ret, e_Ret0, e_Seq, e_If, e_Do, e_d3, e_P, e_UA, e_UL, e_UF, e_Cp, e_M1, e_MZ, e_lpS, e_dwS, Sum.elim_inl, Sum.elim_inr, gI_sI, gL_sL, gR_sR, gI_sL, gI_sR, gL_sI, gL_sR, gR_sI, gR_sL, o_iadd, o_isub, o_imul, o_iand, o_ior, o_ixor, o_ladd, o_lsub, o_lmul, o_land, o_lor, o_ishl, o_ishr, o_iushr, o_lshl, o_lcmp, o_i2l, o_l2i, o_i2b, o_i2s, o_lneg, o_imax, o_imin, o_idiv, o_irem, o_ldiv, o_lrem, r_lt, r_le, r_gt, r_ge, r_eq, r_ne, q_lt, q_le, q_gt, q_ge, q_eq, q_ne, decide_eq_true_eq, idI, stI, stL, stR, fI, fZ, fL, fR, and_true, true_and, and_false, false_and, or_true, true_or, or_false, false_or, not_true_eq_false, not_false_eq_true, if_true, if_false, ite_self, Bool.not_true, Bool.not_false, Bool.false_eq_true, Bool.true_eq_false, decide_true, decide_false, ne_eq, reduceIte, Nat.reduceEqDiff, Option.some.injEq, Prod.mk.injEq, eq_self, h1, h0, e2, e3, Nat.reduceLeDiff]
  · simp only [DX11_put, BX11_put, ob_s, ob_n, ob_ite, e_cI, e_cL, e_cR, e_vI, e_vL, e_vR, e_d2, e_d2z, e_d1, e_GI, e_GL, e_GR, e_AI, e_AB, e_AZ, e_AL, e_AR, e_Len, e_CI, e_CZ, e_And, e_Or, e_Not, e_B, e_T, e_NN, e_aN, e_aI, e_aL, e_aR, e_Call, e_CallV, e_SetI, e_SetL, e_SetR, e_Inc, e_Skip, e_Brk, e_Cnt, e_Ret, e_Ret0, e_Seq, e_If, e_Do, e_d3, e_P, e_UA, e_UL, e_UF, e_Cp, e_M1, e_MZ, e_lpS, e_dwS, Sum.elim_inl, Sum.elim_inr, gI_sI, gL_sL, gR_sR, gI_sL, gI_sR, gL_sI, gL_sR, gR_sI, gR_sL, o_iadd, o_isub, o_imul, o_iand, o_ior, o_ixor, o_ladd, o_lsub, o_lmul, o_land, o_lor, o_ishl, o_ishr, o_iushr, o_lshl, o_lcmp, o_i2l, o_l2i, o_i2b, o_i2s, o_lneg, o_imax, o_imin, o_idiv, o_irem, o_ldiv, o_lrem, r_lt, r_le, r_gt, r_ge, r_eq, r_ne, q_lt, q_le, q_gt, q_ge, q_eq, q_ne, decide_eq_true_eq, idI, stI, stL, stR, fI, fZ, fL, fR, and_true, true_and, and_false, false_and, or_true, true_or, or_false, false_or, not_true_eq_false, not_false_eq_true, if_true, if_false, ite_self, Bool.not_true, Bool.not_false, Bool.false_eq_true, Bool.true_eq_false, decide_true, decide_false, ne_eq, reduceIte, Nat.reduceEqDiff, Option.some.injEq, Prod.mk.injEq, eq_self, h1, h0, e2, Nat.reduceLeDiff]
theorem n_bit (b : Nat) {i : Nat} (hb : b < 2 ^ 31) (hi : i < 31) : (((nI b).toUInt32 >>> ((nI i).toUInt32 &&& Int32.toUInt32 31)).toInt32 &&& 1 = 0) = (b.testBit i = false) := by
  rw [pk_ushrN (show b < 2 ^ 32 by omega) (nI i) i (nf_slx i (by omega))]
  have e1 : nI (b / 2 ^ i) &&& 1 = nI (b / 2 ^ i % 2) := by
    have := fa_mask (b / 2 ^ i) 1
    exact this
  rw [e1, Nat.testBit_eq_decide_div_mod_eq]
  have h2 : b / 2 ^ i % 2 < 2 := Nat.mod_lt _ (by decide)
  rcases (show b / 2 ^ i % 2 = 0 ∨ b / 2 ^ i % 2 = 1 by omega) with z | z
  · rw [z]
    exact propext ⟨fun _ => by decide, fun _ => rfl⟩
  · rw [z]
    exact propext ⟨fun q => (by cases q), fun q => (by cases q)⟩
theorem b01 (c : Prop) (d : Decidable c) : ((@ite _ c d (1 : Int32) 0) = 0 ∨ (@ite _ c d (1 : Int32) 0) = 1) = True := by
  by_cases h : c
  · rw [if_pos h]; exact propext ⟨fun _ => trivial, fun _ => Or.inr rfl⟩
  · rw [if_neg h]; exact propext ⟨fun _ => trivial, fun _ => Or.inl rfl⟩
theorem b0 (c : Prop) (d : Decidable c) : ((@ite _ c d (1 : Int32) 0) = 0) = ¬ c := by
  by_cases h : c
  · rw [if_pos h]; exact propext ⟨fun q => (by cases q), fun q => absurd h q⟩
  · rw [if_neg h]; exact propext ⟨fun _ => h, fun _ => rfl⟩
theorem b1 (c : Prop) (d : Decidable c) : ((@ite _ c d (1 : Int32) 0) = 1) = c := by
  by_cases h : c
  · rw [if_pos h]; exact propext ⟨fun _ => h, fun _ => rfl⟩
  · rw [if_neg h]; exact propext ⟨fun q => (by cases q), fun q => absurd q h⟩
theorem x_hasBit {b i : Nat} (hb : b < 2 ^ 31) (hi : i < 31) (h : St) : DX11_hasBit (sI (sI fr0 0 (nI b)) 1 (nI i)) h = some (if b.testBit i = true then 1 else 0, h) := by
  have e2 : 0 ≤ nI i := nI_pos' (by omega)
  have e3 : nI i < 32 := nI_lt (b := 32) (by omega) (by decide)
  simp only [DX11_hasBit, BX11_hasBit, ob_s, ob_n, ob_ite, e_cI, e_cL, e_cR, e_vI, e_vL, e_vR, e_d2, e_d2z, e_d1, e_GI, e_GL, e_GR, e_AI, e_AB, e_AZ, e_AL, e_AR, e_Len, e_CI, e_CZ, e_And, e_Or, e_Not, e_B, e_T, e_NN, e_aN, e_aI, e_aL, e_aR, e_Call, e_CallV, e_SetI, e_SetL, e_SetR, e_Inc, e_Skip, e_Brk, e_Cnt, e_Ret, e_Ret0, e_Seq, e_If, e_Do, e_d3, e_P, e_UA, e_UL, e_UF, e_Cp, e_M1, e_MZ, e_lpS, e_dwS, Sum.elim_inl, Sum.elim_inr, gI_sI, gL_sL, gR_sR, gI_sL, gI_sR, gL_sI, gL_sR, gR_sI, gR_sL, o_iadd, o_isub, o_imul, o_iand, o_ior, o_ixor, o_ladd, o_lsub, o_lmul, o_land, o_lor, o_ishl, o_ishr, o_iushr, o_lshl, o_lcmp, o_i2l, o_l2i, o_i2b, o_i2s, o_lneg, o_imax, o_imin, o_idiv, o_irem, o_ldiv, o_lrem, r_lt, r_le, r_gt, r_ge, r_eq, r_ne, q_lt, q_le, q_gt, q_ge, q_eq, q_ne, decide_eq_true_eq, idI, stI, stL, stR, fI, fZ, fL, fR, and_true, true_and, and_false, false_and, or_true, true_or, or_false, false_or, not_true_eq_false, not_false_eq_true, if_true, if_false, ite_self, Bool.not_true, Bool.not_false, Bool.false_eq_true, Bool.true_eq_false, decide_true, decide_false, ne_eq, reduceIte, Nat.reduceEqDiff, Option.some.injEq, Prod.mk.injEq, eq_self, e2, e3, b01, n_bit b hb hi, Bool.not_eq_false]
