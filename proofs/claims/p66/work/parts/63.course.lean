set_option maxRecDepth 100000
set_option maxHeartbeats 4000000
/-! a Course: its picture and its value; what a store does to both -/
def up (S : PT) (j k v : Nat) : PT := fun a b => if a = j ∧ b = k then v else S a b
/-- what may be changed: D; the shape stands -/
def Ch (D : Nat → Prop) (h h' : St) : Prop := SH h h' ∧ ∀ o, ¬ D o → (∀ k, hi h' o k = hi h o k) ∧ ∀ k, hl h' o k = hl h o k
theorem Ch.rf (D : Nat → Prop) (h : St) : Ch D h h := ⟨SH.rf h, fun _ _ => ⟨fun _ => rfl, fun _ => rfl⟩⟩
theorem Ch.tr {D : Nat → Prop} {a b c : St} (h : Ch D a b) (k : Ch D b c) : Ch D a c := ⟨h.1.tr k.1, fun o z => ⟨fun j => ((k.2 o z).1 j).trans ((h.2 o z).1 j), fun j => ((k.2 o z).2 j).trans ((h.2 o z).2 j)⟩⟩
theorem Ch.mono {D E : Nat → Prop} {a b : St} (h : Ch D a b) (k : ∀ o, D o → E o) : Ch E a b := ⟨h.1, fun o z => h.2 o (fun q => z (k o q))⟩
theorem wI_hi (h : St) (r k : Nat) (v : Int32) (o j : Nat) : hi (wI h r k v) o j = if o = r ∧ j = k then v else hi h o j := rfl
theorem wL_hl (h : St) (r k : Nat) (v : Int64) (o j : Nat) : hl (wL h r k v) o j = if o = r ∧ j = k then v else hl h o j := rfl
theorem Ch.w {D : Nat → Prop} {r : Nat} (hr1 : D r) (h : St) (k : Nat) (v : Int32) : Ch D h (wI h r k v) := ⟨⟨rfl, rfl, rfl, rfl⟩, fun o z => ⟨fun j => by
  rw [wI_hi, if_neg]
  rintro ⟨rfl, -⟩
  exact z hr1, fun j => rfl⟩⟩
theorem Ch.wl {D : Nat → Prop} {r : Nat} (hr1 : D r) (h : St) (k : Nat) (v : Int64) : Ch D h (wL h r k v) := ⟨⟨rfl, rfl, rfl, rfl⟩, fun o z => ⟨fun j => rfl, fun j => by
  rw [wL_hl, if_neg]
  rintro ⟨rfl, -⟩
  exact z hr1⟩⟩
/-- a Port stands where nothing of it is changed -/
theorem RP.ch {D : Nat → Prop} {h h' : St} {p : Nat} {P : PT} (q : Ch D h h') (hD : ∀ j, j < 16 → ¬ D (p + j)) (hR : RP h p P) : RP h' p P := by
  refine ⟨fun j k hjk => ?_, fun k hk1 => ?_⟩
  · have hj : j < 16 := by unfold PIn at hjk; omega
    rw [(q.2 _ (hD j hj)).1]
    exact hR.1 j k hjk
  · rw [(q.2 _ (hD 14 (by decide))).1, (q.2 _ (hD 15 (by decide))).1]
    exact hR.2 k hk1
def cL8 : List Nat := [8, 5, 3, 3, 24, 3, 32, 32]
def CIn (j k : Nat) : Prop := j < 8 ∧ k < cL8.getD j 0
def enc (j k v : Nat) : Int32 := if j = 7 ∨ (j = 0 ∧ (k = 1 ∨ k = 4 ∨ k = 5)) then nI v + -nI 1 else nI v
theorem enc_n {j k v : Nat} (h1 : 1 ≤ j) (h2 : j < 7) : enc j k v = nI v := if_neg (by omega)
theorem enc_7 {k v : Nat} : enc 7 k v = nI v + -nI 1 := if_pos (Or.inl rfl)
def CS (h : St) (c : Nat) : Prop := 31 ≤ c ∧ hk h c = (2, 0) ∧ (∀ j, j < 8 → 1 ≤ j → hk h (c + j) = (13, cL8.getD j 0)) ∧ ∀ j, j < 7 → hr h c (8 + j) = c + 1 + j
def RC (h : St) (c : Nat) (S : PT) : Prop := ∀ j k, CIn j k → hi h (c + j) k = enc j k (S j k)
def cD (c : Nat) : Nat → Prop := fun o => c ≤ o ∧ o < c + 8
theorem CS.k {h : St} {c : Nat} (H : CS h c) : hk h c = (2, 0) := H.2.1
theorem CS.kj {h : St} {c j : Nat} (H : CS h c) (h1 : 1 ≤ j) (h2 : j < 8) : hk h (c + j) = (13, cL8.getD j 0) := H.2.2.1 j h2 h1
theorem CS.r8 {h : St} {c : Nat} (H : CS h c) : hr h c 8 = c + 1 := H.2.2.2 0 (by decide)
theorem CS.r9 {h : St} {c : Nat} (H : CS h c) : hr h c 9 = c + 2 := H.2.2.2 1 (by decide)
theorem CS.r10 {h : St} {c : Nat} (H : CS h c) : hr h c 10 = c + 3 := H.2.2.2 2 (by decide)
theorem CS.r11 {h : St} {c : Nat} (H : CS h c) : hr h c 11 = c + 4 := H.2.2.2 3 (by decide)
theorem CS.r12 {h : St} {c : Nat} (H : CS h c) : hr h c 12 = c + 5 := H.2.2.2 4 (by decide)
theorem CS.r13 {h : St} {c : Nat} (H : CS h c) : hr h c 13 = c + 6 := H.2.2.2 5 (by decide)
theorem CS.r14 {h : St} {c : Nat} (H : CS h c) : hr h c 14 = c + 7 := H.2.2.2 6 (by decide)
theorem CS.ne {h : St} {c : Nat} (H : CS h c) (j : Nat) : c + j ≠ 0 := by have := H.1; omega
theorem CS.to {h h' : St} {c : Nat} (H : CS h c) (k : SH h h') : CS h' c := by
  unfold CS
  rw [k.1, k.2.1]
  exact H
theorem cL8_le (j : Nat) : cL8.getD j 0 < 100 := by
  rcases (show j = 0 ∨ j = 1 ∨ j = 2 ∨ j = 3 ∨ j = 4 ∨ j = 5 ∨ j = 6 ∨ j = 7 ∨ 8 ≤ j by omega) with rfl | rfl | rfl | rfl | rfl | rfl | rfl | rfl | z <;> try decide
  rw [List.getD_eq_getElem?_getD, List.getElem?_eq_none (by show 8 ≤ j; exact z)]
  decide
theorem RC.w {h : St} {c : Nat} {S : PT} (hR : RC h c S) {j k : Nat} (v : Nat) : RC (wI h (c + j) k (enc j k v)) c (up S j k v) := by
  intro a b hab
  rw [wI_hi]
  unfold up
  by_cases hh : a = j ∧ b = k
  · obtain ⟨rfl, rfl⟩ := hh
    rw [if_pos ⟨rfl, rfl⟩, if_pos ⟨rfl, rfl⟩]
  · rw [if_neg hh, if_neg (fun z => hh ⟨by omega, z.2⟩)]
    exact hR a b hab
section
variable {h : St} {c : Nat} {S : PT}
theorem C_cellE (hC : CS h c) (hR : RC h c S) {j k : Nat} (h1 : 1 ≤ j) (hjk : CIn j k) : DX11_cell (sI (sR fr0 0 (c + j)) 1 (nI k)) h = some (enc j k (S j k), h) := by
  have e1 := hC.kj h1 hjk.1
  rw [x_cellN (by rw [e1]) (hC.ne j) (by rw [e1]; exact hjk.2) (by rw [e1]; have := cL8_le j; show cL8.getD j 0 < _; omega), hR j k hjk]
theorem C_cell (hC : CS h c) (hR : RC h c S) {j k : Nat} (h1 : 1 ≤ j) (h2 : j < 7) (hk1 : k < cL8.getD j 0) : DX11_cell (sI (sR fr0 0 (c + j)) 1 (nI k)) h = some (nI (S j k), h) := by
  rw [C_cellE hC hR h1 ⟨by omega, hk1⟩, enc_n h1 h2]
theorem C_putE (hC : CS h c) (hR : RC h c S) {j k : Nat} (v : Nat) (h1 : 1 ≤ j) (hjk : CIn j k) : ∃ g, DX11_put (sI (sI (sR fr0 0 (c + j)) 1 (nI k)) 2 (enc j k v)) h = some ((), g) ∧ RC g c (up S j k v) ∧ Ch (cD c) h g := by
  have e1 := hC.kj h1 hjk.1
  have e2 := hjk.1
  exact ⟨_, x_put (by rw [e1]) (hC.ne j) (by rw [e1]; exact hjk.2) (by rw [e1]; have := cL8_le j; show cL8.getD j 0 < _; omega), hR.w v, Ch.w (by unfold cD; omega) h k _⟩
theorem C_put (hC : CS h c) (hR : RC h c S) {j k : Nat} (v : Nat) (h1 : 1 ≤ j) (h2 : j < 7) (hk1 : k < cL8.getD j 0) : ∃ g, DX11_put (sI (sI (sR fr0 0 (c + j)) 1 (nI k)) 2 (nI v)) h = some ((), g) ∧ RC g c (up S j k v) ∧ Ch (cD c) h g := by
  have := C_putE hC hR v h1 ⟨by omega, hk1⟩ (k := k)
  rw [enc_n h1 h2] at this
  exact this
theorem C_fld (hC : CS h c) (hR : RC h c S) {k : Nat} (v : Nat) {w : Int32} (hw : w = enc 0 k v) : ∃ g, fI 2 k c w h = some g ∧ RC g c (up S 0 k v) ∧ Ch (cD c) h g := by
  have e1 := hC.k
  have e2 := hR.w (j := 0) (k := k) v
  refine ⟨wI h c k w, ?_, ?_, ?_⟩
  · unfold fI
    rw [if_pos (by rw [e1])]
  · rw [hw]; exact e2
  · exact Ch.w (by unfold cD; omega) h k _
/-- the law, the way lost, .. as told -/
def asTold (P S : PT) : PT := up (up (up (up (up (up S 0 0 (P 0 2)) 0 1 0) 0 2 0) 0 3 0) 0 4 0) 0 5 0
theorem x_setAsTold {p : Nat} {P : PT} (hC : CS h c) (hR : RC h c S) (hP : PS h p) (hRP : RP h p P) : ∃ g, DX2_setAsTold (sR (sR fr0 0 c) 1 p) h = some ((), g) ∧ RC g c (asTold P S) ∧ Ch (cD c) h g := by
  have e2 := hRP.sc (k := 2) (by decide)
  obtain ⟨g1, a1, b1, c1⟩ := C_fld hC hR (k := 0) (P 0 2) (w := nI (P 0 2)) rfl
  have hC1 := hC.to c1.1
  obtain ⟨g2, a2, b2, c2⟩ := C_fld hC1 b1 (k := 1) 0 (w := -nI 1) (by decide)
  have hC2 := hC1.to c2.1
  obtain ⟨g3, a3, b3, c3⟩ := C_fld hC2 b2 (k := 2) 0 (w := nI 0) (by decide)
  have hC3 := hC2.to c3.1
  obtain ⟨g4, a4, b4, c4⟩ := C_fld hC3 b3 (k := 3) 0 (w := nI 0) (by decide)
  have hC4 := hC3.to c4.1
  obtain ⟨g5, a5, b5, c5⟩ := C_fld hC4 b4 (k := 4) 0 (w := -nI 1) (by decide)
  have hC5 := hC4.to c5.1
  obtain ⟨g6, a6, b6, c6⟩ := C_fld hC5 b5 (k := 5) 0 (w := -nI 1) (by decide)
  refine ⟨g6, ?_, b6, ((((c1.tr c2).tr c3).tr c4).tr c5).tr c6⟩
  simp (disch := omega) only [DX2_setAsTold, BX2_setAsTold, ob_t, ob_n, ob_ite, e_cI, e_cL, e_cR, e_vI, e_vL, e_vR, e_d2, e_d2_a, e_d2_b, e_d2z, e_d2z_a, e_d2z_b, e_d1, e_d1_a, e_GI, e_GI_a, e_GL, e_GL_a, e_GR, e_GR_a, e_AI, e_AI_a, e_AI_b, e_AB, e_AB_a, e_AB_b, e_AZ, e_AZ_a, e_AZ_b, e_AL, e_AL_a, e_AL_b, e_AR, e_AR_a, e_AR_b, e_Len, e_Len_a, e_CI, e_CI_a, e_CI_b, e_CZ, e_CZ_a, e_And, e_kAnd, e_Or, e_kOr, e_Not, e_kNot, e_B, e_kB, e_T, e_kT, e_NN, e_kNN, e_NewA, e_NewA_a, e_NewC, e_kNewC, e_aN, e_aI, e_aI_a, e_aI_b, e_aL, e_aL_a, e_aL_b, e_aR, e_aR_a, e_aR_b, e_Call, e_kCall, e_CallV, e_kCallV, e_SetI, e_kSetI, e_SetL, e_kSetL, e_SetR, e_kSetR, e_Inc, e_Skip, e_Brk, e_Cnt, e_Ret, e_kRet, e_Ret0, e_Seq, e_kSeq0, e_kSeq1, e_kSeq2, e_kSeqR, e_If, e_kIf, e_Do, e_kDo, e_Sup, e_kN0, e_d3, e_k3a, e_k3b, e_k3c, e_P, e_kPa, e_kPb, e_UA, e_kUAa, e_kUAb, e_kUAc, e_UL, e_kULa, e_kULb, e_kULc, e_UF, e_kUFa, e_kUFb, e_Cp, e_kCp, e_Sw, e_kSwa, e_kSwb0, e_kSwb1, e_kSwbR, e_M1, e_kM1, e_MZ, e_kMZ, e_MN, e_kMN, e_Tv, e_kTv, e_Tc, e_kTc, e_lpS, e_kLp, e_kLpB0, e_kLpB1, e_kLpB2, e_kLpBR, e_kLpU, e_dwS, e_kDwB0, e_kDwC, f_II, f_LL, f_RR, f_IL, f_IR, f_LI, f_LR, f_RI, f_RL, o_iadd, o_isub, o_imul, o_iand, o_ior, o_ixor, o_ladd, o_lsub, o_lmul, o_land, o_lor, o_ishl, o_ishr, o_iushr, o_lshl, o_lshr, o_lcmp, o_i2l, o_l2i, o_i2b, o_i2s, o_lneg, o_ineg, o_imax, o_imin, o_idiv, o_irem, o_ldiv, o_lrem, r_lt, r_le, r_gt, r_ge, r_eq, r_ne, q_lt, q_le, q_gt, q_ge, q_eq, q_ne, decide_eq_true_eq, idI, and_true, true_and, and_false, false_and, or_true, true_or, or_false, false_or, not_true_eq_false, not_false_eq_true, if_true, if_false, ite_self, Bool.not_true, Bool.not_false, Bool.false_eq_true, Bool.true_eq_false, decide_true, decide_false, ne_eq, reduceIte, Nat.reduceEqDiff, Option.some.injEq, Prod.mk.injEq, eq_self, fa_lit, nI_add, pk_mul, nI_ltI, nI_leI, nI_eq, b01, b0, b1, x_hasBit, Nat.reduceLeDiff, Nat.reduceAdd, Nat.reduceMul, Nat.reduceSub, Nat.lt_irrefl, Nat.reduceLT, hP.k, e2, a1, a2, a3, a4, a5, a6]
end
