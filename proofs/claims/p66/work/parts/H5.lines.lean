set_option maxRecDepth 100000
set_option maxHeartbeats 1000000
/-! the text of a PORT: LINES, plainly; the class reads a LINE into its draft -/
def bnd {α β γ : Type} (x : α ⊕ β) (k : β → α ⊕ γ) : α ⊕ γ := Sum.elim Sum.inl k x
theorem bnd_l {α β γ : Type} (e : α) (k : β → α ⊕ γ) : bnd (.inl e) k = .inl e := rfl
theorem bnd_r {α β γ : Type} (v : β) (k : β → α ⊕ γ) : bnd (.inr v) k = k v := rfl
section
variable (B : Nat → Int32) (n : Nat)
def bPort (p : Nat) (P : PT) : (Nat × Nat) ⊕ (Nat × PT) := if isW B n p 0 = true then bnd (pA B n 1 1 13 (nxt B n p)) fun a => bnd (pA B n 2 0 4 a.2) fun b => bnd (pA B n 3 0 11 b.2) fun c => .inr (c.2, up (up (up P 0 1 a.1) 0 2 b.1) 0 3 c.1) else .inl (1, p)
def bHouse (p : Nat) (P : PT) : (Nat × Nat) ⊕ (Nat × PT) := bnd (pA B n 5 0 21 (nxt B n p)) fun a => .inr (a.2, up (up P 1 (P 0 4) a.1) 0 4 (P 0 4 + 1))
def bWay (p : Nat) (P : PT) : (Nat × Nat) ⊕ (Nat × PT) := bnd (pN B n 0 (P 0 4) (nxt B n p)) fun a => if kd B n a.2 = 2 ∧ nv B n a.2 = a.1 then .inl (2, a.2) else bnd (pN B n 0 (P 0 4) a.2) fun b => .inr (b.2, up (up (up P 2 (P 0 5) a.1) 3 (P 0 5) b.1) 0 5 (P 0 5 + 1))
def bCarrier (p : Nat) (P : PT) : (Nat × Nat) ⊕ (Nat × PT) := bnd (pA B n 8 0 (P 0 4) (nxt B n p)) fun a => bnd (pA B n 9 0 100 a.2) fun b => .inr (b.2, up (up (up P 4 (P 0 6) a.1) 5 (P 0 6) b.1) 0 6 (P 0 6 + 1))
def pWs (s : Nat) : Nat → Nat → Nat → PT → (Nat × Nat) ⊕ (Nat × Nat × PT)
  | 0, w, p, P => .inr (w, p, P)
  | f + 1, w, p, P => bnd (pA B n 11 1 31 p) fun a => if isW B n a.2 11 = true then (if w + 1 < 6 then pWs s f (w + 1) a.2 (up P 8 (6 * s + w) a.1) else .inl (3, a.2)) else .inr (w + 1, a.2, up P 8 (6 * s + w) a.1)
def bSlate (p : Nat) (P : PT) : (Nat × Nat) ⊕ (Nat × PT) := bnd (pA B n 8 0 (P 0 4) (nxt B n p)) fun a => bnd (pWs B n (P 0 7) 6 0 a.2 (up P 6 (P 0 7) a.1)) fun b => .inr (b.2.1, up (up b.2.2 7 (P 0 7) b.1) 0 7 (P 0 7 + 1))
def bCarry (p : Nat) (P : PT) : (Nat × Nat) ⊕ (Nat × PT) := bnd (pN B n 0 (P 0 6) (nxt B n p)) fun a => bnd (pN B n 0 (P 0 7) a.2) fun b => bnd (pA B n 13 0 (P 0 4) b.2) fun c => bnd (pA B n 8 0 12 c.2) fun d => .inr (d.2, up (up (up (up (up P 10 (P 9 1) a.1) 11 (P 9 1) b.1) 12 (P 9 1) c.1) 13 (P 9 1) d.1) 9 1 (P 9 1 + 1))
def bLine (p : Nat) (P : PT) : (Nat × Nat) ⊕ (Nat × PT) := if P 0 0 = 0 then bPort B n p P else if isW B n p 4 = true then (if P 0 4 < 8 then bHouse B n p P else .inl (3, p)) else if isW B n p 6 = true then (if P 0 5 < 12 then bWay B n p P else .inl (3, p)) else if isW B n p 7 = true then (if P 0 6 < 5 then bCarrier B n p P else .inl (3, p)) else if isW B n p 10 = true then (if P 0 7 < 3 then bSlate B n p P else .inl (3, p)) else if isW B n p 12 = true then (if P 9 1 < 12 then bCarry B n p P else .inl (3, p)) else .inl (1, p)
def bFull (p : Nat) (P : PT) : (Nat × Nat) ⊕ (Nat × PT) := bnd (bLine B n p P) fun a => if kd B n a.1 = 3 then .inr (nxt B n a.1, up a.2 0 0 (P 0 0 + 1)) else .inl (1, a.1)
def bAll : Nat → Nat → PT → (Nat × Nat) ⊕ PT
  | 0, _, P => .inr P
  | f + 1, p, P => if p < n then bnd (bFull B n p P) fun a => bAll f a.1 a.2 else .inr P
end
/-- cells of the draft -/
def RPc (D : Nat → Nat → Prop) (h : St) (P : PT) : Prop := ∀ j k, D j k → hi h (oQ + j) k = nI (P j k)
def cqD (o : Nat) : Prop := o = 32 ∨ o = 34 ∨ (oQ ≤ o ∧ o < oQ + 16)
def qD (o : Nat) : Prop := oQ ≤ o ∧ o < oQ + 16
section
variable {h g : St} {P : PT} {D E : Nat → Nat → Prop}
theorem RPc.w (H : RPc D h P) (j k v : Nat) : RPc (fun a b => D a b ∨ (a = j ∧ b = k)) (wI h (oQ + j) k (nI v)) (up P j k v) := by
  intro a b hD
  unfold up
  by_cases z : a = j ∧ b = k
  · rw [if_pos z, z.1, z.2, w_eq]
  · rw [if_neg z, w_ne (by omega)]
    exact H a b (hD.resolve_right z)
theorem RPc.mono (H : RPc D h P) (k : ∀ a b, E a b → D a b) : RPc E h P := fun a b hE => H a b (k a b hE)
theorem RPc.to (H : RPc D h P) {S : Nat → Prop} (k : Ch S h g) (d : ∀ o, oQ ≤ o → ¬ S o) : RPc D g P := fun a b hD => ((k.2 _ (d _ (Nat.le_add_right _ _))).1 b).trans (H a b hD)
theorem crD_q : ∀ o, oQ ≤ o → ¬ crD o := fun o ho z => by
  have := oQ_is
  unfold crD at z
  omega
theorem Ch.cq (c : Ch crD h g) : Ch cqD h g := c.mono fun o ho => by
  unfold crD at ho
  unfold cqD
  omega
theorem Ch.qc (c : Ch qD h g) : Ch cqD h g := c.mono fun o ho => Or.inr (Or.inr ho)
theorem cq_w (h : St) {j : Nat} (hj : j < 16) (k : Nat) (v : Int32) : Ch qD h (wI h (oQ + j) k v) := Ch.w (D := qD) ⟨Nat.le_add_right _ _, by omega⟩ _ _ _
theorem qD_lo : ∀ o, o < 35 → ¬ qD o := fun o ho z => by
  have := oQ_is
  unfold qD at z
  omega
theorem q_put (hP : PS h oQ) {j k : Nat} (hj : j < 16) (hj0 : j ≠ 0) (hj9 : j ≠ 9) (hk1 : k < [0, 8, 12, 12, 5, 5, 3, 3, 18, 0, 32, 32, 32, 32, 20, 20].getD j 0) (v : Int32) : DX11_put (sI (sI (sR fr0 0 (oQ + j)) 1 (nI k)) 2 v) h = some ((), wI h (oQ + j) k v) := by
  have e := hP.2.1 j hj
  rw [if_neg hj0, if_neg hj9] at e
  have hl : [0, 8, 12, 12, 5, 5, 3, 3, 18, 0, 32, 32, 32, 32, 20, 20].getD j 0 < 100 := by
    have : ∀ j, j < 16 → [0, 8, 12, 12, 5, 5, 3, 3, 18, 0, 32, 32, 32, 32, 20, 20].getD j 0 < 100 := by decide +kernel
    exact this j hj
  have := oQ_is
  exact x_put (by rw [e]) (by omega) (by rw [e]; exact hk1) (by rw [e]; exact Nat.lt_trans hl (by decide))
end
theorem pin_gen {P P' : PT} {a b d4 d5 d6 d7 d9 : Nat} (e4 : P' 0 4 = P 0 4 + d4) (e5 : P' 0 5 = P 0 5 + d5) (e6 : P' 0 6 = P 0 6 + d6) (e7 : P' 0 7 = P 0 7 + d7) (e9 : P' 9 1 = P 9 1 + d9) (es : ∀ s, s < P 0 7 → P' 7 s = P 7 s) (hz : PIn P' a b) : PIn P a b ∨ (a = 1 ∧ P 0 4 ≤ b ∧ b < P 0 4 + d4) ∨ ((a = 2 ∨ a = 3) ∧ P 0 5 ≤ b ∧ b < P 0 5 + d5) ∨ ((a = 4 ∨ a = 5) ∧ P 0 6 ≤ b ∧ b < P 0 6 + d6) ∨ ((a = 6 ∨ a = 7) ∧ P 0 7 ≤ b ∧ b < P 0 7 + d7) ∨ (a = 8 ∧ P 0 7 ≤ b / 6 ∧ b / 6 < P 0 7 + d7 ∧ b % 6 < P' 7 (b / 6)) ∨ (10 ≤ a ∧ a ≤ 13 ∧ P 9 1 ≤ b ∧ b < P 9 1 + d9) := by
  unfold PIn at hz
  rw [e4, e5, e6, e7, e9] at hz
  rcases hz with z | z | z | z | z | z | z | z | z | z | z
  · exact Or.inl (Or.inl z)
  · by_cases y : b < P 0 4
    · exact Or.inl (Or.inr (Or.inl ⟨z.1, y⟩))
    · exact Or.inr (Or.inl ⟨z.1, by omega, z.2⟩)
  · by_cases y : b < P 0 5
    · exact Or.inl (Or.inr (Or.inr (Or.inl ⟨z.1, y⟩)))
    · exact Or.inr (Or.inr (Or.inl ⟨Or.inl z.1, by omega, z.2⟩))
  · by_cases y : b < P 0 5
    · exact Or.inl (Or.inr (Or.inr (Or.inr (Or.inl ⟨z.1, y⟩))))
    · exact Or.inr (Or.inr (Or.inl ⟨Or.inr z.1, by omega, z.2⟩))
  · by_cases y : b < P 0 6
    · exact Or.inl (Or.inr (Or.inr (Or.inr (Or.inr (Or.inl ⟨z.1, y⟩)))))
    · exact Or.inr (Or.inr (Or.inr (Or.inl ⟨Or.inl z.1, by omega, z.2⟩)))
  · by_cases y : b < P 0 6
    · exact Or.inl (Or.inr (Or.inr (Or.inr (Or.inr (Or.inr (Or.inl ⟨z.1, y⟩))))))
    · exact Or.inr (Or.inr (Or.inr (Or.inl ⟨Or.inr z.1, by omega, z.2⟩)))
  · by_cases y : b < P 0 7
    · exact Or.inl (Or.inr (Or.inr (Or.inr (Or.inr (Or.inr (Or.inr (Or.inl ⟨z.1, y⟩)))))))
    · exact Or.inr (Or.inr (Or.inr (Or.inr (Or.inl ⟨Or.inl z.1, by omega, z.2⟩))))
  · by_cases y : b < P 0 7
    · exact Or.inl (Or.inr (Or.inr (Or.inr (Or.inr (Or.inr (Or.inr (Or.inr (Or.inl ⟨z.1, y⟩))))))))
    · exact Or.inr (Or.inr (Or.inr (Or.inr (Or.inl ⟨Or.inr z.1, by omega, z.2⟩))))
  · by_cases y : b / 6 < P 0 7
    · exact Or.inl (Or.inr (Or.inr (Or.inr (Or.inr (Or.inr (Or.inr (Or.inr (Or.inr (Or.inl ⟨z.1, z.2.1, y, by rw [← es _ y]; exact z.2.2.2⟩)))))))))
    · exact Or.inr (Or.inr (Or.inr (Or.inr (Or.inr (Or.inl ⟨z.1, by omega, z.2.2.1, z.2.2.2⟩)))))
  · exact Or.inl (Or.inr (Or.inr (Or.inr (Or.inr (Or.inr (Or.inr (Or.inr (Or.inr (Or.inr (Or.inl z))))))))))
  · by_cases y : b < P 9 1
    · exact Or.inl (Or.inr (Or.inr (Or.inr (Or.inr (Or.inr (Or.inr (Or.inr (Or.inr (Or.inr (Or.inr ⟨z.1, z.2.1, y⟩))))))))))
    · exact Or.inr (Or.inr (Or.inr (Or.inr (Or.inr (Or.inr ⟨z.1, z.2.1, by omega, z.2.2⟩)))))
/-- what a LINE comes to in the class -/
def OutC (B : Nat → Int32) (n : Nat) (x : (Nat × Nat) ⊕ (Nat × PT)) (r : Int32) (g : St) : Prop := (∃ p' P', x = .inr (p', P') ∧ r = nI 1 ∧ CRd B n p' g ∧ RPc (PIn P') g P') ∨ ∃ e, x = .inl e ∧ r = nI 0 ∧ CFl e g
section
variable {B : Nat → Int32} {n p : Nat} {h g : St} {P : PT}
theorem CFl.ne {e : Nat × Nat} (H : CFl e h) : ∃ x, hi h 34 0 = x ∧ (x = nI 0) = False := ⟨nI e.1, H.2.1, by
  have := H.1
  rw [nI_eq (by omega) (by decide)]
  exact eq_false (by omega)⟩
theorem cl_house (H : CRd B n p h) (hP : PS h oQ) (R : RPc (PIn P) h P) (hc : P 0 4 < 8) : ∃ g r, DX6_readHouse (sR (sR (sR fr0 0 34) 1 32) 2 oQ) h = some (r, g) ∧ Ch cqD h g ∧ OutC B n (bHouse B n p P) r g := by
  have hO := H.1.1.1
  have hcc := oQ_is
  obtain ⟨g1, x1, c1, K1⟩ := cr_next H
  have R1 := R.to c1 crD_q
  have k04 : hi g1 (oQ + 0) 4 = nI (P 0 4) := R1 0 4 (Or.inl ⟨rfl, by decide⟩)
  rw [Nat.add_zero] at k04
  obtain ⟨g2, r, x2, c2, K2⟩ := cr_am K1 (j := 5) (i := 8) (lo := 0) (top := 21) (x := nI 20) (by decide) rfl (by decide) (by decide) (by decide)
  have R2 := R1.to c2 crD_q
  have k04' : hi g2 (oQ + 0) 4 = nI (P 0 4) := R2 0 4 (Or.inl ⟨rfl, by decide⟩)
  rw [Nat.add_zero] at k04'
  have hP2 : PS g2 oQ := (hP.to c1.1).to c2.1
  have x3 := q_put hP2 (j := 1) (k := P 0 4) (by decide) (by decide) (by decide) hc r
  have e5 : nI (P 0 4) + nI 1 = nI (P 0 4 + 1) := nI_add _ _
  have cw : Ch qD g2 (wI (wI g2 (oQ + 1) (P 0 4) r) oQ 4 (nI (P 0 4 + 1))) := (cq_w g2 (j := 1) (by decide) _ _).tr (cq_w _ (j := 0) (by decide) _ _)
  refine ⟨wI (wI g2 (oQ + 1) (P 0 4) r) oQ 4 (nI (P 0 4 + 1)), ?_⟩
  have z32 : ¬ (32 : Nat) = oQ ∧ ¬ (34 : Nat) = oQ ∧ ¬ (34 : Nat) = oQ + 1 := by omega
  unfold bHouse
  obtain ⟨v, p', e1, rfl, K, -, -⟩ | ⟨e, e1, K⟩ := K2
  · refine ⟨nI 1, ?_, (c1.cq.tr c2.cq).tr cw.qc, Or.inl ⟨p', _, by rw [e1, bnd_r], rfl, K.to cw qD_lo, ((R2.w 1 (P 0 4) v).w 0 4 (P 0 4 + 1)).mono ?_⟩⟩
    · have f0 := K.2.2.1
      simp (disch := omega) only [DX6_readHouse, BX6_readHouse, nI_n10, ob_t, ob_n, ob_ite, e_cI, e_cL, e_cR, e_vI, e_vL, e_vR, e_d2, e_d2_a, e_d2_b, e_d2z, e_d2z_a, e_d2z_b, e_d1, e_d1_a, e_GI, e_GI_a, e_GL, e_GL_a, e_GR, e_GR_a, e_AI, e_AI_a, e_AI_b, e_AB, e_AB_a, e_AB_b, e_AZ, e_AZ_a, e_AZ_b, e_AL, e_AL_a, e_AL_b, e_AR, e_AR_a, e_AR_b, e_Len, e_Len_a, e_CI, e_CI_a, e_CI_b, e_CZ, e_CZ_a, e_And, e_kAnd, e_Or, e_kOr, e_Not, e_kNot, e_B, e_kB, e_T, e_kT, e_NN, e_kNN, e_NewA, e_NewA_a, e_NewC, e_kNewC, e_aN, e_aI, e_aI_a, e_aI_b, e_aL, e_aL_a, e_aL_b, e_aR, e_aR_a, e_aR_b, e_Call, e_kCall, e_CallV, e_kCallV, e_SetI, e_kSetI, e_SetL, e_kSetL, e_SetR, e_kSetR, e_Inc, e_Skip, e_Brk, e_Cnt, e_Ret, e_kRet, e_Ret0, e_Seq, e_kSeq0, e_kSeq1, e_kSeq2, e_kSeqR, e_If, e_kIf, e_Do, e_kDo, e_Sup, e_kN0, e_d3, e_k3a, e_k3b, e_k3c, e_P, e_kPa, e_kPb, e_UA, e_kUAa, e_kUAb, e_kUAc, e_UL, e_kULa, e_kULb, e_kULc, e_UF, e_kUFa, e_kUFb, e_Cp, e_kCp, e_Sw, e_kSwa, e_kSwb0, e_kSwb1, e_kSwbR, e_M1, e_kM1, e_MZ, e_kMZ, e_MN, e_kMN, e_Tv, e_kTv, e_Tc, e_kTc, e_lpS, e_kLp, e_kLpB0, e_kLpB1, e_kLpB2, e_kLpBR, e_kLpU, e_dwS, e_kDwB0, e_kDwC, f_II, f_LL, f_RR, f_IL, f_IR, f_LI, f_LR, f_RI, f_RL, and_true, true_and, and_false, false_and, or_true, true_or, or_false, false_or, not_true_eq_false, not_false_eq_true, if_true, if_false, ite_self, Bool.not_true, Bool.not_false, Bool.false_eq_true, Bool.true_eq_false, decide_true, decide_false, ne_eq, reduceIte, Nat.reduceEqDiff, Option.some.injEq, Prod.mk.injEq, eq_self, r_lt, r_le, r_gt, r_ge, r_eq, r_ne, q_lt, q_le, q_gt, q_ge, q_eq, q_ne, decide_eq_true_eq, b01, b0, b1, o_iadd, o_imul, n_inb, nI_clamp, w_hr, w_hk, w_hl, w_eq, w_ne, wl_hr, wl_hk, wl_hi, wl_eq, wl_ne, stI, fI, f_ss, f_sR, f_sL, lc0, lc1, lc01, fa_lit, hO.k32, hO.k33, hO.k34, hO.r32_0, hP.k, hP.k9, hP.r8, hP.r9, hP.r10, hP.r11, hP.r12, hP.r13, hP.r14, hP.r15, hP.r16, hP.c3, hP.c4, hP.c5, hP.c6, hP.c7, hP.c8, x1, x2, x3, c1.1.1, c1.1.2.1, c2.1.1, c2.1.2.1, k04, k04', e5, f0]
    · intro a b hz
      obtain y | y := pin_gen (P := P) (d4 := 1) (d5 := 0) (d6 := 0) (d7 := 0) (d9 := 0) (by simp [up]) (by simp [up]) (by simp [up]) (by simp [up]) (by simp [up]) (fun s _ => by simp [up]) hz
      · exact Or.inl (Or.inl y)
      · exact Or.inl (Or.inr (by omega))
  · obtain ⟨y, f0, f1⟩ := K.ne
    refine ⟨nI 0, ?_, (c1.cq.tr c2.cq).tr cw.qc, Or.inr ⟨e, by rw [e1, bnd_l], rfl, K.to cw (qD_lo _ (by decide))⟩⟩
    simp (disch := omega) only [DX6_readHouse, BX6_readHouse, nI_n10, ob_t, ob_n, ob_ite, e_cI, e_cL, e_cR, e_vI, e_vL, e_vR, e_d2, e_d2_a, e_d2_b, e_d2z, e_d2z_a, e_d2z_b, e_d1, e_d1_a, e_GI, e_GI_a, e_GL, e_GL_a, e_GR, e_GR_a, e_AI, e_AI_a, e_AI_b, e_AB, e_AB_a, e_AB_b, e_AZ, e_AZ_a, e_AZ_b, e_AL, e_AL_a, e_AL_b, e_AR, e_AR_a, e_AR_b, e_Len, e_Len_a, e_CI, e_CI_a, e_CI_b, e_CZ, e_CZ_a, e_And, e_kAnd, e_Or, e_kOr, e_Not, e_kNot, e_B, e_kB, e_T, e_kT, e_NN, e_kNN, e_NewA, e_NewA_a, e_NewC, e_kNewC, e_aN, e_aI, e_aI_a, e_aI_b, e_aL, e_aL_a, e_aL_b, e_aR, e_aR_a, e_aR_b, e_Call, e_kCall, e_CallV, e_kCallV, e_SetI, e_kSetI, e_SetL, e_kSetL, e_SetR, e_kSetR, e_Inc, e_Skip, e_Brk, e_Cnt, e_Ret, e_kRet, e_Ret0, e_Seq, e_kSeq0, e_kSeq1, e_kSeq2, e_kSeqR, e_If, e_kIf, e_Do, e_kDo, e_Sup, e_kN0, e_d3, e_k3a, e_k3b, e_k3c, e_P, e_kPa, e_kPb, e_UA, e_kUAa, e_kUAb, e_kUAc, e_UL, e_kULa, e_kULb, e_kULc, e_UF, e_kUFa, e_kUFb, e_Cp, e_kCp, e_Sw, e_kSwa, e_kSwb0, e_kSwb1, e_kSwbR, e_M1, e_kM1, e_MZ, e_kMZ, e_MN, e_kMN, e_Tv, e_kTv, e_Tc, e_kTc, e_lpS, e_kLp, e_kLpB0, e_kLpB1, e_kLpB2, e_kLpBR, e_kLpU, e_dwS, e_kDwB0, e_kDwC, f_II, f_LL, f_RR, f_IL, f_IR, f_LI, f_LR, f_RI, f_RL, and_true, true_and, and_false, false_and, or_true, true_or, or_false, false_or, not_true_eq_false, not_false_eq_true, if_true, if_false, ite_self, Bool.not_true, Bool.not_false, Bool.false_eq_true, Bool.true_eq_false, decide_true, decide_false, ne_eq, reduceIte, Nat.reduceEqDiff, Option.some.injEq, Prod.mk.injEq, eq_self, r_lt, r_le, r_gt, r_ge, r_eq, r_ne, q_lt, q_le, q_gt, q_ge, q_eq, q_ne, decide_eq_true_eq, b01, b0, b1, o_iadd, o_imul, n_inb, nI_clamp, w_hr, w_hk, w_hl, w_eq, w_ne, wl_hr, wl_hk, wl_hi, wl_eq, wl_ne, stI, fI, f_ss, f_sR, f_sL, lc0, lc1, lc01, fa_lit, hO.k32, hO.k33, hO.k34, hO.r32_0, hP.k, hP.k9, hP.r8, hP.r9, hP.r10, hP.r11, hP.r12, hP.r13, hP.r14, hP.r15, hP.r16, hP.c3, hP.c4, hP.c5, hP.c6, hP.c7, hP.c8, x1, x2, x3, c1.1.1, c1.1.2.1, c2.1.1, c2.1.2.1, k04, k04', e5, f0, f1]
end
