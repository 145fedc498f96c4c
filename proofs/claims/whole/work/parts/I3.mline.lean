set_option maxRecDepth 100000
set_option maxHeartbeats 1000000
/-! the text of a PORT: the model reads a LINE -/
def mA (j k : Nat) : Nat × Nat := if j = 0 then (if k = 0 then (6, 4) else (7, 35 + k)) else if j = 1 then (8, 32 + k) else if j = 2 then (9, 96 + 2 * k) else if j = 3 then (9, 97 + 2 * k) else if j = 4 then (10, 40 + 2 * k) else if j = 5 then (10, 41 + 2 * k) else if j = 6 then (11, 12 + k) else if j = 7 then (12, 12 + k) else if j = 8 then (13, 72 + k) else if j = 9 then (7, 42 + k) else (14, 192 + 4 * k + (j - 10))
def mB (o i : Nat) : Nat × Nat := if o = 6 then (0, 0) else if o = 7 then (if i ≤ 42 then (0, i - 35) else (9, i - 42)) else if o = 8 then (1, i - 32) else if o = 9 then (2 + (i - 96) % 2, (i - 96) / 2) else if o = 10 then (4 + (i - 40) % 2, (i - 40) / 2) else if o = 11 then (6, i - 12) else if o = 12 then (7, i - 12) else if o = 13 then (8, i - 72) else (10 + (i - 192) % 4, (i - 192) / 4)
def vA (a b : Nat) : Prop := (a = 0 ∧ b < 8) ∨ (1 ≤ a ∧ a ≤ 8) ∨ (a = 9 ∧ 1 ≤ b ∧ b ≤ 2) ∨ (10 ≤ a ∧ a ≤ 13)
theorem mBA {a b : Nat} (h : vA a b) : mB (mA a b).1 (mA a b).2 = (a, b) := by
  unfold vA at h
  rcases (show a = 0 ∨ a = 1 ∨ a = 2 ∨ a = 3 ∨ a = 4 ∨ a = 5 ∨ a = 6 ∨ a = 7 ∨ a = 8 ∨ a = 9 ∨ a = 10 ∨ a = 11 ∨ a = 12 ∨ a = 13 by omega) with rfl | rfl | rfl | rfl | rfl | rfl | rfl | rfl | rfl | rfl | rfl | rfl | rfl | rfl
  · by_cases z : b = 0
    · subst z; rfl
    · have e : mA 0 b = (7, 35 + b) := by unfold mA; rw [if_pos rfl, if_neg z]
      rw [e]
      show (if 35 + b ≤ 42 then (0, 35 + b - 35) else (9, 35 + b - 42)) = (0, b)
      rw [if_pos (by omega), show 35 + b - 35 = b by omega]
  · show (1, 32 + b - 32) = (1, b); rw [show 32 + b - 32 = b by omega]
  · show (2 + (96 + 2 * b - 96) % 2, (96 + 2 * b - 96) / 2) = (2, b); rw [show 2 + (96 + 2 * b - 96) % 2 = 2 by omega, show (96 + 2 * b - 96) / 2 = b by omega]
  · show (2 + (97 + 2 * b - 96) % 2, (97 + 2 * b - 96) / 2) = (3, b); rw [show 2 + (97 + 2 * b - 96) % 2 = 3 by omega, show (97 + 2 * b - 96) / 2 = b by omega]
  · show (4 + (40 + 2 * b - 40) % 2, (40 + 2 * b - 40) / 2) = (4, b); rw [show 4 + (40 + 2 * b - 40) % 2 = 4 by omega, show (40 + 2 * b - 40) / 2 = b by omega]
  · show (4 + (41 + 2 * b - 40) % 2, (41 + 2 * b - 40) / 2) = (5, b); rw [show 4 + (41 + 2 * b - 40) % 2 = 5 by omega, show (41 + 2 * b - 40) / 2 = b by omega]
  · show (6, 12 + b - 12) = (6, b); rw [show 12 + b - 12 = b by omega]
  · show (7, 12 + b - 12) = (7, b); rw [show 12 + b - 12 = b by omega]
  · show (8, 72 + b - 72) = (8, b); rw [show 72 + b - 72 = b by omega]
  · show (if 42 + b ≤ 42 then (0, 42 + b - 35) else (9, 42 + b - 42)) = (9, b)
    rw [if_neg (by omega), show 42 + b - 42 = b by omega]
  · show (10 + (192 + 4 * b + (10 - 10) - 192) % 4, (192 + 4 * b + (10 - 10) - 192) / 4) = (10, b); rw [show 10 + (192 + 4 * b + (10 - 10) - 192) % 4 = 10 by omega, show (192 + 4 * b + (10 - 10) - 192) / 4 = b by omega]
  · show (10 + (192 + 4 * b + (11 - 10) - 192) % 4, (192 + 4 * b + (11 - 10) - 192) / 4) = (11, b); rw [show 10 + (192 + 4 * b + (11 - 10) - 192) % 4 = 11 by omega, show (192 + 4 * b + (11 - 10) - 192) / 4 = b by omega]
  · show (10 + (192 + 4 * b + (12 - 10) - 192) % 4, (192 + 4 * b + (12 - 10) - 192) / 4) = (12, b); rw [show 10 + (192 + 4 * b + (12 - 10) - 192) % 4 = 12 by omega, show (192 + 4 * b + (12 - 10) - 192) / 4 = b by omega]
  · show (10 + (192 + 4 * b + (13 - 10) - 192) % 4, (192 + 4 * b + (13 - 10) - 192) / 4) = (13, b); rw [show 10 + (192 + 4 * b + (13 - 10) - 192) % 4 = 13 by omega, show (192 + 4 * b + (13 - 10) - 192) / 4 = b by omega]
/-- cells of the model's fifth place -/
def RMc (D : Nat → Nat → Prop) (h : St) (P : PT) : Prop := ∀ j k, D j k → vA j k ∧ hi h (oM + (mA j k).1) (mA j k).2 = nI (P j k)
def mLD (o : Nat) : Prop := o = oM ∨ (oM + 6 ≤ o ∧ o < oM + 16)
def ML (h g : St) : Prop := Ch mLD h g ∧ ∀ i j, i < 10 → j < 4 * mz i → hi g (oM + 6 + i) j = hi h (oM + 6 + i) j
def mWD (o : Nat) : Prop := oM + 6 ≤ o ∧ o < oM + 16
def PIM (P : PT) (a b : Nat) : Prop := PIn P a b ∧ ¬ (a = 9 ∧ b = 0)
section
variable {h g k1 : St} {P : PT} {D E : Nat → Nat → Prop}
theorem RMc.w (H : RMc D h P) {j k : Nat} (hv : vA j k) (v : Nat) : RMc (fun a b => D a b ∨ (a = j ∧ b = k)) (wI h (oM + (mA j k).1) (mA j k).2 (nI v)) (up P j k v) := by
  intro a b hD
  by_cases z : a = j ∧ b = k
  · rw [z.1, z.2]
    exact ⟨hv, by rw [w_eq, up_eq]⟩
  · obtain ⟨va, e⟩ := H a b (hD.resolve_right z)
    refine ⟨va, ?_⟩
    have hne : ¬ ((mA a b).1 = (mA j k).1 ∧ (mA a b).2 = (mA j k).2) := by
      rintro ⟨q1, q2⟩
      have b1 := mBA va
      rw [q1, q2, mBA hv] at b1
      cases b1
      exact z ⟨rfl, rfl⟩
    rw [w_ne (by omega), up_o _ _ (by omega)]
    exact e
theorem RMc.mono (H : RMc D h P) (k : ∀ a b, E a b → D a b) : RMc E h P := fun a b hE => H a b (k a b hE)
theorem mA_ge {a b : Nat} : 6 ≤ (mA a b).1 ∧ (mA a b).1 < 16 := by
  unfold mA
  repeat' split
  all_goals simp
theorem RMc.to (H : RMc D h P) {S : Nat → Prop} (k : Ch S h g) (d : ∀ o, oM + 6 ≤ o → ¬ S o) : RMc D g P := fun a b hD => by
  have := mA_ge (a := a) (b := b)
  exact ⟨(H a b hD).1, ((k.2 _ (d _ (by omega))).1 _).trans (H a b hD).2⟩
theorem mT6 : ∀ o, oM + 6 ≤ o → ¬ mTD o := fun o ho z => by unfold mTD at z; omega
theorem ML.tm (c : Ch mTD h g) : ML h g := ⟨c.mono fun o ho => Or.inl ho, fun i j _ _ => (c.2 _ (mT6 _ (by omega))).1 j⟩
theorem ML.tr (a : ML h g) (b : ML g k1) : ML h k1 := ⟨a.1.tr b.1, fun i j h1 h2 => (b.2 i j h1 h2).trans (a.2 i j h1 h2)⟩
theorem ML.rf (h : St) : ML h h := ⟨Ch.rf _ _, fun _ _ _ _ => rfl⟩
theorem mw_c (h : St) {o : Nat} (ho : 6 ≤ o ∧ o < 16) (j : Nat) (v : Int32) : Ch mWD h (wI h (oM + o) j v) := Ch.w (D := mWD) ⟨by omega, by omega⟩ _ _ _
theorem ML.w (h : St) {o j : Nat} (ho : 6 ≤ o ∧ o < 16) (hj : 4 * mz (o - 6) ≤ j) (v : Int32) : ML h (wI h (oM + o) j v) := ⟨(mw_c h ho j v).mono fun o ho => Or.inr ho, fun i l h1 h2 => by
  refine w_ne ?_ _ _
  by_cases z : oM + 6 + i = oM + o
  · right
    have : i = o - 6 := by omega
    subst this
    omega
  · exact Or.inl z⟩
theorem mW0 : ¬ mWD oM := fun z => by unfold mWD at z; omega
theorem mW5 : ¬ mWD (oM + 5) := fun z => by unfold mWD at z; omega
theorem pin_v {a b : Nat} (h : PIM P a b) : vA a b := by
  obtain ⟨h, h9⟩ := h
  unfold PIn at h
  unfold vA
  rcases h with z | z | z | z | z | z | z | z | z | z | z
  · exact Or.inl z
  · exact Or.inr (Or.inl (by omega))
  · exact Or.inr (Or.inl (by omega))
  · exact Or.inr (Or.inl (by omega))
  · exact Or.inr (Or.inl (by omega))
  · exact Or.inr (Or.inl (by omega))
  · exact Or.inr (Or.inl (by omega))
  · exact Or.inr (Or.inl (by omega))
  · exact Or.inr (Or.inl (by omega))
  · exact Or.inr (Or.inr (Or.inl (by omega)))
  · exact Or.inr (Or.inr (Or.inr (by omega)))
theorem RMc.q (R : RMc (PIM P) h P) {k : Nat} (hk1 : k < 8) (hk0 : 0 < k) : hi h (oM + 7) (35 + k) = nI (P 0 k) := by
  have := (R 0 k ⟨Or.inl ⟨rfl, hk1⟩, by omega⟩).2
  unfold mA at this
  rw [if_pos rfl, if_neg (by omega)] at this
  exact this
theorem RMc.q9 (R : RMc (PIM P) h P) : hi h (oM + 7) 43 = nI (P 9 1) := (R 9 1 ⟨Or.inr (Or.inr (Or.inr (Or.inr (Or.inr (Or.inr (Or.inr (Or.inr (Or.inr (Or.inl ⟨rfl, by decide⟩))))))))), by omega⟩).2
theorem RMc.q0 (R : RMc (PIM P) h P) : hi h (oM + 6) 4 = nI (P 0 0) := (R 0 0 ⟨Or.inl ⟨rfl, by decide⟩, by omega⟩).2
end
/-- what a LINE comes to in the model -/
def OutM (B : Nat → Int32) (n : Nat) (x : (Nat × Nat) ⊕ (Nat × PT)) (g : St) : Prop := (∃ p' P', x = .inr (p', P') ∧ MRd B n p' g ∧ RMc (PIM P') g P') ∨ ∃ e, x = .inl e ∧ MFl e g
section
variable {B : Nat → Int32} {n p : Nat} {h g : St} {P : PT}
noncomputable def SHouse : Sm Unit := dSeq (d3 (stI 13 idI) (dGR 12 18 (vR 0)) (d2 o_iadd (cI 32) (dCallV 12 DX12_hasRead (aI (aR aN 0 (vR 0)) 1 (cI 3)))) (dCallV 12 DX12_number_ (aI (aI (aL (aR aN 0 (vR 0)) 1 (cL 164222)) 3 (cI 0)) 4 (cI 20)))) (dDo (dCallV 12 DX12_tellsOf (aI (aI (aR aN 0 (vR 0)) 1 (cI 3)) 2 (d2 o_iadd (dCallV 12 DX12_hasRead (aI (aR aN 0 (vR 0)) 1 (cI 3))) (cI 1)))))
theorem ml_house (H : MRd B n (nxt B n p) h) (R : RMc (PIM P) h P) (hc : P 0 4 < 8) : ∃ g, SHouse (sR fr0 0 oM) h = some (.inl 0, sR fr0 0 oM, g) ∧ ML h g ∧ OutM B n (bHouse B n p P) g := by
  have hM := H.1.1.1
  have x0 := m_has hM (w := 3) (by decide)
  rw [show 36 + 3 = 35 + 4 by decide, R.q (k := 4) (by decide) (by decide)] at x0
  obtain ⟨g1, r, x1, c1, K1⟩ := mr_am H (lo := 0) (top := 21) (x := nI 20) (j := 5) (c := lN 164222) cdw_5.symm (by decide) (by decide) (by decide)
  have R1 := R.to c1 mT6
  have e5 : nI (P 0 4) + nI 1 = nI (P 0 4 + 1) := nI_add _ _
  have e6 : nI 32 + nI (P 0 4) = nI (32 + P 0 4) := nI_add _ _
  have c2 := mw_c g1 (o := 8) (by decide) (32 + P 0 4) r
  have l2 := ML.w g1 (o := 8) (j := 32 + P 0 4) (by decide) (by show 4 * 8 ≤ _; omega) r
  have hM2 : MS (wI g1 (oM + 8) (32 + P 0 4) r) oM := (hM.to c1.1).to c2.1
  have x2 := m_has hM2 (w := 3) (by decide)
  rw [show 36 + 3 = 35 + 4 by decide, w_ne (by omega), R1.q (k := 4) (by decide) (by decide)] at x2
  have x3 := m_tellsOf hM2 (w := 3) (by decide) (nI (P 0 4 + 1))
  have c3 := mw_c (wI g1 (oM + 8) (32 + P 0 4) r) (o := 7) (by decide) (36 + 3) (nI (P 0 4 + 1))
  have l3 := ML.w (wI g1 (oM + 8) (32 + P 0 4) r) (o := 7) (j := 36 + 3) (by decide) (by decide) (nI (P 0 4 + 1))
  refine ⟨_, ?_, ((ML.tm c1).tr l2).tr l3, ?_⟩
  · unfold SHouse
    simp (disch := omega) only [nI_n10, ob_t, ob_n, ob_ite, e_cI, e_cL, e_cR, e_vI, e_vL, e_vR, e_d2, e_d2_a, e_d2_b, e_d2z, e_d2z_a, e_d2z_b, e_d1, e_d1_a, e_GI, e_GI_a, e_GL, e_GL_a, e_GR, e_GR_a, e_AI, e_AI_a, e_AI_b, e_AB, e_AB_a, e_AB_b, e_AZ, e_AZ_a, e_AZ_b, e_AL, e_AL_a, e_AL_b, e_AR, e_AR_a, e_AR_b, e_Len, e_Len_a, e_CI, e_CI_a, e_CI_b, e_CZ, e_CZ_a, e_And, e_kAnd, e_Or, e_kOr, e_Not, e_kNot, e_B, e_kB, e_T, e_kT, e_NN, e_kNN, e_NewA, e_NewA_a, e_NewC, e_kNewC, e_aN, e_aI, e_aI_a, e_aI_b, e_aL, e_aL_a, e_aL_b, e_aR, e_aR_a, e_aR_b, e_Call, e_kCall, e_CallV, e_kCallV, e_SetI, e_kSetI, e_SetL, e_kSetL, e_SetR, e_kSetR, e_Inc, e_Skip, e_Brk, e_Cnt, e_Ret, e_kRet, e_Ret0, e_Seq, e_kSeq0, e_kSeq1, e_kSeq2, e_kSeqR, e_If, e_kIf, e_Do, e_kDo, e_Sup, e_kN0, e_d3, e_k3a, e_k3b, e_k3c, e_P, e_kPa, e_kPb, e_UA, e_kUAa, e_kUAb, e_kUAc, e_UL, e_kULa, e_kULb, e_kULc, e_UF, e_kUFa, e_kUFb, e_Cp, e_kCp, e_Sw, e_kSwa, e_kSwb0, e_kSwb1, e_kSwbR, e_M1, e_kM1, e_MZ, e_kMZ, e_MN, e_kMN, e_Tv, e_kTv, e_Tc, e_kTc, e_lpS, e_kLp, e_kLpB0, e_kLpB1, e_kLpB2, e_kLpBR, e_kLpU, e_dwS, e_kDwB0, e_kDwC, f_II, f_LL, f_RR, f_IL, f_IR, f_LI, f_LR, f_RI, f_RL, and_true, true_and, and_false, false_and, or_true, true_or, or_false, false_or, not_true_eq_false, not_false_eq_true, if_true, if_false, ite_self, Bool.not_true, Bool.not_false, Bool.false_eq_true, Bool.true_eq_false, decide_true, decide_false, ne_eq, reduceIte, Nat.reduceEqDiff, Option.some.injEq, Prod.mk.injEq, eq_self, r_lt, r_le, r_gt, r_ge, r_eq, r_ne, q_lt, q_le, q_gt, q_ge, q_eq, q_ne, decide_eq_true_eq, b01, b0, b1, o_iadd, o_imul, n_inb, nI_clamp, w_hr, w_hk, w_hl, w_eq, w_ne, wl_hr, wl_hk, wl_hi, wl_eq, wl_ne, stI, idI, fI, fL, f_ss, f_sR, f_sL, lc0, lc1, lc01, fa_lit, fa_litL, hM.k, hM.k1, hM.k2, hM.k3, hM.k4, hM.k5, hM.k6, hM.k7, hM.k8, hM.k9, hM.k10, hM.k11, hM.k12, hM.k13, hM.k14, hM.k15, hM.k16, hM.k17, hM.k18, hM.k19, hM.k20, hM.k21, hM.k22, hM.k23, hM.k24, hM.k25, hM.k26, hM.k27, hM.k28, hM.k29, hM.k30, hM.k31, hM.k32, hM.k33, hM.k34, hM.k35, hM.r1, hM.r2, hM.r3, hM.r4, hM.r5, hM.r16, hM.r17, hM.r18, hM.r19, hM.r20, hM.r21, hM.r22, hM.r23, hM.r24, hM.r25, hM.r26, hM.r31, hM.r32, hM.r33, hM.r34, hM.r35, hM.r36, hM.r37, hM.r38, hM.r39, hM.r40, hM.r41, hM.r42, hM.r43, hM.r44, hM.r47, hM.r48, hM.r49, hM.r50, hM.r54, x0, x1, x2, x3, c1.1.1, c1.1.2.1, e5, e6]
  · unfold bHouse
    obtain ⟨v, p', e1, rfl, K, -, hv⟩ | ⟨e, e1, K⟩ := K1
    · refine Or.inl ⟨p', _, by rw [e1, bnd_r], (K.to c2 mW0 mW5).to c3 mW0 mW5, ((R1.w (j := 1) (k := P 0 4) (Or.inr (Or.inl (by decide))) v).w (j := 0) (k := 4) (Or.inl (by decide)) (P 0 4 + 1)).mono ?_⟩
      rintro a b ⟨hz, h9⟩
      obtain y | y := pin_gen (P := P) (d4 := 1) (d5 := 0) (d6 := 0) (d7 := 0) (d9 := 0) (by simp [up]) (by simp [up]) (by simp [up]) (by simp [up]) (by simp [up]) (fun s _ => by simp [up]) hz
      · exact Or.inl (Or.inl ⟨y, h9⟩)
      · exact Or.inl (Or.inr (by omega))
    · exact Or.inr ⟨e, by rw [e1, bnd_l], (K.to c2 mW0).to c3 mW0⟩
end
