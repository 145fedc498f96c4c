set_option maxRecDepth 100000
set_option maxHeartbeats 4000000
/-! the law's own going through: what it stands on, a CARRY, a DAY -/
def tR (P C : PT) (tf : Nat → Nat) : Prop := tf 0 = P 0 1 ∧ tf 1 = C 0 0 ∧ tf 2 = P 0 4 ∧ tf 3 = P 0 6 ∧ tf 4 = P 0 7 ∧ tf 5 = P 9 1 ∧ tf 6 = C 0 3 ∧ tf 7 = C 0 2
def vR' (P : PT) (vf : Nat → Nat) : Prop := ∀ a, a < P 0 4 → vf a = P 1 a ∧ vf (8 + a) = doors P a 0
def zR (P : PT) (zf : Nat → Nat) : Prop := ∀ k, k < P 0 6 → zf (2 * k) = P 4 k ∧ zf (2 * k + 1) = P 5 k
def qR (P : PT) (qf : Nat → Nat) : Prop := ∀ k, k < P 9 1 → qf (4 * k) = P 10 k ∧ qf (4 * k + 1) = P 11 k ∧ qf (4 * k + 2) = P 12 k ∧ qf (4 * k + 3) = P 13 k
def fR' (P C : PT) (ff : Nat → Nat) : Prop := ∀ s, s < P 0 7 → ff s = fsS P C s ∧ ff (3 + s) = lf0 P s
def LRk (h : St) : Prop := hk h 130 = (13, 13) ∧ hk h 131 = (13, 13) ∧ hk h 132 = (16, 39) ∧ hk h 133 = (13, 16) ∧ hk h 134 = (13, 16)
def LR (h : St) (P C : PT) : Prop := (∃ tf, AR h 124 8 tf ∧ tR P C tf) ∧ (∃ vf, AR h 125 16 vf ∧ vR' P vf) ∧ (∃ zf, AR h 126 10 zf ∧ zR P zf) ∧ (∃ wf, AR h 127 21 wf ∧ WRel P wf) ∧ (∃ qf, AR h 128 64 qf ∧ qR P qf) ∧ (∃ ff, AR h 129 6 ff ∧ fR' P C ff) ∧ LRk h ∧ P 9 1 ≤ 16
theorem AR.ch {h g : St} {r n : Nat} {f : Nat → Nat} {D : Nat → Prop} (H : AR h r n f) (q : Ch D h g) (hd : ¬ D r) : AR g r n f := ⟨by rw [q.1.2.1]; exact H.1, fun k hk1 => by rw [(q.2 r hd).1]; exact H.2 k hk1⟩
theorem LR.ch {h g : St} {P C : PT} {D : Nat → Prop} (H : LR h P C) (q : Ch D h g) (hd : ∀ o, 124 ≤ o → o < 130 → ¬ D o) : LR g P C := by
  obtain ⟨⟨tf, a1, a2⟩, ⟨vf, b1, b2⟩, ⟨zf, c1, c2⟩, ⟨wf, d1, d2⟩, ⟨qf, e1, e2⟩, ⟨ff, f1, f2⟩, k, n⟩ := H
  refine ⟨⟨tf, a1.ch q (hd _ (by decide) (by decide)), a2⟩, ⟨vf, b1.ch q (hd _ (by decide) (by decide)), b2⟩, ⟨zf, c1.ch q (hd _ (by decide) (by decide)), c2⟩, ⟨wf, d1.ch q (hd _ (by decide) (by decide)), d2⟩, ⟨qf, e1.ch q (hd _ (by decide) (by decide)), e2⟩, ⟨ff, f1.ch q (hd _ (by decide) (by decide)), f2⟩, ?_, n⟩
  unfold LRk
  rw [q.1.2.1]
  exact k
def LRv (h : St) (P C : PT) : Prop := (hk h 124 = (13, 8) ∧ hi h 124 0 = nI (P 0 1) ∧ hi h 124 1 = nI (C 0 0) ∧ hi h 124 2 = nI (P 0 4) ∧ hi h 124 3 = nI (P 0 6) ∧ hi h 124 4 = nI (P 0 7) ∧ hi h 124 5 = nI (P 9 1) ∧ hi h 124 6 = nI (C 0 3) ∧ hi h 124 7 = nI (C 0 2)) ∧ (hk h 125 = (13, 16) ∧ ∀ a, a < P 0 4 → a < 8 → hi h 125 a = nI (P 1 a) ∧ hi h 125 (8 + a) = nI (doors P a 0)) ∧ (hk h 126 = (13, 10) ∧ ∀ k, k < P 0 6 → k < 5 → hi h 126 (2 * k) = nI (P 4 k) ∧ hi h 126 (2 * k + 1) = nI (P 5 k)) ∧ (hk h 128 = (13, 64) ∧ ∀ k, k < P 9 1 → hi h 128 (4 * k) = nI (P 10 k) ∧ hi h 128 (4 * k + 1) = nI (P 11 k) ∧ hi h 128 (4 * k + 2) = nI (P 12 k) ∧ hi h 128 (4 * k + 3) = nI (P 13 k)) ∧ (hk h 129 = (13, 6) ∧ ∀ s, s < P 0 7 → s < 3 → hi h 129 s = nI (fsS P C s) ∧ hi h 129 (3 + s) = nI (lf0 P s))
theorem LR.v {h : St} {P C : PT} (H : LR h P C) : LRv h P C := by
  obtain ⟨⟨tf, a1, z0, z1, z2, z3, z4, z5, z6, z7⟩, ⟨vf, b1, b2⟩, ⟨zf, c1, c2⟩, -, ⟨qf, e1, e2⟩, ⟨ff, f1, f2⟩, -, n⟩ := H
  refine ⟨⟨a1.1, ?_, ?_, ?_, ?_, ?_, ?_, ?_, ?_⟩, ⟨b1.1, fun a ha h8 => ?_⟩, ⟨c1.1, fun k hk1 h5 => ?_⟩, ⟨e1.1, fun k hk1 => ?_⟩, ⟨f1.1, fun s hs h3 => ?_⟩⟩
  · rw [a1.2 0 (by decide), z0]
  · rw [a1.2 1 (by decide), z1]
  · rw [a1.2 2 (by decide), z2]
  · rw [a1.2 3 (by decide), z3]
  · rw [a1.2 4 (by decide), z4]
  · rw [a1.2 5 (by decide), z5]
  · rw [a1.2 6 (by decide), z6]
  · rw [a1.2 7 (by decide), z7]
  · rw [b1.2 a (by omega), b1.2 (8 + a) (by omega), (b2 a ha).1, (b2 a ha).2]
    exact ⟨rfl, rfl⟩
  · rw [c1.2 (2 * k) (by omega), c1.2 (2 * k + 1) (by omega), (c2 k hk1).1, (c2 k hk1).2]
    exact ⟨rfl, rfl⟩
  · obtain ⟨y1, y2, y3, y4⟩ := e2 k hk1
    rw [e1.2 (4 * k) (by omega), e1.2 (4 * k + 1) (by omega), e1.2 (4 * k + 2) (by omega), e1.2 (4 * k + 3) (by omega), y1, y2, y3, y4]
    exact ⟨rfl, rfl, rfl, rfl⟩
  · rw [f1.2 s (by omega), f1.2 (3 + s) (by omega), (f2 s hs).1, (f2 s hs).2]
    exact ⟨rfl, rfl⟩
/-- a loop whose locals change too -/
theorem loop_a {α A : Type} {cn : Fr → Fr} {C : Cd} {B U : Sm α} {f : Fr} {h : St} (F : Nat → A → Fr) (I : Nat → A → St → Prop) (N : Nat) (a0 : A) (h0 : cn f = F 0 a0) (hI : I 0 a0 h) (h1 : ∀ k a g, k < N → I k a g → ∃ a' g', lpS cn C B U (F k a, g) = some (.inl (F (k + 1) a', g')) ∧ I (k + 1) a' g') (h2 : ∀ a g, I N a g → lpS cn C B U (F N a, g) = some (.inr (.inl 0, F N a, g))) : ∃ a g, (dLoop cn C B U : Sm α) f h = some (.inl 0, F N a, g) ∧ I N a g := by
  rw [e_Loop, h0]
  obtain ⟨b, e, a, g, rfl, q⟩ := iter_ind0 (B := lpS cn C B U) (s0 := (F 0 a0, h)) (fun k s => ∃ a g, s = (F k a, g) ∧ I k a g) (fun b => ∃ a g, b = (.inl 0, F N a, g) ∧ I N a g) N ⟨a0, h, rfl, hI⟩ (fun k s hk hs => by
    obtain ⟨a, g, rfl, q⟩ := hs
    obtain ⟨a', g', e, q'⟩ := h1 k a g hk q
    exact Or.inl ⟨_, e, a', g', rfl, q'⟩) (fun s hs => by
    obtain ⟨a, g, rfl, q⟩ := hs
    exact ⟨_, h2 a g q, a, g, rfl, q⟩)
  exact ⟨a, g, e, q⟩
def rF0 (e men sl : Nat) : Fr := sR (sR (sI (sI (sR (sR (sR (sR (sR (sR (sR (sR (sR (sR (sR fr0 0 124) 1 125) 2 126) 3 127) 4 128) 5 129) 6 130) 7 131) 8 132) 9 133) 10 134) 11 (nI men)) 12 (nI sl)) 13 e) 14 (e + 1)
def RJ (g : St) (P C S : PT) (e : Nat) (a : Nat × Nat × Nat) : Prop := LR g P C ∧ hk g e = (13, 3) ∧ hk g (e + 1) = (16, 3) ∧ PKm P S a.1 ∧ PKs P S a.2.1 ∧ PKg S a.2.2 ∧ (∀ s, s < P 0 7 → hi g e s = nI (S 5 s)) ∧ (∀ s, s < P 0 7 → ∃ n, hl g (e + 1) s = lN n ∧ PKk S s n) ∧ (∀ j, j < P 9 1 → hi g 133 j = nI (S 6 j)) ∧ WFS P S ∧ ∀ k, k < 6 → S 0 k = C 0 k
def rD5 (e : Nat) (o : Nat) : Prop := o = 133 ∨ o = 134 ∨ o = e ∨ o = e + 1
theorem x_mostD {h : St} {a b : Nat} (ha : a < 2 ^ 20) (hb : b < 2 ^ 20) : DL_most (sI (sI fr0 0 (nI 0)) 1 (nI a - nI b)) h = some (nI (a - b), h) := by
  by_cases z : b ≤ a
  · rw [pk_sub z]
    have := x_most 0 (a - b) (h := h) (by decide) (by omega)
    rw [Nat.zero_max] at this
    exact this
  · have e : (nI 0 > nI a - nI b) = True := by
      refine eq_true ?_
      show nI a - nI b < nI 0
      rw [fa_lt, pk_sub_toInt (by omega) (by omega)]
      have : (nI 0).toInt = 0 := by decide
      rw [this]
      omega
    rw [show a - b = 0 by omega]
    simp (maxSteps := 4000000) (disch := omega) only [ob_t, ob_n, ob_ite, e_cI, e_cL, e_cR, e_vI, e_vL, e_vR, e_d2, e_d2_a, e_d2_b, e_d2z, e_d2z_a, e_d2z_b, e_d1, e_d1_a, e_GI, e_GI_a, e_GL, e_GL_a, e_GR, e_GR_a, e_AI, e_AI_a, e_AI_b, e_AB, e_AB_a, e_AB_b, e_AZ, e_AZ_a, e_AZ_b, e_AL, e_AL_a, e_AL_b, e_AR, e_AR_a, e_AR_b, e_Len, e_Len_a, e_CI, e_CI_a, e_CI_b, e_CZ, e_CZ_a, e_And, e_kAnd, e_Or, e_kOr, e_Not, e_kNot, e_B, e_kB, e_T, e_kT, e_NN, e_kNN, e_NewA, e_NewA_a, e_NewC, e_kNewC, e_aN, e_aI, e_aI_a, e_aI_b, e_aL, e_aL_a, e_aL_b, e_aR, e_aR_a, e_aR_b, e_Call, e_kCall, e_CallV, e_kCallV, e_SetI, e_kSetI, e_SetL, e_kSetL, e_SetR, e_kSetR, e_Inc, e_Skip, e_Brk, e_Cnt, e_Ret, e_kRet, e_Ret0, e_Seq, e_kSeq0, e_kSeq1, e_kSeq2, e_kSeqR, e_If, e_kIf, e_Do, e_kDo, e_Sup, e_kN0, e_d3, e_k3a, e_k3b, e_k3c, e_P, e_kPa, e_kPb, e_UA, e_kUAa, e_kUAb, e_kUAc, e_UL, e_kULa, e_kULb, e_kULc, e_UF, e_kUFa, e_kUFb, e_Cp, e_kCp, e_Sw, e_kSwa, e_kSwb0, e_kSwb1, e_kSwbR, e_M1, e_kM1, e_MZ, e_kMZ, e_MN, e_kMN, e_Tv, e_kTv, e_Tc, e_kTc, e_lpS, e_kLp, e_kLpB0, e_kLpB1, e_kLpB2, e_kLpBR, e_kLpU, e_dwS, e_kDwB0, e_kDwC, f_II, f_LL, f_RR, f_IL, f_IR, f_LI, f_LR, f_RI, f_RL, o_iadd, o_isub, o_imul, o_iand, o_ior, o_ixor, o_ladd, o_lsub, o_lmul, o_land, o_lor, o_i2b, o_i2s, o_lneg, o_imax, o_imin, r_lt, r_le, r_gt, r_ge, r_eq, r_ne, q_lt, q_le, q_gt, q_ge, q_eq, q_ne, decide_eq_true_eq, idI, and_true, true_and, and_false, false_and, or_true, true_or, or_false, false_or, not_true_eq_false, not_false_eq_true, if_true, if_false, ite_self, Bool.not_true, Bool.not_false, Bool.false_eq_true, Bool.true_eq_false, decide_true, decide_false, ne_eq, reduceIte, Nat.reduceEqDiff, Option.some.injEq, Prod.mk.injEq, eq_self, n_inb, nI_clamp, w_hr, w_hk, w_hl, w_eq, w_ne, wl_hr, wl_hk, wl_hi, wl_eq, wl_ne, fa_lit, fa_litL, nI_add, pk_mul, nI_ltI, nI_leI, nI_eq, b01, b0, b1, Nat.reduceLeDiff, Nat.reduceAdd, Nat.reduceMul, Nat.reduceSub, Nat.lt_irrefl, Nat.reduceLT, f_ss, f_sR, f_sL, lc0, lc1, lc01, stI, stL, DL_most, BL_most, e]
theorem bit_div (n i : Nat) : n / 2 ^ i % 2 = if n.testBit i = true then 1 else 0 := by
  have e : (n.testBit i = true) = (n / 2 ^ i % 2 = 1) := by rw [Nat.testBit_eq_decide_div_mod_eq, decide_eq_true_eq]
  by_cases z : n.testBit i = true
  · rw [if_pos z]; rw [e] at z; exact z
  · rw [if_neg z]; rw [e] at z; omega
theorem WFS_keep {P S : PT} (hW : WFP P) (hS : WFS P S) {i : Nat} (hi1 : i < P 9 1) (d : Nat) : WFS P (stepS P S d i) := hS.step hW hi1 d
theorem stepS_0 (P S : PT) (d i k : Nat) (hk1 : k < 6) : stepS P S d i 0 k = S 0 k := by
  unfold stepS
  by_cases y : P 13 i = d
  · rw [if_pos y]
    by_cases z : hinS P S i = 0
    · rw [if_pos z, car0 _ _ _ _ _ hk1]
      unfold up
      rw [if_neg (by omega)]
    · rw [if_neg z]
      unfold up
      rw [if_neg (by omega)]
  · rw [if_neg y]
theorem lp_out {α : Type} {cn : Fr → Fr} {C : Cd} {B U : Sm α} {f : Fr} {h : St} (hc : C f h = some (false, h)) : lpS cn C B U (f, h) = some (.inr (.inl 0, f, h)) := by
  rw [e_lpS, hc, ob_t, e_kLp, if_neg (by decide)]
theorem lp_in {α : Type} {cn : Fr → Fr} {C : Cd} {B U : Sm α} {f : Fr} {h h1 : St} (hc : C f h = some (true, h1)) : lpS cn C B U (f, h) = ob (B f h1) (kLpB cn U) := by
  rw [e_lpS, hc, ob_t, e_kLp, if_pos rfl]
/-- what a CARRY that is done changes -/
def l1C (P T : PT) (i : Nat) (b : Bool) : Nat := if b = true then rubL P (P 11 i) (T 3 (P 11 i)) 1 else T 3 (P 11 i)
def l2C (P T : PT) (i : Nat) (b : Bool) : Nat := if (T 5 (P 11 i)).testBit (P 12 i) = true then l1C P T i b else rubL P (P 11 i) (l1C P T i b) (T 0 0)
theorem or_2 (a x : Nat) (h : a.testBit x = true) : a ||| 2 ^ x = a := by
  refine Nat.eq_of_testBit_eq fun j => ?_
  rw [Nat.testBit_or, bit_pw]
  by_cases z : j = x
  · subst z; rw [h]; rfl
  · rw [decide_eq_false z, Bool.or_false]
theorem car_is (P T : PT) (i : Nat) (b : Bool) : (∀ j, carS P (up T 6 i 0) i b 1 j = if j = P 10 i then P 12 i else T 1 j) ∧ (∀ j, carS P (up T 6 i 0) i b 2 j = if j = P 11 i then P 12 i else T 2 j) ∧ (∀ j, carS P (up T 6 i 0) i b 3 j = if j = P 11 i then l2C P T i b else T 3 j) ∧ (∀ k, carS P (up T 6 i 0) i b 4 k = if k = 8 * P 11 i + P 12 i then T 4 k ||| l1C P T i b else T 4 k) ∧ (∀ j, carS P (up T 6 i 0) i b 5 j = if j = P 11 i then T 5 j ||| 2 ^ P 12 i else T 5 j) ∧ (∀ j, carS P (up T 6 i 0) i b 6 j = if j = i then 0 else T 6 j) ∧ carS P (up T 6 i 0) i b 0 6 = (T 0 6 ||| 2 ^ P 10 i) ∧ carS P (up T 6 i 0) i b 0 7 = (T 0 7 ||| 2 ^ P 11 i) := by
  have u3 : ∀ k, up T 6 i 0 3 k = T 3 k := fun k => by unfold up; rw [if_neg (by omega)]
  have u5 : ∀ k, up T 6 i 0 5 k = T 5 k := fun k => by unfold up; rw [if_neg (by omega)]
  have u4 : ∀ k, up T 6 i 0 4 k = T 4 k := fun k => by unfold up; rw [if_neg (by omega)]
  have u0 : ∀ k, up T 6 i 0 0 k = T 0 k := fun k => by unfold up; rw [if_neg (by omega)]
  have ew : wetS P (up T 6 i 0) (P 11 i) b = l1C P T i b := by
    unfold wetS l1C
    rw [u3]
  by_cases z : (T 5 (P 11 i)).testBit (P 12 i) = true
  · have e2 : l2C P T i b = l1C P T i b := if_pos z
    have ec : carS P (up T 6 i 0) i b = up (up (outS P (up T 6 i 0) i) 4 (8 * P 11 i + P 12 i) (T 4 (8 * P 11 i + P 12 i) ||| l1C P T i b)) 3 (P 11 i) (l1C P T i b) := by
      unfold carS
      rw [u5, if_pos z, u4, ew]
    rw [ec, e2]
    refine ⟨fun j => ?_, fun j => ?_, fun j => ?_, fun j => ?_, fun j => ?_, fun j => ?_, ?_, ?_⟩
    · simp [outS, up]
    · simp [outS, up]
    · simp [outS, up]
    · by_cases y : j = 8 * P 11 i + P 12 i
      · subst y; simp [outS, up]
      · simp [outS, up, y]
    · by_cases y : j = P 11 i
      · subst y; simp [outS, up, or_2 _ _ z]
      · simp [outS, up, y]
    · simp [outS, up]
    · simp [outS, up]
    · simp [outS, up]
  · have e2 : l2C P T i b = rubL P (P 11 i) (l1C P T i b) (T 0 0) := if_neg z
    have ec : carS P (up T 6 i 0) i b = up (up (up (outS P (up T 6 i 0) i) 4 (8 * P 11 i + P 12 i) (T 4 (8 * P 11 i + P 12 i) ||| l1C P T i b)) 5 (P 11 i) (T 5 (P 11 i) ||| 2 ^ P 12 i)) 3 (P 11 i) (rubL P (P 11 i) (l1C P T i b) (T 0 0)) := by
      unfold carS
      rw [u5, if_neg z, u4, ew, u0]
    rw [ec, e2]
    refine ⟨fun j => ?_, fun j => ?_, fun j => ?_, fun j => ?_, fun j => ?_, fun j => ?_, ?_, ?_⟩
    · simp [outS, up]
    · simp [outS, up]
    · simp [outS, up]
    · by_cases y : j = 8 * P 11 i + P 12 i
      · subst y; simp [outS, up]
      · simp [outS, up, y]
    · by_cases y : j = P 11 i
      · subst y; simp [outS, up]
      · simp [outS, up, y]
    · simp [outS, up]
    · simp [outS, up]
    · simp [outS, up]
