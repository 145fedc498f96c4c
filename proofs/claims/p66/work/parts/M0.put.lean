set_option maxRecDepth 100000
set_option maxHeartbeats 2000000
/-! the text: a byte put -/
def pkN (a : Nat) (f : Nat → Nat) : Nat → Nat
  | 0 => a
  | k + 1 => pkN a f k * 256 + f k
theorem pkN_c {a : Nat} {f g : Nat → Nat} : ∀ k, (∀ i, i < k → f i = g i) → pkN a f k = pkN a g k
  | 0, _ => rfl
  | k + 1, h => by
    show pkN a f k * 256 + f k = pkN a g k * 256 + g k
    rw [pkN_c k (fun i hi1 => h i (by omega)), h k (by omega)]
theorem nI_mod (a n : Nat) : nI (a * 4294967296 + n) = nI n := by
  apply Int32.toBitVec_inj.mp
  apply BitVec.eq_of_toNat_eq
  show (BitVec.ofNat 32 (a * 4294967296 + n)).toNat = (BitVec.ofNat 32 n).toNat
  rw [BitVec.toNat_ofNat, BitVec.toNat_ofNat]
  omega
theorem n_32 (n : Nat) : nI n = nI (n % 4294967296) := by
  have := nI_mod (n / 4294967296) (n % 4294967296)
  rw [show n / 4294967296 * 4294967296 + n % 4294967296 = n by omega] at this
  exact this
theorem q_shl8 (n : Nat) : o_ishl (nI n) (nI 8) = nI (n * 256) := by
  rw [n_32 n]
  unfold o_ishl
  apply Int32.toBitVec_inj.mp
  rw [Int32.toBitVec_shiftLeft]
  apply BitVec.eq_of_toNat_eq
  have e : ((nI 8 &&& 31).toBitVec.smod 32) = BitVec.ofNat 32 8 := by decide
  rw [e, BitVec.shiftLeft_eq', BitVec.toNat_shiftLeft]
  show ((BitVec.ofNat 32 (n % 4294967296)).toNat <<< (BitVec.ofNat 32 8).toNat) % 2 ^ 32 = (BitVec.ofNat 32 (n * 256)).toNat
  rw [BitVec.toNat_ofNat, BitVec.toNat_ofNat, BitVec.toNat_ofNat, Nat.shiftLeft_eq, show (8 : Nat) % 2 ^ 32 = 8 by decide, show (2 : Nat) ^ 8 = 256 by decide]
  omega
theorem q_byte (X b : Nat) (hb : b < 256) : o_ishl (nI X) (nI 8) ||| nI b = nI (X * 256 + b) := by
  rw [q_shl8, fa_or]
  have := n_or2 (a := b) (b := X) (k := 8) hb
  rw [Nat.or_comm, show X * 256 = X * 2 ^ 8 by omega, this]
  congr 1
  omega
theorem nB_s : ∀ x, x < 128 → nB (nI x) = nI x := by decide +kernel
theorem i2b_s {M : Nat} (h : M % 256 < 128) : o_i2b (nI M) = nI (M % 256) := by
  unfold o_i2b
  have e1 := fa_byte_low (nI M)
  have e2 : nI M &&& 255 = nI (M % 256) := fa_mask M 8
  rw [e2] at e1
  rw [← e1]
  exact fa_byte_small h
theorem bt_pk {a : Nat} {f : Nat → Nat} (hf : ∀ i, i < 4 → f i < 128) : ∀ k, k < 4 → btE (nI (pkN a f 4)) k = nI (f k) := by
  have h0 := hf 0 (by decide)
  have h1 := hf 1 (by decide)
  have h2 := hf 2 (by decide)
  have h3 := hf 3 (by decide)
  have e : pkN a f 4 = a * 4294967296 + (((f 0 * 256 + f 1) * 256 + f 2) * 256 + f 3) := by
    show (((a * 256 + f 0) * 256 + f 1) * 256 + f 2) * 256 + f 3 = _
    omega
  rw [e, nI_mod]
  intro k hk1
  unfold btE
  match k, hk1 with
  | 0, _ =>
    rw [show shN 0 = nI 24 by rfl, q_ishr (by decide) (by omega), i2b_s (by omega), nB_s _ (by omega)]
    congr 1
    omega
  | 1, _ =>
    rw [show shN 1 = nI 16 by rfl, q_ishr (by decide) (by omega), i2b_s (by omega), nB_s _ (by omega)]
    congr 1
    omega
  | 2, _ =>
    rw [show shN 2 = nI 8 by rfl, q_ishr (by decide) (by omega), i2b_s (by omega), nB_s _ (by omega)]
    congr 1
    omega
  | 3, _ =>
    rw [show shN 3 = nI 0 by rfl, q_ishr (by decide) (by omega), i2b_s (by omega), nB_s _ (by omega)]
    congr 1
    omega
def TXS (h : St) (l : List Nat) : Prop := l.length ≤ 800 ∧ hk h 122 = (13, 8) ∧ hi h 122 5 = nI (l.length % 20) ∧ hi h 32 1 = nI (l.length - l.length % 20) ∧ (∀ j, j < l.length - l.length % 20 → hi h 33 j = nI (l.getD j 0)) ∧ (∀ j, j < 5 → ∃ a, hi h 122 j = nI (pkN a (fun i => l.getD (l.length - l.length % 20 + 4 * j + i) 0) (min 4 (l.length % 20 - 4 * j)))) ∧ ∀ k, k < l.length → l.getD k 0 < 128
def pD (o : Nat) : Prop := 31 ≤ o ∧ o < 123
theorem gd_l {l : List Nat} {b j : Nat} (h : j < l.length) : (l ++ [b]).getD j 0 = l.getD j 0 := by
  rw [List.getD_eq_getElem?_getD, List.getD_eq_getElem?_getD, List.getElem?_append_left h]
theorem gd_r {l : List Nat} {b j : Nat} (h : j = l.length) : (l ++ [b]).getD j 0 = b := by
  subst h
  rw [List.getD_eq_getElem?_getD, List.getElem?_append_right (Nat.le_refl _), Nat.sub_self]
  rfl
section
variable {W h g : St} {P : PT} {l : List Nat} {b : Nat}
theorem x_lput (H : Inv W h P) (T : TXS h l) (hl : l.length < 800) (hb : b < 128) : ∃ g, DL_put (sI (sR (sR fr0 0 31) 1 122) 2 (nI b)) h = some ((), g) ∧ TXS g (l ++ [b]) ∧ Inv g g P ∧ Ch pD h g := by
  obtain ⟨t1, t2, t3, t4, t5, t6, t7⟩ := T
  obtain ⟨n, en⟩ : ∃ n, n = l.length := ⟨_, rfl⟩
  have eln : (l ++ [b]).length = n + 1 := by rw [List.length_append, List.length_singleton, en]
  rw [← en] at hl t1 t3 t4 t5 t6 t7
  obtain ⟨r, er⟩ : ∃ r, r = n % 20 := ⟨_, rfl⟩
  rw [← er] at t3 t4 t5 t6
  have hr20 : r < 20 := by omega
  obtain ⟨a, ea⟩ := t6 (r / 4) (by omega)
  obtain ⟨X, eX⟩ : ∃ X, X = pkN a (fun i => l.getD (n - r + 4 * (r / 4) + i) 0) (min 4 (r - 4 * (r / 4))) := ⟨_, rfl⟩
  rw [← eX] at ea
  have c4 : min 4 (r - 4 * (r / 4)) = r % 4 := by omega
  have d1 : o_idiv (nI r) (nI 4) = nI (r / 4) := q_idiv (by omega) (by decide) (by decide)
  have p1 := q_byte X b (by omega)
  have x8 : hk h 122 = (13, 8) := t2
  have old : ∀ k, k < n → (l ++ [b]).getD k 0 = l.getD k 0 := fun k hk1 => gd_l (by rw [← en]; exact hk1)
  have new : (l ++ [b]).getD n 0 = b := gd_r en
  have small : ∀ k, k < n + 1 → (l ++ [b]).getD k 0 < 128 := fun k hk1 => by
    by_cases y : k = n
    · rw [y, new]; exact hb
    · rw [old k (by omega)]; exact t7 k (by omega)
  have L1 : Lw h (wI (wI h 122 (r / 4) (nI (X * 256 + b))) 122 5 (nI (r + 1))) := (Lw.wI (by decide) _ _).tr (Lw.wI (by decide) _ _)
  have C1 : Ch pD h (wI (wI h 122 (r / 4) (nI (X * 256 + b))) 122 5 (nI (r + 1))) := (Ch.w (D := pD) (by unfold pD; omega) h _ _).tr (Ch.w (D := pD) (by unfold pD; omega) _ _ _)
  have H1 := H.lw L1
  by_cases z : r + 1 < 20
  · refine ⟨wI (wI h 122 (r / 4) (nI (X * 256 + b))) 122 5 (nI (r + 1)), ?_, ?_, H1, C1⟩
    · simp (maxSteps := 4000000) (disch := omega) only [ob_t, ob_n, ob_ite, e_cI, e_cL, e_cR, e_vI, e_vL, e_vR, e_d2, e_d2_a, e_d2_b, e_d2z, e_d2z_a, e_d2z_b, e_d1, e_d1_a, e_GI, e_GI_a, e_GL, e_GL_a, e_GR, e_GR_a, e_AI, e_AI_a, e_AI_b, e_AB, e_AB_a, e_AB_b, e_AZ, e_AZ_a, e_AZ_b, e_AL, e_AL_a, e_AL_b, e_AR, e_AR_a, e_AR_b, e_Len, e_Len_a, e_CI, e_CI_a, e_CI_b, e_CZ, e_CZ_a, e_And, e_kAnd, e_Or, e_kOr, e_Not, e_kNot, e_B, e_kB, e_T, e_kT, e_NN, e_kNN, e_NewA, e_NewA_a, e_NewC, e_kNewC, e_aN, e_aI, e_aI_a, e_aI_b, e_aL, e_aL_a, e_aL_b, e_aR, e_aR_a, e_aR_b, e_Call, e_kCall, e_CallV, e_kCallV, e_SetI, e_kSetI, e_SetL, e_kSetL, e_SetR, e_kSetR, e_Inc, e_Skip, e_Brk, e_Cnt, e_Ret, e_kRet, e_Ret0, e_Seq, e_kSeq0, e_kSeq1, e_kSeq2, e_kSeqR, e_If, e_kIf, e_Do, e_kDo, e_Sup, e_kN0, e_d3, e_k3a, e_k3b, e_k3c, e_P, e_kPa, e_kPb, e_UA, e_kUAa, e_kUAb, e_kUAc, e_UL, e_kULa, e_kULb, e_kULc, e_UF, e_kUFa, e_kUFb, e_Cp, e_kCp, e_Sw, e_kSwa, e_kSwb0, e_kSwb1, e_kSwbR, e_M1, e_kM1, e_MZ, e_kMZ, e_MN, e_kMN, e_Tv, e_kTv, e_Tc, e_kTc, e_lpS, e_kLp, e_kLpB0, e_kLpB1, e_kLpB2, e_kLpBR, e_kLpU, e_dwS, e_kDwB0, e_kDwC, f_II, f_LL, f_RR, f_IL, f_IR, f_LI, f_LR, f_RI, f_RL, o_iadd, o_isub, o_imul, o_iand, o_ior, o_ixor, o_ladd, o_lsub, o_lmul, o_land, o_lor, o_i2b, o_i2s, o_lneg, o_imax, o_imin, r_lt, r_le, r_gt, r_ge, r_eq, r_ne, q_lt, q_le, q_gt, q_ge, q_eq, q_ne, decide_eq_true_eq, idI, and_true, true_and, and_false, false_and, or_true, true_or, or_false, false_or, not_true_eq_false, not_false_eq_true, if_true, if_false, ite_self, Bool.not_true, Bool.not_false, Bool.false_eq_true, Bool.true_eq_false, decide_true, decide_false, ne_eq, reduceIte, Nat.reduceEqDiff, Option.some.injEq, Prod.mk.injEq, eq_self, n_inb, nI_clamp, w_hr, w_hk, w_hl, w_eq, w_ne, wl_hr, wl_hk, wl_hi, wl_eq, wl_ne, fa_lit, fa_litL, nI_add, pk_mul, nI_ltI, nI_leI, nI_eq, b01, b0, b1, Nat.reduceLeDiff, Nat.reduceAdd, Nat.reduceMul, Nat.reduceSub, Nat.lt_irrefl, Nat.reduceLT, f_ss, f_sR, f_sL, lc0, lc1, lc01, stI, stL, DL_put, BL_put, t3, x8, d1, ea, p1, z]
    · unfold TXS
      rw [eln]
      have e1 : (n + 1) % 20 = r + 1 := by omega
      have e2 : n + 1 - (n + 1) % 20 = n - r := by omega
      rw [e2, e1]
      refine ⟨by omega, t2, w_eq _ _ _ _, ?_, fun j hj => ?_, fun j hj => ?_, small⟩
      · rw [w_ne (by omega), w_ne (by omega)]; exact t4
      · rw [w_ne (by omega), w_ne (by omega), old j (by omega)]; exact t5 j hj
      · by_cases y : j = r / 4
        · subst y
          refine ⟨a, ?_⟩
          rw [w_ne (by omega), w_eq, show min 4 (r + 1 - 4 * (r / 4)) = r % 4 + 1 by omega]
          congr 1
          show X * 256 + b = pkN a _ (r % 4) * 256 + (l ++ [b]).getD (n - r + 4 * (r / 4) + r % 4) 0
          rw [show n - r + 4 * (r / 4) + r % 4 = n by omega, new, eX, c4]
          congr 2
          exact pkN_c _ (fun i hi1 => (old _ (by omega)).symm)
        · obtain ⟨a', ea'⟩ := t6 j hj
          refine ⟨a', ?_⟩
          rw [w_ne (by omega), w_ne (by omega), ea', show min 4 (r + 1 - 4 * j) = min 4 (r - 4 * j) by omega]
          congr 1
          exact pkN_c _ (fun i hi1 => (old _ (by omega)).symm)
  · have r19 : r = 19 := by omega
    subst r19
    obtain ⟨a0, e0⟩ := t6 0 (by decide)
    obtain ⟨a1, e1⟩ := t6 1 (by decide)
    obtain ⟨a2, e2⟩ := t6 2 (by decide)
    obtain ⟨a3, e3⟩ := t6 3 (by decide)
    have ea4 : hi h 122 4 = nI X := ea
    obtain ⟨h1, hh1⟩ : ∃ x, x = wI (wI h 122 4 (nI (X * 256 + b))) 122 5 (nI 20) := ⟨_, rfl⟩
    have H1' : Inv h1 h1 P := by rw [hh1]; exact H1
    have s1 : hi h1 32 1 = nI (n - 19) := by rw [hh1, w_ne (by omega), w_ne (by omega)]; exact t4
    have k1 : hk h1 122 = (13, 8) := by rw [hh1]; exact t2
    have m0 : hi h1 122 0 = nI (pkN a0 (fun i => l.getD (n - 19 + 4 * 0 + i) 0) 4) := by rw [hh1, w_ne (by omega), w_ne (by omega)]; exact e0
    have m1 : hi h1 122 1 = nI (pkN a1 (fun i => l.getD (n - 19 + 4 * 1 + i) 0) 4) := by rw [hh1, w_ne (by omega), w_ne (by omega)]; exact e1
    have m2 : hi h1 122 2 = nI (pkN a2 (fun i => l.getD (n - 19 + 4 * 2 + i) 0) 4) := by rw [hh1, w_ne (by omega), w_ne (by omega)]; exact e2
    have m3 : hi h1 122 3 = nI (pkN a3 (fun i => l.getD (n - 19 + 4 * 3 + i) 0) 4) := by rw [hh1, w_ne (by omega), w_ne (by omega)]; exact e3
    have m4 : hi h1 122 4 = nI (X * 256 + b) := by rw [hh1, w_ne (by omega), w_eq]
    have m5 : hi h1 122 5 = nI 20 := by rw [hh1, w_eq]
    have x4 : X * 256 + b = pkN a (fun i => (l ++ [b]).getD (n - 19 + 4 * 4 + i) 0) 4 := by
      show _ = pkN a _ 3 * 256 + (l ++ [b]).getD (n - 19 + 4 * 4 + 3) 0
      rw [show n - 19 + 4 * 4 + 3 = n by omega, new, eX, show min 4 (19 - 4 * (19 / 4)) = 3 by decide]
      congr 2
      exact pkN_c _ (fun i hi1 => (old _ (by omega)).symm)
    obtain ⟨v0, ev0⟩ : ∃ v, v = nI (pkN a0 (fun i => l.getD (n - 19 + 4 * 0 + i) 0) 4) := ⟨_, rfl⟩
    obtain ⟨v1, ev1⟩ : ∃ v, v = nI (pkN a1 (fun i => l.getD (n - 19 + 4 * 1 + i) 0) 4) := ⟨_, rfl⟩
    obtain ⟨v2, ev2⟩ : ∃ v, v = nI (pkN a2 (fun i => l.getD (n - 19 + 4 * 2 + i) 0) 4) := ⟨_, rfl⟩
    obtain ⟨v3, ev3⟩ : ∃ v, v = nI (pkN a3 (fun i => l.getD (n - 19 + 4 * 3 + i) 0) 4) := ⟨_, rfl⟩
    obtain ⟨v4, ev4⟩ : ∃ v, v = nI (X * 256 + b) := ⟨_, rfl⟩
    rw [← ev0] at m0
    rw [← ev1] at m1
    rw [← ev2] at m2
    rw [← ev3] at m3
    rw [← ev4] at m4
    obtain ⟨g1, f1, f2, f3, f4⟩ := c_feed H1' v0 v1 v2 v3 v4 (n := n - 19) (by omega) s1
    have s12 := f2.s
    have cn := f2.cn.2
    have k2 : hk g1 122 = (13, 8) := by rw [s12.2.1]; exact k1
    have kX : hk h1 31 = (11, 0) := H1'.co.koX
    obtain ⟨g, hg⟩ : ∃ x, x = wI (wI g1 122 6 (nI (n - 19 + 20))) 122 5 (nI 0) := ⟨_, rfl⟩
    have C2 : Ch pD h g := by
      have q1 : Ch pD h h1 := by rw [hh1]; exact C1
      have q2 : Ch pD h1 g1 := ⟨s12, fun o ho => cn o (fun y => ho (by unfold pD; omega))⟩
      have q3 : Ch pD g1 g := by
        rw [hg]
        exact (Ch.w (D := pD) (by unfold pD; omega) g1 _ _).tr (Ch.w (D := pD) (by unfold pD; omega) _ _ _)
      exact (q1.tr q2).tr q3
    have Lg : Lw g1 g := by rw [hg]; exact (Lw.wI (by decide) _ _).tr (Lw.wI (by decide) _ _)
    refine ⟨g, ?_, ?_, f2.lw Lg, C2⟩
    · have f1' : DX11_feed (sI (sI (sI (sI (sI (sR fr0 0 31) 1 v0) 2 v1) 3 v2) 4 v3) 5 v4) h1 = some (nI (n - 19 + 20), g1) := f1
      rw [hg]
      obtain ⟨Y, eY⟩ : ∃ Y : Sm Unit, Y = (dSeq (d3 (stI 13 idI) (vR 1) (cI 6) (dCallV 11 DX11_feed (aI (aI (aI (aI (aI (aR aN 0 (vR 0)) 1 (dAI (vR 1) (cI 0))) 2 (dAI (vR 1) (cI 1))) 3 (dAI (vR 1) (cI 2))) 4 (dAI (vR 1) (cI 3))) 5 (dAI (vR 1) (cI 4))))) (dSeq (d3 (stI 13 idI) (vR 1) (cI 5) (cI 0)) dRet0)) := ⟨_, rfl⟩
      have Y1 : Y (sI (sR (sR fr0 0 31) 1 122) 2 (nI b)) h1 = some (.inr (), sI (sR (sR fr0 0 31) 1 122) 2 (nI b), wI (wI g1 122 6 (nI (n - 19 + 20))) 122 5 (nI 0)) := by
        rw [eY]
        simp (maxSteps := 4000000) (disch := omega) only [ob_t, ob_n, ob_ite, e_cI, e_cL, e_cR, e_vI, e_vL, e_vR, e_d2, e_d2_a, e_d2_b, e_d2z, e_d2z_a, e_d2z_b, e_d1, e_d1_a, e_GI, e_GI_a, e_GL, e_GL_a, e_GR, e_GR_a, e_AI, e_AI_a, e_AI_b, e_AB, e_AB_a, e_AB_b, e_AZ, e_AZ_a, e_AZ_b, e_AL, e_AL_a, e_AL_b, e_AR, e_AR_a, e_AR_b, e_Len, e_Len_a, e_CI, e_CI_a, e_CI_b, e_CZ, e_CZ_a, e_And, e_kAnd, e_Or, e_kOr, e_Not, e_kNot, e_B, e_kB, e_T, e_kT, e_NN, e_kNN, e_NewA, e_NewA_a, e_NewC, e_kNewC, e_aN, e_aI, e_aI_a, e_aI_b, e_aL, e_aL_a, e_aL_b, e_aR, e_aR_a, e_aR_b, e_Call, e_kCall, e_CallV, e_kCallV, e_SetI, e_kSetI, e_SetL, e_kSetL, e_SetR, e_kSetR, e_Inc, e_Skip, e_Brk, e_Cnt, e_Ret, e_kRet, e_Ret0, e_Seq, e_kSeq0, e_kSeq1, e_kSeq2, e_kSeqR, e_If, e_kIf, e_Do, e_kDo, e_Sup, e_kN0, e_d3, e_k3a, e_k3b, e_k3c, e_P, e_kPa, e_kPb, e_UA, e_kUAa, e_kUAb, e_kUAc, e_UL, e_kULa, e_kULb, e_kULc, e_UF, e_kUFa, e_kUFb, e_Cp, e_kCp, e_Sw, e_kSwa, e_kSwb0, e_kSwb1, e_kSwbR, e_M1, e_kM1, e_MZ, e_kMZ, e_MN, e_kMN, e_Tv, e_kTv, e_Tc, e_kTc, e_lpS, e_kLp, e_kLpB0, e_kLpB1, e_kLpB2, e_kLpBR, e_kLpU, e_dwS, e_kDwB0, e_kDwC, f_II, f_LL, f_RR, f_IL, f_IR, f_LI, f_LR, f_RI, f_RL, o_iadd, o_isub, o_imul, o_iand, o_ior, o_ixor, o_ladd, o_lsub, o_lmul, o_land, o_lor, o_i2b, o_i2s, o_lneg, o_imax, o_imin, r_lt, r_le, r_gt, r_ge, r_eq, r_ne, q_lt, q_le, q_gt, q_ge, q_eq, q_ne, decide_eq_true_eq, idI, and_true, true_and, and_false, false_and, or_true, true_or, or_false, false_or, not_true_eq_false, not_false_eq_true, if_true, if_false, ite_self, Bool.not_true, Bool.not_false, Bool.false_eq_true, Bool.true_eq_false, decide_true, decide_false, ne_eq, reduceIte, Nat.reduceEqDiff, Option.some.injEq, Prod.mk.injEq, eq_self, n_inb, nI_clamp, w_hr, w_hk, w_hl, w_eq, w_ne, wl_hr, wl_hk, wl_hi, wl_eq, wl_ne, fa_lit, fa_litL, nI_add, pk_mul, nI_ltI, nI_leI, nI_eq, b01, b0, b1, Nat.reduceLeDiff, Nat.reduceAdd, Nat.reduceMul, Nat.reduceSub, Nat.lt_irrefl, Nat.reduceLT, f_ss, f_sR, f_sL, lc0, lc1, lc01, stI, stL, k1, k2, kX, m0, m1, m2, m3, m4, f1']
      have eB : BL_put = dSeq (d3 (stI 13 idI) (vR 1) (d2z o_idiv (dAI (vR 1) (cI 5)) (cI 4)) (d2 o_ior (d2 o_ishl (dAI (vR 1) (d2z o_idiv (dAI (vR 1) (cI 5)) (cI 4))) (cI 8)) (vI 2))) (dSeq (dUA o_iadd (vR 1) (cI 5) (cI 1)) (dSeq (dIf (dCI r_lt (dAI (vR 1) (cI 5)) (cI 20)) dRet0 dSkip) Y)) := by
        rw [eY]
        rfl
      have d1' : o_idiv (nI 19) (nI 4) = nI 4 := by decide
      simp (maxSteps := 4000000) (disch := omega) only [ob_t, ob_n, ob_ite, e_cI, e_cL, e_cR, e_vI, e_vL, e_vR, e_d2, e_d2_a, e_d2_b, e_d2z, e_d2z_a, e_d2z_b, e_d1, e_d1_a, e_GI, e_GI_a, e_GL, e_GL_a, e_GR, e_GR_a, e_AI, e_AI_a, e_AI_b, e_AB, e_AB_a, e_AB_b, e_AZ, e_AZ_a, e_AZ_b, e_AL, e_AL_a, e_AL_b, e_AR, e_AR_a, e_AR_b, e_Len, e_Len_a, e_CI, e_CI_a, e_CI_b, e_CZ, e_CZ_a, e_And, e_kAnd, e_Or, e_kOr, e_Not, e_kNot, e_B, e_kB, e_T, e_kT, e_NN, e_kNN, e_NewA, e_NewA_a, e_NewC, e_kNewC, e_aN, e_aI, e_aI_a, e_aI_b, e_aL, e_aL_a, e_aL_b, e_aR, e_aR_a, e_aR_b, e_Call, e_kCall, e_CallV, e_kCallV, e_SetI, e_kSetI, e_SetL, e_kSetL, e_SetR, e_kSetR, e_Inc, e_Skip, e_Brk, e_Cnt, e_Ret, e_kRet, e_Ret0, e_Seq, e_kSeq0, e_kSeq1, e_kSeq2, e_kSeqR, e_If, e_kIf, e_Do, e_kDo, e_Sup, e_kN0, e_d3, e_k3a, e_k3b, e_k3c, e_P, e_kPa, e_kPb, e_UA, e_kUAa, e_kUAb, e_kUAc, e_UL, e_kULa, e_kULb, e_kULc, e_UF, e_kUFa, e_kUFb, e_Cp, e_kCp, e_Sw, e_kSwa, e_kSwb0, e_kSwb1, e_kSwbR, e_M1, e_kM1, e_MZ, e_kMZ, e_MN, e_kMN, e_Tv, e_kTv, e_Tc, e_kTc, e_lpS, e_kLp, e_kLpB0, e_kLpB1, e_kLpB2, e_kLpBR, e_kLpU, e_dwS, e_kDwB0, e_kDwC, f_II, f_LL, f_RR, f_IL, f_IR, f_LI, f_LR, f_RI, f_RL, o_iadd, o_isub, o_imul, o_iand, o_ior, o_ixor, o_ladd, o_lsub, o_lmul, o_land, o_lor, o_i2b, o_i2s, o_lneg, o_imax, o_imin, r_lt, r_le, r_gt, r_ge, r_eq, r_ne, q_lt, q_le, q_gt, q_ge, q_eq, q_ne, decide_eq_true_eq, idI, and_true, true_and, and_false, false_and, or_true, true_or, or_false, false_or, not_true_eq_false, not_false_eq_true, if_true, if_false, ite_self, Bool.not_true, Bool.not_false, Bool.false_eq_true, Bool.true_eq_false, decide_true, decide_false, ne_eq, reduceIte, Nat.reduceEqDiff, Option.some.injEq, Prod.mk.injEq, eq_self, n_inb, nI_clamp, w_hr, w_hk, w_hl, w_eq, w_ne, wl_hr, wl_hk, wl_hi, wl_eq, wl_ne, fa_lit, fa_litL, nI_add, pk_mul, nI_ltI, nI_leI, nI_eq, b01, b0, b1, Nat.reduceLeDiff, Nat.reduceAdd, Nat.reduceMul, Nat.reduceSub, Nat.lt_irrefl, Nat.reduceLT, f_ss, f_sR, f_sL, lc0, lc1, lc01, stI, stL, DL_put, eB, t3, x8, d1', ea4, p1, ← hh1, Y1, k1, m5]
    · unfold TXS
      rw [eln]
      have e20 : (n + 1) % 20 = 0 := by omega
      rw [e20, Nat.sub_zero]
      have g33 : ∀ j, j < n + 1 → hi g 33 j = hi g1 33 j := fun j hj => by rw [hg, w_ne (by omega), w_ne (by omega)]
      refine ⟨by omega, by rw [hg]; exact k2, by rw [hg]; exact w_eq _ _ _ _, ?_, fun j hj => ?_, fun j hj => ?_, small⟩
      · rw [hg, w_ne (by omega), w_ne (by omega), f3]
        congr 1
        omega
      · rw [g33 j hj, f4 j (by omega)]
        by_cases y : n - 19 ≤ j
        · rw [if_pos (by omega)]
          have bt : ∀ i, i < 5 → ∀ k, k < 4 → btE (fdV v0 v1 v2 v3 v4 i) k = nI ((l ++ [b]).getD (n - 19 + 4 * i + k) 0) := fun i hi1 k hk1 => by
            match i, hi1 with
            | 0, _ =>
              rw [show fdV v0 v1 v2 v3 v4 0 = v0 by rfl, ev0, bt_pk (fun i hi1 => t7 _ (by omega)) k hk1, old _ (by omega)]
            | 1, _ =>
              rw [show fdV v0 v1 v2 v3 v4 1 = v1 by rfl, ev1, bt_pk (fun i hi1 => t7 _ (by omega)) k hk1, old _ (by omega)]
            | 2, _ =>
              rw [show fdV v0 v1 v2 v3 v4 2 = v2 by rfl, ev2, bt_pk (fun i hi1 => t7 _ (by omega)) k hk1, old _ (by omega)]
            | 3, _ =>
              rw [show fdV v0 v1 v2 v3 v4 3 = v3 by rfl, ev3, bt_pk (fun i hi1 => t7 _ (by omega)) k hk1, old _ (by omega)]
            | 4, _ =>
              rw [show fdV v0 v1 v2 v3 v4 4 = v4 by rfl, ev4, x4, bt_pk (fun i hi1 => small _ (by omega)) k hk1]
          rw [bt _ (by omega) _ (by omega), show n - 19 + 4 * ((j - (n - 19)) / 4) + (j - (n - 19)) % 4 = j by omega]
        · rw [if_neg (by omega), hh1, w_ne (by omega), w_ne (by omega), t5 j (by omega), old j (by omega)]
      · exact ⟨(hi g 122 j).toBitVec.toNat, by rw [show min 4 (0 - 4 * j) = 0 by omega]; exact n_bv _⟩
end
