set_option maxRecDepth 100000
set_option maxHeartbeats 400000
/-! a DAY, the DAYS: what stands, and the class -/
theorem loop_g {α : Type} {cn : Fr → Fr} {C : Cd} {B U : Sm α} {f : Fr} {h : St} (F : Nat → Fr) (I : Nat → St → Prop) (N : Nat) (h0 : cn f = F 0) (hI : I 0 h) (h1 : ∀ k g, k < N → I k g → ∃ g', lpS cn C B U (F k, g) = some (.inl (F (k + 1), g')) ∧ I (k + 1) g') (h2 : ∀ g, I N g → lpS cn C B U (F N, g) = some (.inr (.inl 0, F N, g))) : ∃ g, (dLoop cn C B U : Sm α) f h = some (.inl 0, F N, g) ∧ I N g := by
  rw [e_Loop, h0]
  obtain ⟨b, e, g, rfl, q⟩ := iter_ind0 (B := lpS cn C B U) (s0 := (F 0, h)) (fun k s => ∃ g, s = (F k, g) ∧ I k g) (fun b => ∃ g, b = (.inl 0, F N, g) ∧ I N g) N ⟨h, rfl, hI⟩ (fun k s hk hs => by
    obtain ⟨g, rfl, q⟩ := hs
    obtain ⟨g', e, q'⟩ := h1 k g hk q
    exact Or.inl ⟨_, e, g', rfl, q'⟩) (fun s hs => by
    obtain ⟨g, rfl, q⟩ := hs
    exact ⟨_, h2 g q, g, rfl, q⟩)
  exact ⟨g, e, q⟩
theorem up_eq (S : PT) (j k v : Nat) : up S j k v j k = v := if_pos ⟨rfl, rfl⟩
theorem WFS_up {P S : PT} (hS : WFS P S) {j k v : Nat} (h0 : j = 0 → 6 ≤ k) (h1 : j = 0 → k = 6 → v < 32) (h2 : j = 0 → k = 7 → v < 8) (h3 : j = 1 → k < P 0 6 → v < P 0 4) (h4 : j = 2 → k < P 0 7 → v < P 0 4) (h5 : j = 3 → k < P 0 7 → v < 2 ^ P 7 k) (h6 : j = 5 → k < P 0 7 → v < 256) (h7 : j = 4 → k < 24 → v < 64) (h8 : j = 6 → v ≤ 5) (h9 : j = 7 → v ≤ 201) : WFS P (up S j k v) := by
  obtain ⟨a1, a2, a3, a4, a5, a6, a7, a8, a9, a10⟩ := hS
  have hx : ∀ i, i < 6 → up S j k v 0 i = S 0 i := fun i hi => by
    unfold up
    rw [if_neg]
    rintro ⟨rfl, rfl⟩
    exact absurd (h0 rfl) (by omega)
  refine ⟨?_, ?_, ?_, ?_, ?_, ?_, ?_, ?_, ?_, ?_⟩
  · unfold WFX
    rw [hx 0 (by decide), hx 1 (by decide), hx 2 (by decide), hx 3 (by decide), hx 4 (by decide), hx 5 (by decide)]
    exact a1
  · unfold up
    split
    · rename_i q; exact h1 q.1.symm q.2.symm
    · exact a2
  · unfold up
    split
    · rename_i q; exact h2 q.1.symm q.2.symm
    · exact a3
  · intro m hm
    unfold up
    split
    · rename_i q; exact h3 q.1.symm (q.2 ▸ hm)
    · exact a4 m hm
  · intro m hm
    unfold up
    split
    · rename_i q; exact h4 q.1.symm (q.2 ▸ hm)
    · exact a5 m hm
  · intro m hm
    unfold up
    split
    · rename_i q; rw [q.2]; exact h5 q.1.symm (q.2 ▸ hm)
    · exact a6 m hm
  · intro m hm
    unfold up
    split
    · rename_i q; exact h6 q.1.symm (q.2 ▸ hm)
    · exact a7 m hm
  · intro m hm
    unfold up
    split
    · rename_i q; exact h7 q.1.symm (q.2 ▸ hm)
    · exact a8 m hm
  · intro m hm
    unfold up
    split
    · rename_i q; exact h8 q.1.symm
    · exact a9 m hm
  · intro m hm
    unfold up
    split
    · rename_i q; exact h9 q.1.symm
    · exact a10 m hm
theorem hinS_le (P S : PT) (i : Nat) : hinS P S i ≤ 5 := by
  unfold hinS
  repeat' split
  all_goals decide
theorem WFS.out {P S : PT} (hW : WFP P) (hS : WFS P S) {i : Nat} (hi1 : i < P 9 1) : WFS P (outS P S i) := by
  have hb := hW.all
  obtain ⟨hm, hs, ha, hdy⟩ := hW.cy hi1
  have hl := loadS_le hW hS hs ha
  have h6 : S 0 6 ||| 2 ^ P 10 i < 2 ^ 5 := or_lt hS.2.1 (pow_lt (by omega))
  have h7 : S 0 7 ||| 2 ^ P 11 i < 2 ^ 3 := or_lt hS.2.2.1 (pow_lt (by omega))
  unfold outS
  refine WFS_up (WFS_up (WFS_up (WFS_up (WFS_up hS ?_ ?_ ?_ ?_ ?_ ?_ ?_ ?_ ?_ ?_) ?_ ?_ ?_ ?_ ?_ ?_ ?_ ?_ ?_ ?_) ?_ ?_ ?_ ?_ ?_ ?_ ?_ ?_ ?_ ?_) ?_ ?_ ?_ ?_ ?_ ?_ ?_ ?_ ?_ ?_) ?_ ?_ ?_ ?_ ?_ ?_ ?_ ?_ ?_ ?_ <;> (try omega) <;> intros <;> omega
theorem WFS.car {P S : PT} (hW : WFP P) (hS : WFS P S) {i : Nat} (hi1 : i < P 9 1) (b : Bool) : WFS P (carS P S i b) := by
  have hb := hW.all
  obtain ⟨hm, hs, ha, hdy⟩ := hW.cy hi1
  have ho := hS.out hW hi1
  have hl := hS.2.2.2.2.2.1 _ hs
  have h64 := pw6 hW hs
  have hwl := wetS_le P S (P 11 i) b
  have hrl := rubL_le P (P 11 i) (wetS P S (P 11 i) b) (S 0 0)
  have h4 : S 4 (8 * P 11 i + P 12 i) ||| wetS P S (P 11 i) b < 2 ^ 6 := or_lt (hS.2.2.2.2.2.2.2.1 _ (by omega)) (by omega)
  have h5 : S 5 (P 11 i) ||| 2 ^ P 12 i < 2 ^ 8 := or_lt (hS.2.2.2.2.2.2.1 _ hs) (pow_lt (by omega))
  unfold carS
  split
  · refine WFS_up (WFS_up ho ?_ ?_ ?_ ?_ ?_ ?_ ?_ ?_ ?_ ?_) ?_ ?_ ?_ ?_ ?_ ?_ ?_ ?_ ?_ ?_ <;> (try omega) <;> intros <;> omega
  · refine WFS_up (WFS_up (WFS_up ho ?_ ?_ ?_ ?_ ?_ ?_ ?_ ?_ ?_ ?_) ?_ ?_ ?_ ?_ ?_ ?_ ?_ ?_ ?_ ?_) ?_ ?_ ?_ ?_ ?_ ?_ ?_ ?_ ?_ ?_ <;> (try omega) <;> intros <;> omega
theorem WFS.step {P S : PT} (hW : WFP P) (hS : WFS P S) {i : Nat} (hi1 : i < P 9 1) (d : Nat) : WFS P (stepS P S d i) := by
  have h1 := hinS_le P S i
  have h2 : WFS P (up S 6 i (hinS P S i)) := by
    refine WFS_up hS ?_ ?_ ?_ ?_ ?_ ?_ ?_ ?_ ?_ ?_ <;> (try omega) <;> intros <;> omega
  unfold stepS
  split
  · split
    · exact h2.car hW hi1 _
    · exact h2
  · exact hS
def WFB (P S : PT) : Prop := WFS P (up (up S 0 6 0) 0 7 0)
theorem WFS.b {P S : PT} (hS : WFS P S) : WFB P S := by
  refine WFS_up (WFS_up hS ?_ ?_ ?_ ?_ ?_ ?_ ?_ ?_ ?_ ?_) ?_ ?_ ?_ ?_ ?_ ?_ ?_ ?_ ?_ ?_ <;> (try omega) <;> intros <;> omega
theorem WFS_dayN {P S : PT} (hW : WFP P) (hS : WFB P S) (d : Nat) : ∀ k, k ≤ P 9 1 → WFS P (dayN P S d k) := by
  intro k
  induction k with
  | zero => intro _; exact hS
  | succ k ih =>
    intro hk1
    exact (ih (by omega)).step hW (by omega) d
theorem WFS_day {P S : PT} (hW : WFP P) (hS : WFB P S) (d : Nat) : WFS P (dayS P S d) := WFS_dayN hW hS d _ (Nat.le_refl _)
section
variable {h : St} {c p : Nat} {S P : PT}
theorem x_passDay (hC : CS h c) (hR : RC h c S) (hG : PG h p P) (hS : WFB P S) (hd : p + 16 ≤ c ∨ c + 8 ≤ p) {d : Nat} (hd12 : d < 31) : ∃ g, DX2_passDay (sI (sR (sR fr0 0 c) 1 p) 2 (nI d)) h = some ((), g) ∧ RC g c (dayS P S d) ∧ Ch (cD c) h g := by
  have hW := hG.w
  have hb := hW.all
  obtain ⟨g1, a1, b1, c1⟩ := C_fld hC hR (k := 6) 0 (w := nI 0) rfl
  have hC1 := hC.to c1.1
  obtain ⟨g2, a2, b2, c2⟩ := C_fld hC1 b1 (k := 7) 0 (w := nI 0) rfl
  have q2 := c1.tr c2
  obtain ⟨g3, L, b3, c3⟩ : ∃ g, LX2_passDay_1 (sI (sI (sR (sR fr0 0 c) 1 p) 2 (nI d)) 3 (nI 0)) g2 = some (.inl 0, sI (sI (sR (sR fr0 0 c) 1 p) 2 (nI d)) 3 (nI (P 9 1)), g) ∧ RC g c (dayN P S d (P 9 1)) ∧ Ch (cD c) h g := by
    unfold LX2_passDay_1
    refine loop_g (fun k => sI (sI (sR (sR fr0 0 c) 1 p) 2 (nI d)) 3 (nI k)) (fun k g => RC g c (dayN P S d k) ∧ Ch (cD c) h g) (P 9 1) rfl ⟨b2, q2⟩ (fun k g hk hI => ?_) (fun g hI => ?_)
    · obtain ⟨hRg, hq⟩ := hI
      have hGg := hG.cc hq hd
      have hCg := hC.to hq.1
      have hP := hGg.s
      have hC := hCg
      have k32 : k < 32 := by omega
      have e1 := hGg.r.cs (k := 1) (by decide)
      have e2 := RP.car hGg.s hGg.r hGg.w (j := 13) (by decide) (by decide) hk
      have hcy := hW.cy hk
      have hSk := WFS_dayN hW hS d k (by omega)
      have e3 := x_hindrance hCg hRg hGg hSk hk
      obtain ⟨g4, a4, b4, c4⟩ := C_put hCg hRg (j := 6) (k := k) (hinS P (dayN P S d k) k) (by decide) (by decide) (by show k < 32; omega)
      have hh5 := hinS_le P (dayN P S d k) k
      by_cases t : P 13 k = d
      · by_cases t2 : hinS P (dayN P S d k) k = 0
        · have f3 : hi g4 c 3 = nI (dayN P S d k 0 3) := b4 0 3 (by unfold CIn; exact ⟨by decide, by decide⟩)
          have hS4 : WFS P (up (dayN P S d k) 6 k (hinS P (dayN P S d k) k)) := by
            refine WFS_up hSk ?_ ?_ ?_ ?_ ?_ ?_ ?_ ?_ ?_ ?_ <;> (try omega) <;> intros <;> omega
          have hx := hSk.1
          unfold WFX at hx
          obtain ⟨g5, a5, b5, c5⟩ := x_carryOut (hCg.to c4.1) b4 (hGg.cc c4 hd) hS4 hk hd ((dayN P S d k 0 3).testBit d) rfl
          refine ⟨g5, ?_, ?_, (hq.tr c4).tr c5⟩
          · rw [t2] at e3 a4
            simp (disch := omega) only [ob_t, ob_n, ob_ite, e_cI, e_cL, e_cR, e_vI, e_vL, e_vR, e_d2, e_d2_a, e_d2_b, e_d2z, e_d2z_a, e_d2z_b, e_d1, e_d1_a, e_GI, e_GI_a, e_GL, e_GL_a, e_GR, e_GR_a, e_AI, e_AI_a, e_AI_b, e_AB, e_AB_a, e_AB_b, e_AZ, e_AZ_a, e_AZ_b, e_AL, e_AL_a, e_AL_b, e_AR, e_AR_a, e_AR_b, e_Len, e_Len_a, e_CI, e_CI_a, e_CI_b, e_CZ, e_CZ_a, e_And, e_kAnd, e_Or, e_kOr, e_Not, e_kNot, e_B, e_kB, e_T, e_kT, e_NN, e_kNN, e_NewA, e_NewA_a, e_NewC, e_kNewC, e_aN, e_aI, e_aI_a, e_aI_b, e_aL, e_aL_a, e_aL_b, e_aR, e_aR_a, e_aR_b, e_Call, e_kCall, e_CallV, e_kCallV, e_SetI, e_kSetI, e_SetL, e_kSetL, e_SetR, e_kSetR, e_Inc, e_Skip, e_Brk, e_Cnt, e_Ret, e_kRet, e_Ret0, e_Seq, e_kSeq0, e_kSeq1, e_kSeq2, e_kSeqR, e_If, e_kIf, e_Do, e_kDo, e_Sup, e_kN0, e_d3, e_k3a, e_k3b, e_k3c, e_P, e_kPa, e_kPb, e_UA, e_kUAa, e_kUAb, e_kUAc, e_UL, e_kULa, e_kULb, e_kULc, e_UF, e_kUFa, e_kUFb, e_Cp, e_kCp, e_Sw, e_kSwa, e_kSwb0, e_kSwb1, e_kSwbR, e_M1, e_kM1, e_MZ, e_kMZ, e_MN, e_kMN, e_Tv, e_kTv, e_Tc, e_kTc, e_lpS, e_kLp, e_kLpB0, e_kLpB1, e_kLpB2, e_kLpBR, e_kLpU, e_dwS, e_kDwB0, e_kDwC, f_II, f_LL, f_RR, f_IL, f_IR, f_LI, f_LR, f_RI, f_RL, o_iadd, o_isub, o_imul, o_iand, o_ior, o_ixor, o_ladd, o_lsub, o_lmul, o_land, o_lor, o_ishl, o_ishr, o_iushr, o_lshl, o_lshr, o_lcmp, o_i2l, o_l2i, o_i2b, o_i2s, o_lneg, o_ineg, o_imax, o_imin, o_idiv, o_irem, o_ldiv, o_lrem, r_lt, r_le, r_gt, r_ge, r_eq, r_ne, q_lt, q_le, q_gt, q_ge, q_eq, q_ne, decide_eq_true_eq, idI, and_true, true_and, and_false, false_and, or_true, true_or, or_false, false_or, not_true_eq_false, not_false_eq_true, if_true, if_false, ite_self, Bool.not_true, Bool.not_false, Bool.false_eq_true, Bool.true_eq_false, decide_true, decide_false, ne_eq, reduceIte, Nat.reduceEqDiff, Option.some.injEq, Prod.mk.injEq, eq_self, fa_lit, nI_add, pk_mul, nI_ltI, nI_leI, nI_eq, b01, b0, b1, x_hasBit, Nat.reduceLeDiff, Nat.reduceAdd, Nat.reduceMul, Nat.reduceSub, Nat.lt_irrefl, Nat.reduceLT, hP.k, hP.k9, hP.r8, hP.r9, hP.r10, hP.r11, hP.r12, hP.r13, hP.r14, hP.r15, hP.r16, hP.c3, hP.c4, hP.c5, hP.c6, hP.c7, hP.c8, hC.k, hC.r8, hC.r9, hC.r10, hC.r11, hC.r12, hC.r13, hC.r14, e1, e2, e3, a4, a5, f3, hk, k32, t, c4.1.1, c4.1.2.1]
          · show RC g5 c (stepS P (dayN P S d k) d k)
            unfold stepS
            rw [if_pos t, if_pos t2]
            exact b5
        · refine ⟨g4, ?_, ?_, hq.tr c4⟩
          · simp (disch := omega) only [ob_t, ob_n, ob_ite, e_cI, e_cL, e_cR, e_vI, e_vL, e_vR, e_d2, e_d2_a, e_d2_b, e_d2z, e_d2z_a, e_d2z_b, e_d1, e_d1_a, e_GI, e_GI_a, e_GL, e_GL_a, e_GR, e_GR_a, e_AI, e_AI_a, e_AI_b, e_AB, e_AB_a, e_AB_b, e_AZ, e_AZ_a, e_AZ_b, e_AL, e_AL_a, e_AL_b, e_AR, e_AR_a, e_AR_b, e_Len, e_Len_a, e_CI, e_CI_a, e_CI_b, e_CZ, e_CZ_a, e_And, e_kAnd, e_Or, e_kOr, e_Not, e_kNot, e_B, e_kB, e_T, e_kT, e_NN, e_kNN, e_NewA, e_NewA_a, e_NewC, e_kNewC, e_aN, e_aI, e_aI_a, e_aI_b, e_aL, e_aL_a, e_aL_b, e_aR, e_aR_a, e_aR_b, e_Call, e_kCall, e_CallV, e_kCallV, e_SetI, e_kSetI, e_SetL, e_kSetL, e_SetR, e_kSetR, e_Inc, e_Skip, e_Brk, e_Cnt, e_Ret, e_kRet, e_Ret0, e_Seq, e_kSeq0, e_kSeq1, e_kSeq2, e_kSeqR, e_If, e_kIf, e_Do, e_kDo, e_Sup, e_kN0, e_d3, e_k3a, e_k3b, e_k3c, e_P, e_kPa, e_kPb, e_UA, e_kUAa, e_kUAb, e_kUAc, e_UL, e_kULa, e_kULb, e_kULc, e_UF, e_kUFa, e_kUFb, e_Cp, e_kCp, e_Sw, e_kSwa, e_kSwb0, e_kSwb1, e_kSwbR, e_M1, e_kM1, e_MZ, e_kMZ, e_MN, e_kMN, e_Tv, e_kTv, e_Tc, e_kTc, e_lpS, e_kLp, e_kLpB0, e_kLpB1, e_kLpB2, e_kLpBR, e_kLpU, e_dwS, e_kDwB0, e_kDwC, f_II, f_LL, f_RR, f_IL, f_IR, f_LI, f_LR, f_RI, f_RL, o_iadd, o_isub, o_imul, o_iand, o_ior, o_ixor, o_ladd, o_lsub, o_lmul, o_land, o_lor, o_ishl, o_ishr, o_iushr, o_lshl, o_lshr, o_lcmp, o_i2l, o_l2i, o_i2b, o_i2s, o_lneg, o_ineg, o_imax, o_imin, o_idiv, o_irem, o_ldiv, o_lrem, r_lt, r_le, r_gt, r_ge, r_eq, r_ne, q_lt, q_le, q_gt, q_ge, q_eq, q_ne, decide_eq_true_eq, idI, and_true, true_and, and_false, false_and, or_true, true_or, or_false, false_or, not_true_eq_false, not_false_eq_true, if_true, if_false, ite_self, Bool.not_true, Bool.not_false, Bool.false_eq_true, Bool.true_eq_false, decide_true, decide_false, ne_eq, reduceIte, Nat.reduceEqDiff, Option.some.injEq, Prod.mk.injEq, eq_self, fa_lit, nI_add, pk_mul, nI_ltI, nI_leI, nI_eq, b01, b0, b1, x_hasBit, Nat.reduceLeDiff, Nat.reduceAdd, Nat.reduceMul, Nat.reduceSub, Nat.lt_irrefl, Nat.reduceLT, hP.k, hP.k9, hP.r8, hP.r9, hP.r10, hP.r11, hP.r12, hP.r13, hP.r14, hP.r15, hP.r16, hP.c3, hP.c4, hP.c5, hP.c6, hP.c7, hP.c8, hC.k, hC.r8, hC.r9, hC.r10, hC.r11, hC.r12, hC.r13, hC.r14, e1, e2, e3, a4, hk, k32, t, t2, c4.1.1, c4.1.2.1]
          · show RC g4 c (stepS P (dayN P S d k) d k)
            unfold stepS
            rw [if_pos t, if_neg t2]
            exact b4
      · refine ⟨g, ?_, ?_, hq⟩
        · simp (disch := omega) only [ob_t, ob_n, ob_ite, e_cI, e_cL, e_cR, e_vI, e_vL, e_vR, e_d2, e_d2_a, e_d2_b, e_d2z, e_d2z_a, e_d2z_b, e_d1, e_d1_a, e_GI, e_GI_a, e_GL, e_GL_a, e_GR, e_GR_a, e_AI, e_AI_a, e_AI_b, e_AB, e_AB_a, e_AB_b, e_AZ, e_AZ_a, e_AZ_b, e_AL, e_AL_a, e_AL_b, e_AR, e_AR_a, e_AR_b, e_Len, e_Len_a, e_CI, e_CI_a, e_CI_b, e_CZ, e_CZ_a, e_And, e_kAnd, e_Or, e_kOr, e_Not, e_kNot, e_B, e_kB, e_T, e_kT, e_NN, e_kNN, e_NewA, e_NewA_a, e_NewC, e_kNewC, e_aN, e_aI, e_aI_a, e_aI_b, e_aL, e_aL_a, e_aL_b, e_aR, e_aR_a, e_aR_b, e_Call, e_kCall, e_CallV, e_kCallV, e_SetI, e_kSetI, e_SetL, e_kSetL, e_SetR, e_kSetR, e_Inc, e_Skip, e_Brk, e_Cnt, e_Ret, e_kRet, e_Ret0, e_Seq, e_kSeq0, e_kSeq1, e_kSeq2, e_kSeqR, e_If, e_kIf, e_Do, e_kDo, e_Sup, e_kN0, e_d3, e_k3a, e_k3b, e_k3c, e_P, e_kPa, e_kPb, e_UA, e_kUAa, e_kUAb, e_kUAc, e_UL, e_kULa, e_kULb, e_kULc, e_UF, e_kUFa, e_kUFb, e_Cp, e_kCp, e_Sw, e_kSwa, e_kSwb0, e_kSwb1, e_kSwbR, e_M1, e_kM1, e_MZ, e_kMZ, e_MN, e_kMN, e_Tv, e_kTv, e_Tc, e_kTc, e_lpS, e_kLp, e_kLpB0, e_kLpB1, e_kLpB2, e_kLpBR, e_kLpU, e_dwS, e_kDwB0, e_kDwC, f_II, f_LL, f_RR, f_IL, f_IR, f_LI, f_LR, f_RI, f_RL, o_iadd, o_isub, o_imul, o_iand, o_ior, o_ixor, o_ladd, o_lsub, o_lmul, o_land, o_lor, o_ishl, o_ishr, o_iushr, o_lshl, o_lshr, o_lcmp, o_i2l, o_l2i, o_i2b, o_i2s, o_lneg, o_ineg, o_imax, o_imin, o_idiv, o_irem, o_ldiv, o_lrem, r_lt, r_le, r_gt, r_ge, r_eq, r_ne, q_lt, q_le, q_gt, q_ge, q_eq, q_ne, decide_eq_true_eq, idI, and_true, true_and, and_false, false_and, or_true, true_or, or_false, false_or, not_true_eq_false, not_false_eq_true, if_true, if_false, ite_self, Bool.not_true, Bool.not_false, Bool.false_eq_true, Bool.true_eq_false, decide_true, decide_false, ne_eq, reduceIte, Nat.reduceEqDiff, Option.some.injEq, Prod.mk.injEq, eq_self, fa_lit, nI_add, pk_mul, nI_ltI, nI_leI, nI_eq, b01, b0, b1, x_hasBit, Nat.reduceLeDiff, Nat.reduceAdd, Nat.reduceMul, Nat.reduceSub, Nat.lt_irrefl, Nat.reduceLT, hP.k, hP.k9, hP.r8, hP.r9, hP.r10, hP.r11, hP.r12, hP.r13, hP.r14, hP.r15, hP.r16, hP.c3, hP.c4, hP.c5, hP.c6, hP.c7, hP.c8, hC.k, hC.r8, hC.r9, hC.r10, hC.r11, hC.r12, hC.r13, hC.r14, e1, e2, hk, k32, t]
        · show RC g c (stepS P (dayN P S d k) d k)
          unfold stepS
          rw [if_neg t]
          exact hRg
    · obtain ⟨hRg, hq⟩ := hI
      have hGg := hG.cc hq hd
      have hP := hGg.s
      have e1 := hGg.r.cs (k := 1) (by decide)
      simp (disch := omega) only [ob_t, ob_n, ob_ite, e_cI, e_cL, e_cR, e_vI, e_vL, e_vR, e_d2, e_d2_a, e_d2_b, e_d2z, e_d2z_a, e_d2z_b, e_d1, e_d1_a, e_GI, e_GI_a, e_GL, e_GL_a, e_GR, e_GR_a, e_AI, e_AI_a, e_AI_b, e_AB, e_AB_a, e_AB_b, e_AZ, e_AZ_a, e_AZ_b, e_AL, e_AL_a, e_AL_b, e_AR, e_AR_a, e_AR_b, e_Len, e_Len_a, e_CI, e_CI_a, e_CI_b, e_CZ, e_CZ_a, e_And, e_kAnd, e_Or, e_kOr, e_Not, e_kNot, e_B, e_kB, e_T, e_kT, e_NN, e_kNN, e_NewA, e_NewA_a, e_NewC, e_kNewC, e_aN, e_aI, e_aI_a, e_aI_b, e_aL, e_aL_a, e_aL_b, e_aR, e_aR_a, e_aR_b, e_Call, e_kCall, e_CallV, e_kCallV, e_SetI, e_kSetI, e_SetL, e_kSetL, e_SetR, e_kSetR, e_Inc, e_Skip, e_Brk, e_Cnt, e_Ret, e_kRet, e_Ret0, e_Seq, e_kSeq0, e_kSeq1, e_kSeq2, e_kSeqR, e_If, e_kIf, e_Do, e_kDo, e_Sup, e_kN0, e_d3, e_k3a, e_k3b, e_k3c, e_P, e_kPa, e_kPb, e_UA, e_kUAa, e_kUAb, e_kUAc, e_UL, e_kULa, e_kULb, e_kULc, e_UF, e_kUFa, e_kUFb, e_Cp, e_kCp, e_Sw, e_kSwa, e_kSwb0, e_kSwb1, e_kSwbR, e_M1, e_kM1, e_MZ, e_kMZ, e_MN, e_kMN, e_Tv, e_kTv, e_Tc, e_kTc, e_lpS, e_kLp, e_kLpB0, e_kLpB1, e_kLpB2, e_kLpBR, e_kLpU, e_dwS, e_kDwB0, e_kDwC, f_II, f_LL, f_RR, f_IL, f_IR, f_LI, f_LR, f_RI, f_RL, o_iadd, o_isub, o_imul, o_iand, o_ior, o_ixor, o_ladd, o_lsub, o_lmul, o_land, o_lor, o_ishl, o_ishr, o_iushr, o_lshl, o_lshr, o_lcmp, o_i2l, o_l2i, o_i2b, o_i2s, o_lneg, o_ineg, o_imax, o_imin, o_idiv, o_irem, o_ldiv, o_lrem, r_lt, r_le, r_gt, r_ge, r_eq, r_ne, q_lt, q_le, q_gt, q_ge, q_eq, q_ne, decide_eq_true_eq, idI, and_true, true_and, and_false, false_and, or_true, true_or, or_false, false_or, not_true_eq_false, not_false_eq_true, if_true, if_false, ite_self, Bool.not_true, Bool.not_false, Bool.false_eq_true, Bool.true_eq_false, decide_true, decide_false, ne_eq, reduceIte, Nat.reduceEqDiff, Option.some.injEq, Prod.mk.injEq, eq_self, fa_lit, nI_add, pk_mul, nI_ltI, nI_leI, nI_eq, b01, b0, b1, x_hasBit, Nat.reduceLeDiff, Nat.reduceAdd, Nat.reduceMul, Nat.reduceSub, Nat.lt_irrefl, Nat.reduceLT, hP.k, hP.k9, hP.r8, hP.r9, hP.r10, hP.r11, hP.r12, hP.r13, hP.r14, hP.r15, hP.r16, hP.c3, hP.c4, hP.c5, hP.c6, hP.c7, hP.c8, e1]
  refine ⟨g3, ?_, b3, c3⟩
  simp (disch := omega) only [DX2_passDay, BX2_passDay, ob_t, ob_n, ob_ite, e_cI, e_cL, e_cR, e_vI, e_vL, e_vR, e_d2, e_d2_a, e_d2_b, e_d2z, e_d2z_a, e_d2z_b, e_d1, e_d1_a, e_GI, e_GI_a, e_GL, e_GL_a, e_GR, e_GR_a, e_AI, e_AI_a, e_AI_b, e_AB, e_AB_a, e_AB_b, e_AZ, e_AZ_a, e_AZ_b, e_AL, e_AL_a, e_AL_b, e_AR, e_AR_a, e_AR_b, e_Len, e_Len_a, e_CI, e_CI_a, e_CI_b, e_CZ, e_CZ_a, e_And, e_kAnd, e_Or, e_kOr, e_Not, e_kNot, e_B, e_kB, e_T, e_kT, e_NN, e_kNN, e_NewA, e_NewA_a, e_NewC, e_kNewC, e_aN, e_aI, e_aI_a, e_aI_b, e_aL, e_aL_a, e_aL_b, e_aR, e_aR_a, e_aR_b, e_Call, e_kCall, e_CallV, e_kCallV, e_SetI, e_kSetI, e_SetL, e_kSetL, e_SetR, e_kSetR, e_Inc, e_Skip, e_Brk, e_Cnt, e_Ret, e_kRet, e_Ret0, e_Seq, e_kSeq0, e_kSeq1, e_kSeq2, e_kSeqR, e_If, e_kIf, e_Do, e_kDo, e_Sup, e_kN0, e_d3, e_k3a, e_k3b, e_k3c, e_P, e_kPa, e_kPb, e_UA, e_kUAa, e_kUAb, e_kUAc, e_UL, e_kULa, e_kULb, e_kULc, e_UF, e_kUFa, e_kUFb, e_Cp, e_kCp, e_Sw, e_kSwa, e_kSwb0, e_kSwb1, e_kSwbR, e_M1, e_kM1, e_MZ, e_kMZ, e_MN, e_kMN, e_Tv, e_kTv, e_Tc, e_kTc, e_lpS, e_kLp, e_kLpB0, e_kLpB1, e_kLpB2, e_kLpBR, e_kLpU, e_dwS, e_kDwB0, e_kDwC, f_II, f_LL, f_RR, f_IL, f_IR, f_LI, f_LR, f_RI, f_RL, o_iadd, o_isub, o_imul, o_iand, o_ior, o_ixor, o_ladd, o_lsub, o_lmul, o_land, o_lor, o_ishl, o_ishr, o_iushr, o_lshl, o_lshr, o_lcmp, o_i2l, o_l2i, o_i2b, o_i2s, o_lneg, o_ineg, o_imax, o_imin, o_idiv, o_irem, o_ldiv, o_lrem, r_lt, r_le, r_gt, r_ge, r_eq, r_ne, q_lt, q_le, q_gt, q_ge, q_eq, q_ne, decide_eq_true_eq, idI, and_true, true_and, and_false, false_and, or_true, true_or, or_false, false_or, not_true_eq_false, not_false_eq_true, if_true, if_false, ite_self, Bool.not_true, Bool.not_false, Bool.false_eq_true, Bool.true_eq_false, decide_true, decide_false, ne_eq, reduceIte, Nat.reduceEqDiff, Option.some.injEq, Prod.mk.injEq, eq_self, fa_lit, nI_add, pk_mul, nI_ltI, nI_leI, nI_eq, b01, b0, b1, x_hasBit, Nat.reduceLeDiff, Nat.reduceAdd, Nat.reduceMul, Nat.reduceSub, Nat.lt_irrefl, Nat.reduceLT, a1, a2, L]
end
