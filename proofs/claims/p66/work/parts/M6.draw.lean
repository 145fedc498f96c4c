set_option maxRecDepth 100000
set_option maxHeartbeats 3000000
/-! the law draws a PORT: slates, carries -/
def wD (o : Nat) : Prop := (31 ≤ o ∧ o < 123) ∨ o = 127
def cE (o : Nat) : Prop := (31 ≤ o ∧ o < 123) ∨ (125 ≤ o ∧ o < 130)
theorem wsP_o {s j k : Nat} (hj : j ≠ 8) : ∀ (ws : List Nat) (w : Nat) (P : PT), wsP s w ws P j k = P j k
  | [], _, _ => rfl
  | v :: ws, w, P => (wsP_o hj ws (w + 1) _).trans (if_neg (fun z => hj z.1))
theorem wsP_8 {s k : Nat} : ∀ (ws : List Nat) (w : Nat) (P : PT), wsP s w ws P 8 k = if 6 * s + w ≤ k ∧ k < 6 * s + w + ws.length then ws.getD (k - (6 * s + w)) 0 else P 8 k
  | [], w, P => by
    rw [List.length_nil, if_neg (by omega)]
    rfl
  | v :: ws, w, P => by
    show wsP s (w + 1) ws (up P 8 (6 * s + w) v) 8 k = _
    rw [wsP_8 ws (w + 1) _, List.length_cons]
    by_cases y : k = 6 * s + w
    · rw [if_neg (by omega), if_pos (by omega), y, up_eq, Nat.sub_self]
      rfl
    · by_cases z : 6 * s + w ≤ k ∧ k < 6 * s + w + (ws.length + 1)
      · rw [if_pos (by omega), if_pos z, show k - (6 * s + w) = k - (6 * s + (w + 1)) + 1 by omega]
        rfl
      · rw [if_neg (by omega), if_neg z]
        exact if_neg (fun q => y q.2)
theorem tl_ws : ∀ ws : List Nat, (tBs (wsT ws)).length ≤ 8 * ws.length
  | [] => Nat.zero_le _
  | v :: ws => by
    have ih := tl_ws ws
    have := wbl
    have d1 := (dgs_l v).1
    rw [wsT_c, tBs_c, tBs_c, List.length_append, List.length_append, tB_0, tB_1, List.length_cons]
    omega
theorem wsT_a (ws : List Nat) (v : Nat) : wsT (ws ++ [v]) = wsT ws ++ [(0, 11), (1, v)] := by
  unfold wsT
  rw [List.flatMap_append]
  rfl
section
variable {L : Nat} {xs : Nat → Int32} {h h1 g : St} {ts us : List (Nat × Nat)} {P P' Q : PT} {tf : Nat → Nat} {u : Nat} {l : List Nat}
theorem PJ.fin (H : PJ L xs h ts P Q tf) (c : Ch cE h g) (I : Inv g g Q) (T : TXS g (tBs (ts ++ us))) (l : LnS us P P' 1) (e0 : P' 0 0 = P 0 0 + 1) (e3 : P' 0 3 = P 0 3) (hl : lb P + (tBs us).length ≤ lb P') (A : AJ g P') : PJ L xs g (ts ++ us) P' Q tf := by
  obtain ⟨⟨-, sc, th, at_, au⟩, t, ln, p0, le, -⟩ := H
  have d : ∀ o, ¬ ((31 ≤ o ∧ o < 123) ∨ (125 ≤ o ∧ o < 130)) → ¬ cE o := fun o z => z
  refine ⟨⟨I, sc.ch c (d _ (by omega)), th.to c (fun o ho => d o (by omega)), at_.ch c (d _ (by omega)), by rw [e3]; exact au.ch c (d _ (by omega))⟩, T, by rw [e0]; exact ln.tr l, by omega, ?_, A⟩
  rw [tBs_a, List.length_append]
  omega
theorem x_p4 {W c m s : Nat} {wf : Nat → Nat} (hs : s < 3) (hm : m ≤ 6) (hc : c < 2 ^ 30) (I0 : Inv h h Q) (T0 : TXS h l) (w1 : AR h 127 21 wf) (w0 : wf (7 * s) = m) (hl : l.length + 8 * m ≤ 800) : ∃ (g : St) (ws : List Nat) (wf' : Nat → Nat), LL_port__4 (sI (sI (sI (sI (sR (sR (sR (sR (sR (sR (sR (sR (sR (sR fr0 0 31) 1 1) 2 122) 3 123) 4 124) 5 125) 6 126) 7 127) 8 128) 9 129) 10 (nI W)) 11 (nI s)) 12 (nI c)) 13 (nI 0)) h = some (.inl 0, sI (sI (sI (sI (sR (sR (sR (sR (sR (sR (sR (sR (sR (sR fr0 0 31) 1 1) 2 122) 3 123) 4 124) 5 125) 6 126) 7 127) 8 128) 9 129) 10 (nI W)) 11 (nI s)) 12 (nI c)) 13 (nI m), g) ∧ ws.length = m ∧ (∀ v, v ∈ ws → 1 ≤ v ∧ v < 31) ∧ TXS g (l ++ tBs (wsT ws)) ∧ Inv g g Q ∧ Ch wD h g ∧ AR g 127 21 wf' ∧ (∀ i, i < m → wf' (7 * s + 1 + i) = ws.getD i 0) ∧ ∀ j, ¬ (7 * s + 1 ≤ j ∧ j < 7 * s + 1 + m) → wf' j = wf j := by
  suffices hh : ∃ g, LL_port__4 (sI (sI (sI (sI (sR (sR (sR (sR (sR (sR (sR (sR (sR (sR fr0 0 31) 1 1) 2 122) 3 123) 4 124) 5 125) 6 126) 7 127) 8 128) 9 129) 10 (nI W)) 11 (nI s)) 12 (nI c)) 13 (nI 0)) h = some (.inl 0, sI (sI (sI (sI (sR (sR (sR (sR (sR (sR (sR (sR (sR (sR fr0 0 31) 1 1) 2 122) 3 123) 4 124) 5 125) 6 126) 7 127) 8 128) 9 129) 10 (nI W)) 11 (nI s)) 12 (nI c)) 13 (nI m), g) ∧ ∃ (ws : List Nat) (wf' : Nat → Nat), ws.length = m ∧ (∀ v, v ∈ ws → 1 ≤ v ∧ v < 31) ∧ TXS g (l ++ tBs (wsT ws)) ∧ Inv g g Q ∧ Ch wD h g ∧ AR g 127 21 wf' ∧ (∀ i, i < m → wf' (7 * s + 1 + i) = ws.getD i 0) ∧ ∀ j, ¬ (7 * s + 1 ≤ j ∧ j < 7 * s + 1 + m) → wf' j = wf j by
    obtain ⟨g, a, ws, wf', b⟩ := hh
    exact ⟨g, ws, wf', a, b⟩
  unfold LL_port__4
  refine loop_g (fun k => sI (sI (sI (sI (sR (sR (sR (sR (sR (sR (sR (sR (sR (sR fr0 0 31) 1 1) 2 122) 3 123) 4 124) 5 125) 6 126) 7 127) 8 128) 9 129) 10 (nI W)) 11 (nI s)) 12 (nI c)) 13 (nI k)) (fun k g => ∃ (ws : List Nat) (wf' : Nat → Nat), ws.length = k ∧ (∀ v, v ∈ ws → 1 ≤ v ∧ v < 31) ∧ TXS g (l ++ tBs (wsT ws)) ∧ Inv g g Q ∧ Ch wD h g ∧ AR g 127 21 wf' ∧ (∀ i, i < k → wf' (7 * s + 1 + i) = ws.getD i 0) ∧ ∀ j, ¬ (7 * s + 1 ≤ j ∧ j < 7 * s + 1 + k) → wf' j = wf j) m rfl ⟨[], wf, rfl, fun v hv => absurd hv List.not_mem_nil, by rw [show wsT [] = [] by rfl, tBs_n, List.append_nil]; exact T0, I0, Ch.rf _ _, w1, fun i hi1 => absurd hi1 (Nat.not_lt_zero _), fun _ _ => rfl⟩ (fun k g hk1 hI => ?_) (fun g hI => ?_)
  · obtain ⟨ws, wf', e1, e2, T, I, cc, w', e3, e4⟩ := hI
    obtain ⟨v, ev⟩ : ∃ v, v = 1 + c / 2 ^ (3 * k + 7) % 30 := ⟨_, rfl⟩
    have hv : 1 ≤ v ∧ v < 31 := by omega
    have c5 : c / 2 ^ (3 * k + 7) < 2 ^ 31 := Nat.lt_of_le_of_lt (Nat.div_le_self _ _) (by omega)
    have m2 : o_ishr (nI c) (nI (3 * k + 7)) = nI (c / 2 ^ (3 * k + 7)) := q_ishr (by omega) (by omega)
    have m3 : nI 1 + o_irem (nI (c / 2 ^ (3 * k + 7))) (nI 30) = nI v := by rw [q_irem c5 (by decide) (by decide), nI_add, ev]
    have kw := w'.1
    have w70 : hi g 127 (7 * s) = nI m := by rw [w'.2 _ (by omega), e4 _ (by omega), w0]
    obtain ⟨h2, eh⟩ : ∃ z, z = wI g 127 (7 * s + 1 + k) (nI v) := ⟨_, rfl⟩
    have cw : Ch (fun o => o = 127) g h2 := by rw [eh]; exact Ch.w (D := fun o => o = 127) rfl _ _ _
    have tl := tl_ws ws
    have wb11 := wbl
    have dv := (dgs_l v).1
    obtain ⟨g', b, T2, I2, c2⟩ := x_lwn (j := 11) (v := v) (I.lw (lw_ch cw (fun o ho z => by omega))) (T.ch cw (fun o ho z => by omega)) (by decide) (by omega) (by rw [List.length_append]; omega)
    have b' : DL_say_ (sI (sL (sR (sR fr0 0 31) 1 122) 2 (lN 8606223186750603264)) 4 (nI v)) h2 = some ((), g') := b
    refine ⟨g', ?_, ws ++ [v], fuN wf' (7 * s + 1 + k) v, ?_, fun x hx => ?_, ?_, I2, (cc.tr (cw.mono (fun o z => Or.inr z))).tr (c2.mono (fun o z => Or.inl z)), ?_, fun i hi1 => ?_, fun j hj => ?_⟩
    · rw [eh] at b'
      have w71 := w_eq g 127 (7 * s + 1 + k) (nI v)
      simp (maxSteps := 4000000) (disch := omega) only [ob_t, ob_n, ob_ite, e_cI, e_cL, e_cR, e_vI, e_vL, e_vR, e_d2, e_d2_a, e_d2_b, e_d2z, e_d2z_a, e_d2z_b, e_d1, e_d1_a, e_GI, e_GI_a, e_GL, e_GL_a, e_GR, e_GR_a, e_AI, e_AI_a, e_AI_b, e_AB, e_AB_a, e_AB_b, e_AZ, e_AZ_a, e_AZ_b, e_AL, e_AL_a, e_AL_b, e_AR, e_AR_a, e_AR_b, e_Len, e_Len_a, e_CI, e_CI_a, e_CI_b, e_CZ, e_CZ_a, e_And, e_kAnd, e_Or, e_kOr, e_Not, e_kNot, e_B, e_kB, e_T, e_kT, e_NN, e_kNN, e_NewA, e_NewA_a, e_NewC, e_kNewC, e_aN, e_aI, e_aI_a, e_aI_b, e_aL, e_aL_a, e_aL_b, e_aR, e_aR_a, e_aR_b, e_Call, e_kCall, e_CallV, e_kCallV, e_SetI, e_kSetI, e_SetL, e_kSetL, e_SetR, e_kSetR, e_Inc, e_Skip, e_Brk, e_Cnt, e_Ret, e_kRet, e_Ret0, e_Seq, e_kSeq0, e_kSeq1, e_kSeq2, e_kSeqR, e_If, e_kIf, e_Do, e_kDo, e_Sup, e_kN0, e_d3, e_k3a, e_k3b, e_k3c, e_P, e_kPa, e_kPb, e_UA, e_kUAa, e_kUAb, e_kUAc, e_UL, e_kULa, e_kULb, e_kULc, e_UF, e_kUFa, e_kUFb, e_Cp, e_kCp, e_Sw, e_kSwa, e_kSwb0, e_kSwb1, e_kSwbR, e_M1, e_kM1, e_MZ, e_kMZ, e_MN, e_kMN, e_Tv, e_kTv, e_Tc, e_kTc, e_lpS, e_kLp, e_kLpB0, e_kLpB1, e_kLpB2, e_kLpBR, e_kLpU, e_dwS, e_kDwB0, e_kDwC, f_II, f_LL, f_RR, f_IL, f_IR, f_LI, f_LR, f_RI, f_RL, o_iadd, o_isub, o_imul, o_iand, o_ior, o_ixor, o_ladd, o_lsub, o_lmul, o_land, o_lor, o_i2b, o_i2s, o_lneg, o_imax, o_imin, r_lt, r_le, r_gt, r_ge, r_eq, r_ne, q_lt, q_le, q_gt, q_ge, q_eq, q_ne, decide_eq_true_eq, idI, and_true, true_and, and_false, false_and, or_true, true_or, or_false, false_or, not_true_eq_false, not_false_eq_true, if_true, if_false, ite_self, Bool.not_true, Bool.not_false, Bool.false_eq_true, Bool.true_eq_false, decide_true, decide_false, ne_eq, reduceIte, Nat.reduceEqDiff, Option.some.injEq, Prod.mk.injEq, eq_self, n_inb, nI_clamp, w_hr, w_hk, w_hl, w_eq, w_ne, wl_hr, wl_hk, wl_hi, wl_eq, wl_ne, fa_lit, fa_litL, nI_add, pk_mul, nI_ltI, nI_leI, nI_eq, b01, b0, b1, Nat.reduceLeDiff, Nat.reduceAdd, Nat.reduceMul, Nat.reduceSub, Nat.lt_irrefl, Nat.reduceLT, f_ss, f_sR, f_sL, lc0, lc1, lc01, stI, stL, kw, w70, hk1, m2, m3, b']
    · rw [List.length_append, e1, List.length_singleton]
    · rw [List.mem_append, List.mem_singleton] at hx
      rcases hx with hx | rfl
      · exact e2 x hx
      · exact hv
    · rw [wsT_a, tBs_a, ← List.append_assoc, tBs_c, tBs_c, tBs_n, List.append_nil, ← List.append_assoc]
      exact T2
    · have a := w'.w (7 * s + 1 + k) v
      rw [← eh] at a
      exact a.ch c2 (by unfold pD; omega)
    · unfold fuN
      by_cases y : i = k
      · subst y
        rw [if_pos rfl, gd_r e1.symm]
      · rw [if_neg (by omega), gd_l (by omega)]
        exact e3 i (by omega)
    · unfold fuN
      rw [if_neg (by omega)]
      exact e4 j (by omega)
  · obtain ⟨ws, wf', e1, e2, T, I, cc, w', e3, e4⟩ := hI
    have kw := w'.1
    have w70 : hi g 127 (7 * s) = nI m := by rw [w'.2 _ (by omega), e4 _ (by omega), w0]
    refine lp_out ?_
    simp (maxSteps := 4000000) (disch := omega) only [ob_t, ob_n, ob_ite, e_cI, e_cL, e_cR, e_vI, e_vL, e_vR, e_d2, e_d2_a, e_d2_b, e_d2z, e_d2z_a, e_d2z_b, e_d1, e_d1_a, e_GI, e_GI_a, e_GL, e_GL_a, e_GR, e_GR_a, e_AI, e_AI_a, e_AI_b, e_AB, e_AB_a, e_AB_b, e_AZ, e_AZ_a, e_AZ_b, e_AL, e_AL_a, e_AL_b, e_AR, e_AR_a, e_AR_b, e_Len, e_Len_a, e_CI, e_CI_a, e_CI_b, e_CZ, e_CZ_a, e_And, e_kAnd, e_Or, e_kOr, e_Not, e_kNot, e_B, e_kB, e_T, e_kT, e_NN, e_kNN, e_NewA, e_NewA_a, e_NewC, e_kNewC, e_aN, e_aI, e_aI_a, e_aI_b, e_aL, e_aL_a, e_aL_b, e_aR, e_aR_a, e_aR_b, e_Call, e_kCall, e_CallV, e_kCallV, e_SetI, e_kSetI, e_SetL, e_kSetL, e_SetR, e_kSetR, e_Inc, e_Skip, e_Brk, e_Cnt, e_Ret, e_kRet, e_Ret0, e_Seq, e_kSeq0, e_kSeq1, e_kSeq2, e_kSeqR, e_If, e_kIf, e_Do, e_kDo, e_Sup, e_kN0, e_d3, e_k3a, e_k3b, e_k3c, e_P, e_kPa, e_kPb, e_UA, e_kUAa, e_kUAb, e_kUAc, e_UL, e_kULa, e_kULb, e_kULc, e_UF, e_kUFa, e_kUFb, e_Cp, e_kCp, e_Sw, e_kSwa, e_kSwb0, e_kSwb1, e_kSwbR, e_M1, e_kM1, e_MZ, e_kMZ, e_MN, e_kMN, e_Tv, e_kTv, e_Tc, e_kTc, e_lpS, e_kLp, e_kLpB0, e_kLpB1, e_kLpB2, e_kLpBR, e_kLpU, e_dwS, e_kDwB0, e_kDwC, f_II, f_LL, f_RR, f_IL, f_IR, f_LI, f_LR, f_RI, f_RL, o_iadd, o_isub, o_imul, o_iand, o_ior, o_ixor, o_ladd, o_lsub, o_lmul, o_land, o_lor, o_i2b, o_i2s, o_lneg, o_imax, o_imin, r_lt, r_le, r_gt, r_ge, r_eq, r_ne, q_lt, q_le, q_gt, q_ge, q_eq, q_ne, decide_eq_true_eq, idI, and_true, true_and, and_false, false_and, or_true, true_or, or_false, false_or, not_true_eq_false, not_false_eq_true, if_true, if_false, ite_self, Bool.not_true, Bool.not_false, Bool.false_eq_true, Bool.true_eq_false, decide_true, decide_false, ne_eq, reduceIte, Nat.reduceEqDiff, Option.some.injEq, Prod.mk.injEq, eq_self, n_inb, nI_clamp, w_hr, w_hk, w_hl, w_eq, w_ne, wl_hr, wl_hk, wl_hi, wl_eq, wl_ne, fa_lit, fa_litL, nI_add, pk_mul, nI_ltI, nI_leI, nI_eq, b01, b0, b1, Nat.reduceLeDiff, Nat.reduceAdd, Nat.reduceMul, Nat.reduceSub, Nat.lt_irrefl, Nat.reduceLT, f_ss, f_sR, f_sL, lc0, lc1, lc01, stI, stL, kw, w70]
end
