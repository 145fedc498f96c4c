set_option maxRecDepth 100000
set_option maxHeartbeats 2000000
/-! the law draws a PORT: what holds; houses, ways, carriers -/
def aD (o : Nat) : Prop := 125 ≤ o ∧ o < 130
def pE (o : Nat) : Prop := 31 ≤ o ∧ o < 130
def tv (a b c d e f : Nat) : Nat → Nat := fun i => [a, b, c, d, e, f, 0, 0].getD i 0
def vJ (P : PT) (vf : Nat → Nat) : Prop := (∀ a, a < P 0 4 → vf a = P 1 a) ∧ ∀ a, a < 8 → vf (8 + a) = doors P a 0
def fJ (P : PT) (ff : Nat → Nat) : Prop := ∀ s, s < P 0 7 → ff s = P 6 s ∧ ff (3 + s) = 2 ^ P 7 s - 1
def AJ (h : St) (P : PT) : Prop := (∃ vf, AR h 125 16 vf ∧ vJ P vf) ∧ (∃ zf, AR h 126 10 zf ∧ zR P zf) ∧ (∃ wf, AR h 127 21 wf ∧ WRel P wf) ∧ (∃ qf, AR h 128 64 qf ∧ qR P qf) ∧ ∃ ff, AR h 129 6 ff ∧ fJ P ff
def lb (P : PT) : Nat := 28 + 15 * P 0 4 + 9 * P 0 5 + 24 * P 0 6 + 60 * P 0 7 + 22 * P 9 1
def PN (P : PT) (d l H W K S N : Nat) : Prop := P 0 1 = d ∧ P 0 2 = l ∧ P 0 4 = H ∧ P 0 5 = W ∧ P 0 6 = K ∧ P 0 7 = S ∧ P 9 1 = N ∧ P 9 2 = 0 ∧ P 0 0 = 1 + H + W + K + S + N
def PX (L : Nat) (xs : Nat → Int32) (h : St) (Q : PT) (tf : Nat → Nat) (u : Nat) : Prop := Inv h h Q ∧ SCR L xs h ∧ TXh h ∧ AR h 124 8 tf ∧ AR h 123 1 (fun _ => u)
def PJ (L : Nat) (xs : Nat → Int32) (h : St) (ts : List (Nat × Nat)) (P Q : PT) (tf : Nat → Nat) : Prop := PX L xs h Q tf (P 0 3) ∧ TXS h (tBs ts) ∧ LnS ts Z0 P (P 0 0) ∧ P 0 0 ≠ 0 ∧ (tBs ts).length ≤ lb P ∧ AJ h P
theorem lw_ch {D : Nat → Prop} {h g : St} (c : Ch D h g) (d : ∀ o, o < 122 → ¬ D o) : Lw h g := fun o ho => ⟨by rw [c.1.2.1], (c.2 o (d o ho)).1, (c.2 o (d o ho)).2, fun _ k => by rw [c.1.1]⟩
theorem TXS.ch {D : Nat → Prop} {h g : St} {l : List Nat} (T : TXS h l) (c : Ch D h g) (d : ∀ o, o < 123 → ¬ D o) : TXS g l := by
  obtain ⟨t1, t2, t3, t4, t5, t6, t7⟩ := T
  refine ⟨t1, by rw [c.1.2.1]; exact t2, by rw [(c.2 122 (d _ (by decide))).1]; exact t3, by rw [(c.2 32 (d _ (by decide))).1]; exact t4, fun j hj => by rw [(c.2 33 (d _ (by decide))).1]; exact t5 j hj, fun j hj => ?_, t7⟩
  rw [(c.2 122 (d _ (by decide))).1]
  exact t6 j hj
theorem SCR.ch {D : Nat → Prop} {h g : St} {L : Nat} {xs : Nat → Int32} (H : SCR L xs h) (c : Ch D h g) (d : ¬ D 1) : SCR L xs g := ⟨by rw [c.1.2.1]; exact H.1, fun k => by rw [(c.2 1 d).1]; exact H.2.1 k, H.2.2⟩
theorem AJ.ch {D : Nat → Prop} {h g : St} {P : PT} (A : AJ h P) (c : Ch D h g) (d : ∀ o, 125 ≤ o → o < 130 → ¬ D o) : AJ g P := by
  obtain ⟨⟨vf, b1, b2⟩, ⟨zf, c1, c2⟩, ⟨wf, d1, d2⟩, ⟨qf, e1, e2⟩, ⟨ff, f1, f2⟩⟩ := A
  exact ⟨⟨vf, b1.ch c (d _ (by decide) (by decide)), b2⟩, ⟨zf, c1.ch c (d _ (by decide) (by decide)), c2⟩, ⟨wf, d1.ch c (d _ (by decide) (by decide)), d2⟩, ⟨qf, e1.ch c (d _ (by decide) (by decide)), e2⟩, ⟨ff, f1.ch c (d _ (by decide) (by decide)), f2⟩⟩
theorem doN_c {P P' : PT} (a l : Nat) : ∀ n, (∀ w, w < n → P' 2 w = P 2 w ∧ P' 3 w = P 3 w) → doN P' a l n = doN P a l n
  | 0, _ => rfl
  | n + 1, h => by
    unfold doN
    rw [doN_c a l n (fun w hw => h w (by omega)), (h n (by omega)).1, (h n (by omega)).2]
section
variable {L : Nat} {xs : Nat → Int32} {h h1 g : St} {ts us : List (Nat × Nat)} {P P' Q : PT} {tf : Nat → Nat} {u : Nat} {l : List Nat}
theorem PX.ch {D : Nat → Prop} (H : PX L xs h Q tf u) (c : Ch D h g) (d : ∀ o, o < 122 → ¬ D o) (d3 : ¬ D 123) (d4 : ¬ D 124) : PX L xs g Q tf u := by
  obtain ⟨a, b, e, f, k⟩ := H
  have i := a.lw (lw_ch c d)
  exact ⟨i, b.ch c (d _ (by decide)), e.to c (fun o ho => d o (by omega)), f.ch c d4, k.ch c d3⟩
theorem PX.tx (H : PX L xs h Q tf u) (T : TXP h g Q l) : PX L xs g Q tf u := by
  obtain ⟨a, b, e, f, k⟩ := H
  have c := T.2.2
  have d : ∀ o, ¬ (31 ≤ o ∧ o < 123) → ¬ pD o := fun o z => z
  exact ⟨T.2.1, b.ch c (d _ (by decide)), e.to c (fun o ho => d o (by omega)), f.ch c (d _ (by decide)), k.ch c (d _ (by decide))⟩
theorem PJ.post (H : PJ L xs h ts P Q tf) (c : Ch aD h h1) (T : TXP h1 g Q (tBs ts ++ tBs us)) (l : LnS us P P' 1) (e0 : P' 0 0 = P 0 0 + 1) (e3 : P' 0 3 = P 0 3) (hl : lb P + (tBs us).length ≤ lb P') (A : AJ h1 P') : PJ L xs g (ts ++ us) P' Q tf ∧ Ch pE h g := by
  obtain ⟨x, t, ln, p0, le, -⟩ := H
  have x1 := (x.ch c (fun o ho z => by unfold aD at z; omega) (by unfold aD; omega) (by unfold aD; omega)).tx T
  refine ⟨⟨by rw [e3]; exact x1, by rw [tBs_a]; exact T.1, by rw [e0]; exact ln.tr l, by omega, ?_, A.ch T.2.2 (fun o h1 h2 z => by unfold pD at z; omega)⟩, (c.mono (fun o z => by unfold aD at z; unfold pE; omega)).tr (T.2.2.mono (fun o z => by unfold pD at z; unfold pE; omega))⟩
  rw [tBs_a, List.length_append]
  omega
theorem wbl : (wb 0).length = 4 ∧ (wb 1).length = 4 ∧ (wb 2).length = 3 ∧ (wb 3).length = 4 ∧ (wb 4).length = 5 ∧ (wb 5).length = 4 ∧ (wb 6).length = 3 ∧ (wb 7).length = 7 ∧ (wb 8).length = 2 ∧ (wb 9).length = 6 ∧ (wb 10).length = 5 ∧ (wb 11).length = 4 ∧ (wb 12).length = 5 ∧ (wb 13).length = 2 := by decide +kernel
theorem tl_port (a b c : Nat) (hb : b ≤ 9) : (tBs [(0, 0), (0, 1), (1, a), (0, 2), (1, b), (0, 3), (1, c), (2, 0)]).length ≤ 28 := by
  have := wbl
  have d1 := (dgs_l a).1
  have d2 := (dgs_l b).2 hb
  have d3 := (dgs_l c).1
  simp only [tBs_c, tBs_n, List.length_append, List.length_nil, tB_0, tB_1, tB_2]
  omega
theorem tl_house (a : Nat) : (tBs [(0, 4), (0, 5), (1, a), (2, 0)]).length ≤ 15 := by
  have := wbl
  have d1 := (dgs_l a).1
  simp only [tBs_c, tBs_n, List.length_append, List.length_nil, tB_0, tB_1, tB_2]
  omega
theorem tl_way (a b : Nat) (ha : a ≤ 9) (hb : b ≤ 9) : (tBs [(0, 6), (1, a), (1, b), (2, 0)]).length ≤ 9 := by
  have := wbl
  have d1 := (dgs_l a).2 ha
  have d2 := (dgs_l b).2 hb
  simp only [tBs_c, tBs_n, List.length_append, List.length_nil, tB_0, tB_1, tB_2]
  omega
theorem tl_carrier (a b : Nat) (ha : a ≤ 9) : (tBs [(0, 7), (0, 8), (1, a), (0, 9), (1, b), (2, 0)]).length ≤ 24 := by
  have := wbl
  have d1 := (dgs_l a).2 ha
  have d2 := (dgs_l b).1
  simp only [tBs_c, tBs_n, List.length_append, List.length_nil, tB_0, tB_1, tB_2]
  omega
theorem tl_carry (a b c d : Nat) (ha : a ≤ 9) (hb : b ≤ 9) (hc : c ≤ 9) : (tBs [(0, 12), (1, a), (1, b), (0, 13), (1, c), (0, 8), (1, d), (2, 0)]).length ≤ 22 := by
  have := wbl
  have d1 := (dgs_l a).2 ha
  have d2 := (dgs_l b).2 hb
  have d3 := (dgs_l c).2 hc
  have d4 := (dgs_l d).1
  simp only [tBs_c, tBs_n, List.length_append, List.length_nil, tB_0, tB_1, tB_2]
  omega
theorem AR.at {r n : Nat} {f : Nat → Nat} (H : AR h r n f) {k : Nat} (hk1 : k < n) : hi h r k = nI (f k) := H.2 k hk1
theorem x_p1 {d l H : Nat} (hH : H < 8) (hd : d ≤ 12) (J : PJ L xs h ts P Q (tv d l H 0 0 0)) (N : PN P d l 0 0 0 0 0) : ∃ (g : St) (ts' : List (Nat × Nat)) (P' : PT), LL_port__1 (sI (sR (sR (sR (sR (sR (sR (sR (sR (sR (sR fr0 0 31) 1 1) 2 122) 3 123) 4 124) 5 125) 6 126) 7 127) 8 128) 9 129) 10 (nI 0)) h = some (.inl 0, sI (sR (sR (sR (sR (sR (sR (sR (sR (sR (sR fr0 0 31) 1 1) 2 122) 3 123) 4 124) 5 125) 6 126) 7 127) 8 128) 9 129) 10 (nI H), g) ∧ PJ L xs g ts' P' Q (tv d l H 0 0 0) ∧ PN P' d l H 0 0 0 0 ∧ Ch pE h g := by
  suffices hh : ∃ g, LL_port__1 (sI (sR (sR (sR (sR (sR (sR (sR (sR (sR (sR fr0 0 31) 1 1) 2 122) 3 123) 4 124) 5 125) 6 126) 7 127) 8 128) 9 129) 10 (nI 0)) h = some (.inl 0, sI (sR (sR (sR (sR (sR (sR (sR (sR (sR (sR fr0 0 31) 1 1) 2 122) 3 123) 4 124) 5 125) 6 126) 7 127) 8 128) 9 129) 10 (nI H), g) ∧ ∃ (ts' : List (Nat × Nat)) (P' : PT), PJ L xs g ts' P' Q (tv d l H 0 0 0) ∧ PN P' d l H 0 0 0 0 ∧ Ch pE h g by
    obtain ⟨g, a, ts', P', b⟩ := hh
    exact ⟨g, ts', P', a, b⟩
  unfold LL_port__1
  refine loop_g (fun k => sI (sR (sR (sR (sR (sR (sR (sR (sR (sR (sR fr0 0 31) 1 1) 2 122) 3 123) 4 124) 5 125) 6 126) 7 127) 8 128) 9 129) 10 (nI k)) (fun k g => ∃ (ts' : List (Nat × Nat)) (P' : PT), PJ L xs g ts' P' Q (tv d l H 0 0 0) ∧ PN P' d l k 0 0 0 0 ∧ Ch pE h g) H rfl ⟨ts, P, J, N, Ch.rf _ _⟩ (fun k g hk1 hI => ?_) (fun g hI => ?_)
  · obtain ⟨ts1, P1, J1, N1, c1⟩ := hI
    obtain ⟨n1, n2, n4, n5, n6, n7, n9, n92, n0⟩ := N1
    obtain ⟨⟨i0, sc, th, at_, au⟩, tx, ln, p0, le, ⟨vf, v1, v2⟩, ⟨zf, z1, z2⟩, ⟨wf, w1, w2⟩, ⟨qf, q1, q2⟩, ⟨ff, f1, f2⟩⟩ := J1
    obtain ⟨a, ea⟩ : ∃ a, a = dw L xs (4 + k) 21 := ⟨_, rfl⟩
    have ha : a < 21 := by rw [ea]; exact dw_lt _ _ _ (by decide)
    have dr := x_draw sc (k := 4 + k) (n := 21) (by omega) (by decide) (by decide)
    rw [← ea] at dr
    have cw : Ch aD g (wI g 125 k (nI a)) := Ch.w (D := aD) (by unfold aD; omega) _ _ _
    have t2 : hi g 124 2 = nI H := at_.2 2 (by decide)
    have kt := at_.1
    have kv := v1.1
    have le2 : (tBs ts1).length ≤ 28 + 15 * k := by unfold lb at le; omega
    have tl := tl_house a
    obtain ⟨g', b, T⟩ := x_ln_house (a := a) (i0.lw (lw_ch cw (fun o ho z => by unfold aD at z; omega))) (tx.ch cw (fun o ho z => by unfold aD at z; omega)) (by omega) (by omega)
    have A : AJ (wI g 125 k (nI a)) (up (up (up P1 1 (P1 0 4) a) 0 4 (P1 0 4 + 1)) 0 0 (P1 0 0 + 1)) := by
      refine ⟨⟨fuN vf k a, v1.w k a, fun b hb => ?_, fun b hb => ?_⟩, ⟨zf, z1.o (by decide) _ _, fun b hb => ?_⟩, ⟨wf, w1.o (by decide) _ _, fun b hb => ?_⟩, ⟨qf, q1.o (by decide) _ _, fun b hb => ?_⟩, ⟨ff, f1.o (by decide) _ _, fun b hb => ?_⟩⟩
      · have hb2 : b < k + 1 := by simpa [up, n4] using hb
        by_cases y : b = k
        · simp [fuN, up, n4, y]
        · have := v2.1 b (by omega)
          simp [fuN, up, n4, y, this]
      · have := v2.2 b hb
        have e : doors (up (up (up P1 1 (P1 0 4) a) 0 4 (P1 0 4 + 1)) 0 0 (P1 0 0 + 1)) b 0 = doors P1 b 0 := doN_c b 0 _ (fun w hw => by simp [up])
        rw [e, ← this]
        exact if_neg (by omega)
      · exact absurd hb (by simp [up, n6])
      · exact absurd hb (by simp [up, n7])
      · exact absurd hb (by simp [up, n9])
      · exact absurd hb (by simp [up, n7])
    obtain ⟨J2, c2⟩ := PJ.post ⟨⟨i0, sc, th, at_, au⟩, tx, ln, p0, le, ⟨vf, v1, v2⟩, ⟨zf, z1, z2⟩, ⟨wf, w1, w2⟩, ⟨qf, q1, q2⟩, ⟨ff, f1, f2⟩⟩ cw T (ln_house p0 (by omega) ha) (by simp [up]) (by simp [up]) (by simp [lb, up]; omega) A
    refine ⟨g', ?_, _, _, J2, ?_, c1.tr c2⟩
    · simp (maxSteps := 4000000) (disch := omega) only [ob_t, ob_n, ob_ite, e_cI, e_cL, e_cR, e_vI, e_vL, e_vR, e_d2, e_d2_a, e_d2_b, e_d2z, e_d2z_a, e_d2z_b, e_d1, e_d1_a, e_GI, e_GI_a, e_GL, e_GL_a, e_GR, e_GR_a, e_AI, e_AI_a, e_AI_b, e_AB, e_AB_a, e_AB_b, e_AZ, e_AZ_a, e_AZ_b, e_AL, e_AL_a, e_AL_b, e_AR, e_AR_a, e_AR_b, e_Len, e_Len_a, e_CI, e_CI_a, e_CI_b, e_CZ, e_CZ_a, e_And, e_kAnd, e_Or, e_kOr, e_Not, e_kNot, e_B, e_kB, e_T, e_kT, e_NN, e_kNN, e_NewA, e_NewA_a, e_NewC, e_kNewC, e_aN, e_aI, e_aI_a, e_aI_b, e_aL, e_aL_a, e_aL_b, e_aR, e_aR_a, e_aR_b, e_Call, e_kCall, e_CallV, e_kCallV, e_SetI, e_kSetI, e_SetL, e_kSetL, e_SetR, e_kSetR, e_Inc, e_Skip, e_Brk, e_Cnt, e_Ret, e_kRet, e_Ret0, e_Seq, e_kSeq0, e_kSeq1, e_kSeq2, e_kSeqR, e_If, e_kIf, e_Do, e_kDo, e_Sup, e_kN0, e_d3, e_k3a, e_k3b, e_k3c, e_P, e_kPa, e_kPb, e_UA, e_kUAa, e_kUAb, e_kUAc, e_UL, e_kULa, e_kULb, e_kULc, e_UF, e_kUFa, e_kUFb, e_Cp, e_kCp, e_Sw, e_kSwa, e_kSwb0, e_kSwb1, e_kSwbR, e_M1, e_kM1, e_MZ, e_kMZ, e_MN, e_kMN, e_Tv, e_kTv, e_Tc, e_kTc, e_lpS, e_kLp, e_kLpB0, e_kLpB1, e_kLpB2, e_kLpBR, e_kLpU, e_dwS, e_kDwB0, e_kDwC, f_II, f_LL, f_RR, f_IL, f_IR, f_LI, f_LR, f_RI, f_RL, o_iadd, o_isub, o_imul, o_iand, o_ior, o_ixor, o_ladd, o_lsub, o_lmul, o_land, o_lor, o_i2b, o_i2s, o_lneg, o_imax, o_imin, r_lt, r_le, r_gt, r_ge, r_eq, r_ne, q_lt, q_le, q_gt, q_ge, q_eq, q_ne, decide_eq_true_eq, idI, and_true, true_and, and_false, false_and, or_true, true_or, or_false, false_or, not_true_eq_false, not_false_eq_true, if_true, if_false, ite_self, Bool.not_true, Bool.not_false, Bool.false_eq_true, Bool.true_eq_false, decide_true, decide_false, ne_eq, reduceIte, Nat.reduceEqDiff, Option.some.injEq, Prod.mk.injEq, eq_self, n_inb, nI_clamp, w_hr, w_hk, w_hl, w_eq, w_ne, wl_hr, wl_hk, wl_hi, wl_eq, wl_ne, fa_lit, fa_litL, nI_add, pk_mul, nI_ltI, nI_leI, nI_eq, b01, b0, b1, Nat.reduceLeDiff, Nat.reduceAdd, Nat.reduceMul, Nat.reduceSub, Nat.lt_irrefl, Nat.reduceLT, f_ss, f_sR, f_sL, lc0, lc1, lc01, stI, stL, kt, t2, hk1, dr, kv, b]
    · simp [PN, up, n1, n2, n4, n5, n6, n7, n9, n92, n0]
      omega
  · obtain ⟨ts1, P1, ⟨⟨i0, sc, th, at_, au⟩, -⟩, -⟩ := hI
    have t2 : hi g 124 2 = nI H := at_.2 2 (by decide)
    have kt := at_.1
    refine lp_out ?_
    simp (maxSteps := 4000000) (disch := omega) only [ob_t, ob_n, ob_ite, e_cI, e_cL, e_cR, e_vI, e_vL, e_vR, e_d2, e_d2_a, e_d2_b, e_d2z, e_d2z_a, e_d2z_b, e_d1, e_d1_a, e_GI, e_GI_a, e_GL, e_GL_a, e_GR, e_GR_a, e_AI, e_AI_a, e_AI_b, e_AB, e_AB_a, e_AB_b, e_AZ, e_AZ_a, e_AZ_b, e_AL, e_AL_a, e_AL_b, e_AR, e_AR_a, e_AR_b, e_Len, e_Len_a, e_CI, e_CI_a, e_CI_b, e_CZ, e_CZ_a, e_And, e_kAnd, e_Or, e_kOr, e_Not, e_kNot, e_B, e_kB, e_T, e_kT, e_NN, e_kNN, e_NewA, e_NewA_a, e_NewC, e_kNewC, e_aN, e_aI, e_aI_a, e_aI_b, e_aL, e_aL_a, e_aL_b, e_aR, e_aR_a, e_aR_b, e_Call, e_kCall, e_CallV, e_kCallV, e_SetI, e_kSetI, e_SetL, e_kSetL, e_SetR, e_kSetR, e_Inc, e_Skip, e_Brk, e_Cnt, e_Ret, e_kRet, e_Ret0, e_Seq, e_kSeq0, e_kSeq1, e_kSeq2, e_kSeqR, e_If, e_kIf, e_Do, e_kDo, e_Sup, e_kN0, e_d3, e_k3a, e_k3b, e_k3c, e_P, e_kPa, e_kPb, e_UA, e_kUAa, e_kUAb, e_kUAc, e_UL, e_kULa, e_kULb, e_kULc, e_UF, e_kUFa, e_kUFb, e_Cp, e_kCp, e_Sw, e_kSwa, e_kSwb0, e_kSwb1, e_kSwbR, e_M1, e_kM1, e_MZ, e_kMZ, e_MN, e_kMN, e_Tv, e_kTv, e_Tc, e_kTc, e_lpS, e_kLp, e_kLpB0, e_kLpB1, e_kLpB2, e_kLpBR, e_kLpU, e_dwS, e_kDwB0, e_kDwC, f_II, f_LL, f_RR, f_IL, f_IR, f_LI, f_LR, f_RI, f_RL, o_iadd, o_isub, o_imul, o_iand, o_ior, o_ixor, o_ladd, o_lsub, o_lmul, o_land, o_lor, o_i2b, o_i2s, o_lneg, o_imax, o_imin, r_lt, r_le, r_gt, r_ge, r_eq, r_ne, q_lt, q_le, q_gt, q_ge, q_eq, q_ne, decide_eq_true_eq, idI, and_true, true_and, and_false, false_and, or_true, true_or, or_false, false_or, not_true_eq_false, not_false_eq_true, if_true, if_false, ite_self, Bool.not_true, Bool.not_false, Bool.false_eq_true, Bool.true_eq_false, decide_true, decide_false, ne_eq, reduceIte, Nat.reduceEqDiff, Option.some.injEq, Prod.mk.injEq, eq_self, n_inb, nI_clamp, w_hr, w_hk, w_hl, w_eq, w_ne, wl_hr, wl_hk, wl_hi, wl_eq, wl_ne, fa_lit, fa_litL, nI_add, pk_mul, nI_ltI, nI_leI, nI_eq, b01, b0, b1, Nat.reduceLeDiff, Nat.reduceAdd, Nat.reduceMul, Nat.reduceSub, Nat.lt_irrefl, Nat.reduceLT, f_ss, f_sR, f_sL, lc0, lc1, lc01, stI, stL, kt, t2]
end
