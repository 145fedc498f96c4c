set_option maxRecDepth 100000
set_option maxHeartbeats 1000000
/-! call: image -/
section
variable {L : Nat} {xs : Nat → Int32} {h g : St} {P : PT}
/-- an image's place, there already or made -/
def ImAt (h g : St) (k q : Nat) : Prop := LoK h g ∧ hr g 67 k = q ∧ (∀ j, j ≠ k → hr g 67 j = hr h 67 j) ∧ PS g q ∧ 158 ≤ q ∧ q + 16 ≤ hn g ∧ NMr g ∧ hn h ≤ hn g ∧ (∀ r, r < hn h → hk g r = hk h r ∧ hi g r = hi h r ∧ hl g r = hl h r) ∧ (∀ r j, r < hn h → r ≠ 67 → hr g r j = hr h r j) ∧ ∀ j, j < 3 → j ≠ k → hr h 67 j = 0 ∨ hr h 67 j + 16 ≤ q ∨ q + 16 ≤ hr h 67 j
theorem cnI_new {k p : Nat} (hk3 : k < 3) (h0 : hr h 67 k = 0) (h1 : hr g 67 k = p) (hp : p ≠ 0) (ho : ∀ j, j ≠ k → hr g 67 j = hr h 67 j) : cnI g = cnI h + 1 := by
  unfold cnI
  rcases (show k = 0 ∨ k = 1 ∨ k = 2 by omega) with rfl | rfl | rfl
  · rw [ho 1 (by decide), ho 2 (by decide), h0, h1, if_neg hp, if_pos rfl]; omega
  · rw [ho 0 (by decide), ho 2 (by decide), h0, h1, if_neg hp, if_pos rfl]; omega
  · rw [ho 0 (by decide), ho 1 (by decide), h0, h1, if_neg hp, if_pos rfl]
theorem x_imgAt (H : Inv L xs h P) {k : Nat} (hk3 : k < 3) : ∃ g q, (dIf (dNot (dNN (dAR (dGR 11 4 (vR 0)) (vI 1)))) (d3 stR (dGR 11 4 (vR 0)) (vI 1) (dNewC 5 DX5_init)) dSkip : Sm Int32) (sI (sR fr0 0 oX) 1 (nI k)) h = some (.inl 0, sI (sR fr0 0 oX) 1 (nI k), g) ∧ ImAt h g k q := by
  have hO := H.co
  have hcc := o_is
  have hN := H.nm
  have k67 := hO.k67
  have hPs := H.ps
  have r4 := hO.roX_4
  have kX := hO.koX
  have eA : (dGR 11 4 (vR 0)) (sI (sR fr0 0 oX) 1 (nI k)) h = some (67, h) := by
    simp only [e_GR, e_vR, ob_t, e_GR_a, f_II, f_LL, f_RR, f_IL, f_IR, f_LI, f_LR, f_RI, f_RL, kX, r4, and_true, true_and, and_false, false_and, or_true, true_or, or_false, false_or, not_true_eq_false, not_false_eq_true, if_true, if_false, ite_self, Bool.not_true, Bool.not_false, Bool.false_eq_true, Bool.true_eq_false, decide_true, decide_false, ne_eq, reduceIte, Nat.reduceEqDiff, Option.some.injEq, Prod.mk.injEq, eq_self]
  have eV : (vI 1) (sI (sR fr0 0 oX) 1 (nI k)) h = some (nI k, h) := by
    simp only [e_vI, f_II, f_LL, f_RR, f_IL, f_IR, f_LI, f_LR, f_RI, f_RL, and_true, true_and, and_false, false_and, or_true, true_or, or_false, false_or, not_true_eq_false, not_false_eq_true, if_true, if_false, ite_self, Bool.not_true, Bool.not_false, Bool.false_eq_true, Bool.true_eq_false, decide_true, decide_false, ne_eq, reduceIte, Nat.reduceEqDiff, Option.some.injEq, Prod.mk.injEq, eq_self]
  have ei : inb (nI k) 3 = true := n_inb (by decide) hk3
  have ec : (nI k).toNatClampNeg = k := nI_clamp (by omega)
  have eC : (dNot (dNN (dAR (dGR 11 4 (vR 0)) (vI 1)))) (sI (sR fr0 0 oX) 1 (nI k)) h = some (!decide (hr h 67 k ≠ 0), h) := by
    rw [e_Not, e_NN, e_AR, eA, ob_t, e_AR_a, eV, ob_t, e_AR_b, k67, if_pos ⟨rfl, ei⟩, ec, ob_t, e_kNN, ob_t, e_kNot]
  by_cases h0 : hr h 67 k = 0
  · obtain ⟨p, hp⟩ : ∃ p, p = hn h := ⟨_, rfl⟩
    have hN1 := hN.1
    have hp1 : 158 ≤ p := by omega
    have hkp : hk (wN h (5, 0) 17) p = (5, 0) := by rw [hp]; exact wN_hk'
    obtain ⟨g1, c1, m1, m2, m3, m4, m5, m6⟩ := x_newPort (h := wN h (5, 0) 17) (p := p) (by omega) (by rw [wN_hn, hp]) hkp
    have k1 : hk g1 67 = (17, 3) := by rw [m4 67 (by omega), wN_hk (by omega), k67]
    have hnp : hn h = p := hp.symm
    have e17 : clN 5 = 17 := rfl
    have eN : (dNewC 5 DX5_init) (sI (sR fr0 0 oX) 1 (nI k)) h = some (p, g1) := by
      rw [e_NewC, e17, hnp, c1, ob_t, e_kNewC]
    have eS : stR 67 (nI k) p g1 = some (wR g1 67 k p) := by
      unfold stR
      rw [k1, if_pos ⟨rfl, ei, by rw [m3.k]⟩, ec]
    have q1 : hr (wR g1 67 k p) 67 k = p := by rw [wR_hr, if_pos ⟨rfl, rfl⟩]
    have q2 : ∀ j, j ≠ k → hr (wR g1 67 k p) 67 j = hr h 67 j := fun j hj => by rw [wR_hr, if_neg (by omega), m5 67 j (by omega), wN_hr (by omega)]
    refine ⟨wR g1 67 k p, p, ?_, ⟨fun r hr1 => ?_, fun r j hr1 h67 => ?_⟩, q1, q2, ?_, hp1, ?_, ?_, ?_, fun r hr1 => ⟨?_, ?_, ?_⟩, fun r j hr1 h67 => ?_, fun j hj hjk => ?_⟩
    · rw [e_If, eC, ob_t, e_kIf, if_pos (by rw [h0]; rfl), e_d3, eA, ob_t, e_k3a, eV, ob_t, e_k3b, eN, ob_t, e_k3c, eS, ob_t]
      rfl
    · rw [wR_hk, m4 r (by omega), wN_hk (by omega)]
    · rw [wR_hr, if_neg (by omega), m5 r j (by omega), wN_hr (by omega)]
    · refine ⟨m3.1, m3.2.1, fun j hj => ?_, fun j hj => ?_⟩
      · rw [wR_hr, if_neg (by omega)]; exact m3.2.2.1 j hj
      · rw [wR_hr, if_neg (by omega)]; exact m3.2.2.2 j hj
    · rw [wR_hn, m1]; omega
    · have hc1 := cnI_new hk3 h0 q1 (by omega) q2
      unfold NMr
      rw [hc1, wR_hn, wR_hs, m1, m2, wN_hs]
      have hN2 := hN.2
      omega
    · rw [wR_hn, m1]; omega
    · rw [wR_hk, m4 r (by omega), wN_hk (by omega)]
    · rw [wR_hi, (m6 r (by omega)).1, wN_hi (by omega)]
    · rw [wR_hl, (m6 r (by omega)).2, wN_hl (by omega)]
    · rw [wR_hr, if_neg (by omega), m5 r j (by omega), wN_hr (by omega)]
    · rcases H.im.1 j hj with ⟨b1, b2⟩ | ⟨b1, b2, b3⟩
      · exact Or.inl b1
      · exact Or.inr (Or.inl (by omega))
  · rcases H.im.1 k hk3 with ⟨b1, b2⟩ | ⟨b1, b2, b3, P1, b4, b5⟩
    · exact absurd b1 h0
    · refine ⟨h, hr h 67 k, ?_, ⟨fun _ _ => rfl, fun _ _ _ _ => rfl⟩, rfl, fun _ _ => rfl, b4.1, b1, b2, hN, Nat.le_refl _, fun _ _ => ⟨rfl, rfl, rfl⟩, fun _ _ _ _ => rfl, fun j hj hjk => ?_⟩
      · have hd : decide (hr h 67 k ≠ 0) = true := decide_eq_true h0
        rw [e_If, eC, ob_t, e_kIf, hd]
        rfl
      · rcases H.im.2 j k hj hk3 hjk with q | q | q | q
        · exact Or.inl q
        · exact absurd q h0
        · exact Or.inr (Or.inl q)
        · exact Or.inr (Or.inr q)
theorem PG.same {q : Nat} (H : PG h q P) (hh : ∀ r, q ≤ r → r < q + 16 → hk g r = hk h r ∧ hi g r = hi h r) (hrr : ∀ r j, q ≤ r → r < q + 16 → hr g r j = hr h r j) : PG g q P := by
  obtain ⟨h1, h2, h3⟩ := H
  refine ⟨⟨h1.1, fun j hj => by rw [(hh _ (by omega) (by omega)).1]; exact h1.2.1 j hj, fun j hj => by rw [hrr _ _ (by omega) (by omega)]; exact h1.2.2.1 j hj, fun j hj => by rw [hrr _ _ (by omega) (by omega)]; exact h1.2.2.2 j hj⟩, ⟨fun j k hjk => ?_, fun k hk1 => ?_⟩, h3⟩
  · have hj : j < 16 := by unfold PIn at hjk; omega
    rw [(hh _ (by omega) (by omega)).2]
    exact h2.1 j k hjk
  · rw [(hh _ (by omega) (by omega)).2, (hh _ (by omega) (by omega)).2]
    exact h2.2 k hk1
theorem op_image (v : Int32) : OpI L xs (DX11_image (sI (sR fr0 0 oX) 1 v)) (DX12_image (sI (sR fr0 0 oM) 1 v)) := by
  intro h P H
  have hO := H.co
  have hP := H.ps
  have hM := H.ms
  have hcc := o_is
  have k67 := hO.k67
  have eo : ∀ x : Int32, o_i2l x = x.toInt64 := fun _ => rfl
  have m1 := m_in0 (wI h oM 0 (nI 0)) v (n := 2) (by decide)
  by_cases z1 : nI 0 ≤ v ∧ v < nI (2 + 1)
  · rw [if_pos z1] at m1
    obtain ⟨k, hk1, rfl⟩ := n_of (by decide) z1
    have hk3 : k < 3 := hk1
    have e1 : (nI k < nI 0) = False := by rw [nI_ltI (by omega) (by decide)]; exact eq_false (by omega)
    have e2 : (Int32.ofNat 3 ≤ nI k) = False := by show (nI 3 ≤ nI k) = False; rw [nI_leI (by decide) (by omega)]; exact eq_false (by omega)
    obtain ⟨g, q, c0, lo, i1, i2, i3, i4, i5, i6, i7, i8, i9, i10⟩ := x_imgAt H hk3
    have hN1 := H.nm.1
    have hOg := hO.lo lo
    have hPg := hP.lo lo (by omega)
    have hMg := hM.lo lo (by omega)
    obtain ⟨g1, c1, q1, a0, a9, a1, a2, a3, a4, a5, a6, a7, a8, a10, a11, a12, a13, a14, a15⟩ := x_pcopy (p := q) (q := oP) i3 hPg (by omega)
    have hRg : RP g oP P := (PG.same H.pg (fun r h1 h2 => ⟨(i8 r (by omega)).1, (i8 r (by omega)).2.1⟩) (fun r j h1 h2 => i9 r j (by omega) (by omega))).r
    have hR1 : RP g1 q P := RP.copied hRg H.w a0 a9 a1 a2 a3 a4 a5 a6 a7 a8 (fun j i h1 h2 h3 => by
      rcases (show j = 10 ∨ j = 11 ∨ j = 12 ∨ j = 13 by omega) with rfl | rfl | rfl | rfl
      · exact a10 i h3
      · exact a11 i h3
      · exact a12 i h3
      · exact a13 i h3) a14 a15
    obtain ⟨g2, hg2⟩ : ∃ x, x = wI g1 oM 0 (nI 0) := ⟨_, rfl⟩
    have q2 : Ch (fun o => o = oM) g1 g2 := by rw [hg2]; exact Ch.w (D := fun o => o = oM) rfl g1 0 _
    have hM1 : MS g1 oM := hMg.to q1.1
    have hM2 : MS g2 oM := hM1.to q2.1
    obtain ⟨g3, c3, q3, e3⟩ := m_copyPort hM2 (a := 0) (b := 1 + k) (by decide) (by omega) (by omega)
    have hM3 : MS g3 oM := hM2.to q3.1
    obtain ⟨g4, hg4⟩ : ∃ x, x = wI g3 (oM + 16) k (nI 1) := ⟨_, rfl⟩
    have q4 : Ch (fun o => o = oM + 16) g3 g4 := by rw [hg4]; exact Ch.w (D := fun o => o = oM + 16) rfl g3 k _
    -- what stands of h in g2, in g4
    have v2 : ∀ r, r < 158 → r ≠ oM → hi g2 r = hi h r := fun r r1 r2 => by
      funext i
      rw [(q2.2 r r2).1, (q1.2 r (by omega)).1, (i8 r (by omega)).2.1]
    have v4 : ∀ r, ¬ (122 ≤ r ∧ r < 139) → (∀ i, hi g4 r i = hi g1 r i) ∧ ∀ i, hl g4 r i = hl g1 r i := fun r r1 => ⟨fun i => by
      rw [(q4.2 r (by omega)).1, (q3.2 r (by omega)).1, (q2.2 r (by omega)).1], fun i => by
      rw [(q4.2 r (by omega)).2, (q3.2 r (by omega)).2, (q2.2 r (by omega)).2]⟩
    have sh14 : SH g1 g4 := (q2.1.tr q3.1).tr q4.1
    have shg4 : SH g g4 := q1.1.tr sh14
    have b0 : MP g2 oM 0 P := H.mg.p.ch (fun r r1 r2 i => by rw [v2 r (by omega) (by omega)])
    have mp4 : ∀ {a : Nat} {Q : PT}, MP g3 oM a Q → MP g4 oM a Q := fun hmp => hmp.ch (fun r r1 r2 i => (q4.2 r (by omega)).1 i)
    have ch4 : Ch (fun o => 122 ≤ o ∧ o < 139) g1 g4 := ⟨sh14, fun r r1 => v4 r r1⟩
    have H4 : Inv L xs g4 P := by
      refine H.img ⟨fun r r1 => by rw [shg4.2.1]; exact lo.1 r r1, fun r j r1 r2 => by rw [shg4.1]; exact lo.2 r j r1 r2⟩ (fun r r1 => ?_) (fun i hi1 => ?_) (mp4 (b0.other H.w e3 (by omega))) ⟨fun j hj => ?_, fun i j hi1 hj hij => ?_⟩ ?_
      · refine ⟨fun i => ?_, fun i => ?_⟩
        · by_cases y : r = 138
          · exact absurd (Or.inr (Or.inr (by omega))) r1
          · by_cases y2 : 122 ≤ r ∧ r < 139
            · rw [(q4.2 r (by omega)).1, (q3.2 r (by omega)).1, v2 r (by omega) (by omega)]
            · rw [(v4 r y2).1, (q1.2 r (by omega)).1, (i8 r (by omega)).2.1]
        · by_cases y2 : 122 ≤ r ∧ r < 139
          · rw [(q4.2 r (by omega)).2, (q3.2 r (by omega)).2, (q2.2 r (by omega)).2, (q1.2 r (by omega)).2, (i8 r (by omega)).2.2]
          · rw [(v4 r y2).2, (q1.2 r (by omega)).2, (i8 r (by omega)).2.2]
      · rw [(q4.2 oM (by omega)).1, (q3.2 oM (by omega)).1, hg2, w_ne (by omega), (q1.2 oM (by omega)).1, (i8 oM (by omega)).2.1]
      · have hr4 : hr g4 67 j = hr g 67 j := by rw [shg4.1]
        rw [hr4]
        by_cases y : j = k
        · subst y
          rw [i1]
          refine Or.inr ⟨i4, by rw [shg4.2.2.1]; exact i5, by rw [hg4]; exact w_eq _ _ _ _, P, ?_, mp4 (b0.copied H.w e3)⟩
          have hPG1 : PG g1 q P := ⟨i3.to q1.1, hR1, H.w⟩
          exact hPG1.ch ch4 (fun j hj => by omega)
        · rw [i2 j y]
          have h16 : hi g4 (oM + 16) j = hi h (oM + 16) j := by
            rw [hg4, w_ne (by omega), (q3.2 (oM + 16) (by omega)).1, v2 (oM + 16) (by omega) (by omega)]
          rcases H.im.1 j hj with ⟨b1, b2⟩ | ⟨b1, b2, b3, P1, b4, b5⟩
          · exact Or.inl ⟨b1, by rw [h16]; exact b2⟩
          · refine Or.inr ⟨b1, by rw [shg4.2.2.1]; omega, by rw [h16]; exact b3, P1, ?_, ?_⟩
            · have b6 := PG.same b4 (g := g) (fun r h1 h2 => ⟨(i8 r (by omega)).1, (i8 r (by omega)).2.1⟩) (fun r i h1 h2 => i9 r i (by omega) (by omega))
              have hap := i10 j hj y
              exact (b6.ch q1 (fun i hi1 => by omega)).ch ch4 (fun i hi1 => by omega)
            · have b6 : MP g2 oM (1 + j) P1 := b5.ch (fun r r1 r2 i => by rw [v2 r (by omega) (by omega)])
              exact mp4 (b6.other b4.w e3 (by omega))
      · rw [shg4.1]
        have e67 : ∀ j, j ≠ k → hr g 67 j = hr h 67 j := i2
        by_cases y1 : i = k
        · subst y1
          rw [i1, e67 j (by omega)]
          rcases i10 j hj (by omega) with q | q | q
          · exact Or.inr (Or.inl q)
          · exact Or.inr (Or.inr (Or.inr q))
          · exact Or.inr (Or.inr (Or.inl q))
        · by_cases y2 : j = k
          · subst y2
            rw [i1, e67 i y1]
            rcases i10 i hi1 y1 with q | q | q
            · exact Or.inl q
            · exact Or.inr (Or.inr (Or.inl q))
            · exact Or.inr (Or.inr (Or.inr q))
          · rw [e67 i y1, e67 j y2]
            exact H.im.2 i j hi1 hj hij
      · exact i6.keep shg4
    have r1 := q1.1.1
    have r1' := q1.1.2.1
    have r3 := q3.1.1
    have r3' := q3.1.2.1
    have k67g := hOg.k67
    have koXg := hOg.koX
    have r4g := hOg.roX_4
    have r2g := hOg.roX_2
    have kq := i3.k
    have m1 := m_in0 g2 (nI k) (n := 2) (by decide)
    rw [if_pos z1] at m1
    have e5 : nI 1 + nI k = nI (1 + k) := by simp only [nI_add]
    have e7 : nZ (nI 1) = nI 1 := by decide
    refine ⟨nI 0, g1, g4, P, ?_, ?_, H4⟩
    · obtain ⟨X, hX⟩ : ∃ X : Sm Int32, X = dIf (dNot (dNN (dAR (dGR 11 4 (vR 0)) (vI 1)))) (d3 stR (dGR 11 4 (vR 0)) (vI 1) (dNewC 5 DX5_init)) dSkip := ⟨_, rfl⟩
      rw [← hX] at c0
      have eB : BX11_image = (dSeq (dIf (dOr (dCZ q_lt (vI 1)) (dCI r_ge (vI 1) (dLen (dGR 11 4 (vR 0))))) (dRet (cI (-2))) dSkip) (dSeq X (dSeq (dDo (dCallV 5 DX5_copy (aR (aR aN 0 (dAR (dGR 11 4 (vR 0)) (vI 1))) 1 (dGR 11 2 (vR 0))))) (dRet (cI 0))))) := by
        rw [hX]
        rfl
      simp (disch := omega) only [ob_t, ob_n, ob_ite, e_cI, e_cL, e_cR, e_vI, e_vL, e_vR, e_d2, e_d2_a, e_d2_b, e_d2z, e_d2z_a, e_d2z_b, e_d1, e_d1_a, e_GI, e_GI_a, e_GL, e_GL_a, e_GR, e_GR_a, e_AI, e_AI_a, e_AI_b, e_AB, e_AB_a, e_AB_b, e_AZ, e_AZ_a, e_AZ_b, e_AL, e_AL_a, e_AL_b, e_AR, e_AR_a, e_AR_b, e_Len, e_Len_a, e_CI, e_CI_a, e_CI_b, e_CZ, e_CZ_a, e_And, e_kAnd, e_Or, e_kOr, e_Not, e_kNot, e_B, e_kB, e_T, e_kT, e_NN, e_kNN, e_NewA, e_NewA_a, e_NewC, e_kNewC, e_aN, e_aI, e_aI_a, e_aI_b, e_aL, e_aL_a, e_aL_b, e_aR, e_aR_a, e_aR_b, e_Call, e_kCall, e_CallV, e_kCallV, e_SetI, e_kSetI, e_SetL, e_kSetL, e_SetR, e_kSetR, e_Inc, e_Skip, e_Brk, e_Cnt, e_Ret, e_kRet, e_Ret0, e_Seq, e_kSeq0, e_kSeq1, e_kSeq2, e_kSeqR, e_If, e_kIf, e_Do, e_kDo, e_Sup, e_kN0, e_d3, e_k3a, e_k3b, e_k3c, e_P, e_kPa, e_kPb, e_UA, e_kUAa, e_kUAb, e_kUAc, e_UL, e_kULa, e_kULb, e_kULc, e_UF, e_kUFa, e_kUFb, e_Cp, e_kCp, e_Sw, e_kSwa, e_kSwb0, e_kSwb1, e_kSwbR, e_M1, e_kM1, e_MZ, e_kMZ, e_MN, e_kMN, e_Tv, e_kTv, e_Tc, e_kTc, e_lpS, e_kLp, e_kLpB0, e_kLpB1, e_kLpB2, e_kLpBR, e_kLpU, e_dwS, e_kDwB0, e_kDwC, f_II, f_LL, f_RR, f_IL, f_IR, f_LI, f_LR, f_RI, f_RL, and_true, true_and, and_false, false_and, or_true, true_or, or_false, false_or, not_true_eq_false, not_false_eq_true, if_true, if_false, ite_self, Bool.not_true, Bool.not_false, Bool.false_eq_true, Bool.true_eq_false, decide_true, decide_false, ne_eq, reduceIte, Nat.reduceEqDiff, Option.some.injEq, Prod.mk.injEq, eq_self, o_iadd, o_imul, r_lt, r_le, r_gt, r_ge, r_eq, r_ne, q_lt, q_le, q_gt, q_ge, q_eq, q_ne, decide_eq_true_eq, lc0, lc1, lc01, nI_eq, Nat.reduceLeDiff, Nat.reduceLT, b01, b0, b1, n_inb, nI_clamp, f_ss, f_sL, f_sR, DX11_image, eB, fa_lit, q_lt, r_ge, hO.koX, hO.roX_4, k67, e1, e2, c0, k67g, koXg, r4g, r2g, i1, kq, c1]
    · simp (disch := omega) only [ob_t, ob_n, ob_ite, e_cI, e_cL, e_cR, e_vI, e_vL, e_vR, e_d2, e_d2_a, e_d2_b, e_d2z, e_d2z_a, e_d2z_b, e_d1, e_d1_a, e_GI, e_GI_a, e_GL, e_GL_a, e_GR, e_GR_a, e_AI, e_AI_a, e_AI_b, e_AB, e_AB_a, e_AB_b, e_AZ, e_AZ_a, e_AZ_b, e_AL, e_AL_a, e_AL_b, e_AR, e_AR_a, e_AR_b, e_Len, e_Len_a, e_CI, e_CI_a, e_CI_b, e_CZ, e_CZ_a, e_And, e_kAnd, e_Or, e_kOr, e_Not, e_kNot, e_B, e_kB, e_T, e_kT, e_NN, e_kNN, e_NewA, e_NewA_a, e_NewC, e_kNewC, e_aN, e_aI, e_aI_a, e_aI_b, e_aL, e_aL_a, e_aL_b, e_aR, e_aR_a, e_aR_b, e_Call, e_kCall, e_CallV, e_kCallV, e_SetI, e_kSetI, e_SetL, e_kSetL, e_SetR, e_kSetR, e_Inc, e_Skip, e_Brk, e_Cnt, e_Ret, e_kRet, e_Ret0, e_Seq, e_kSeq0, e_kSeq1, e_kSeq2, e_kSeqR, e_If, e_kIf, e_Do, e_kDo, e_Sup, e_kN0, e_d3, e_k3a, e_k3b, e_k3c, e_P, e_kPa, e_kPb, e_UA, e_kUAa, e_kUAb, e_kUAc, e_UL, e_kULa, e_kULb, e_kULc, e_UF, e_kUFa, e_kUFb, e_Cp, e_kCp, e_Sw, e_kSwa, e_kSwb0, e_kSwb1, e_kSwbR, e_M1, e_kM1, e_MZ, e_kMZ, e_MN, e_kMN, e_Tv, e_kTv, e_Tc, e_kTc, e_lpS, e_kLp, e_kLpB0, e_kLpB1, e_kLpB2, e_kLpBR, e_kLpU, e_dwS, e_kDwB0, e_kDwC, f_II, f_LL, f_RR, f_IL, f_IR, f_LI, f_LR, f_RI, f_RL, and_true, true_and, and_false, false_and, or_true, true_or, or_false, false_or, not_true_eq_false, not_false_eq_true, if_true, if_false, ite_self, Bool.not_true, Bool.not_false, Bool.false_eq_true, Bool.true_eq_false, decide_true, decide_false, ne_eq, reduceIte, Nat.reduceEqDiff, Option.some.injEq, Prod.mk.injEq, eq_self, o_iadd, o_imul, r_lt, r_le, r_gt, r_ge, r_eq, r_ne, q_lt, q_le, q_gt, q_ge, q_eq, q_ne, decide_eq_true_eq, lc0, lc1, lc01, nI_eq, Nat.reduceLeDiff, Nat.reduceLT, b01, b0, b1, hM.k, hM.k1, hM.k2, hM.k3, hM.k4, hM.k5, hM.k6, hM.k7, hM.k8, hM.k9, hM.k10, hM.k11, hM.k12, hM.k13, hM.k14, hM.k15, hM.k16, hM.k17, hM.k18, hM.k19, hM.k20, hM.k21, hM.k22, hM.k23, hM.k24, hM.k25, hM.k26, hM.k27, hM.k28, hM.k29, hM.k30, hM.k31, hM.k32, hM.k33, hM.k34, hM.k35, hM.r1, hM.r2, hM.r3, hM.r4, hM.r5, hM.r16, hM.r17, hM.r18, hM.r19, hM.r20, hM.r21, hM.r22, hM.r23, hM.r24, hM.r25, hM.r26, hM.r31, hM.r32, hM.r33, hM.r34, hM.r35, hM.r36, hM.r37, hM.r38, hM.r39, hM.r40, hM.r41, hM.r42, hM.r43, hM.r44, hM.r47, hM.r48, hM.r49, hM.r50, hM.r54, n_inb, nI_clamp, fI, stI, f_ss, f_sL, f_sR, DX12_image, BX12_image, fa_lit, fa_litL, eo, hM1.k, ← hg2, m1, hM2.k, e5, c3, r3, r3', hM2.r26, hM2.k16, e7, ← hg4]
  · rw [if_neg z1] at m1
    by_cases y1 : v < nI 0
    · refine op_no (r := -nI 2) H ?_ ?_
      · simp (disch := omega) only [ob_t, ob_n, ob_ite, e_cI, e_cL, e_cR, e_vI, e_vL, e_vR, e_d2, e_d2_a, e_d2_b, e_d2z, e_d2z_a, e_d2z_b, e_d1, e_d1_a, e_GI, e_GI_a, e_GL, e_GL_a, e_GR, e_GR_a, e_AI, e_AI_a, e_AI_b, e_AB, e_AB_a, e_AB_b, e_AZ, e_AZ_a, e_AZ_b, e_AL, e_AL_a, e_AL_b, e_AR, e_AR_a, e_AR_b, e_Len, e_Len_a, e_CI, e_CI_a, e_CI_b, e_CZ, e_CZ_a, e_And, e_kAnd, e_Or, e_kOr, e_Not, e_kNot, e_B, e_kB, e_T, e_kT, e_NN, e_kNN, e_NewA, e_NewA_a, e_NewC, e_kNewC, e_aN, e_aI, e_aI_a, e_aI_b, e_aL, e_aL_a, e_aL_b, e_aR, e_aR_a, e_aR_b, e_Call, e_kCall, e_CallV, e_kCallV, e_SetI, e_kSetI, e_SetL, e_kSetL, e_SetR, e_kSetR, e_Inc, e_Skip, e_Brk, e_Cnt, e_Ret, e_kRet, e_Ret0, e_Seq, e_kSeq0, e_kSeq1, e_kSeq2, e_kSeqR, e_If, e_kIf, e_Do, e_kDo, e_Sup, e_kN0, e_d3, e_k3a, e_k3b, e_k3c, e_P, e_kPa, e_kPb, e_UA, e_kUAa, e_kUAb, e_kUAc, e_UL, e_kULa, e_kULb, e_kULc, e_UF, e_kUFa, e_kUFb, e_Cp, e_kCp, e_Sw, e_kSwa, e_kSwb0, e_kSwb1, e_kSwbR, e_M1, e_kM1, e_MZ, e_kMZ, e_MN, e_kMN, e_Tv, e_kTv, e_Tc, e_kTc, e_lpS, e_kLp, e_kLpB0, e_kLpB1, e_kLpB2, e_kLpBR, e_kLpU, e_dwS, e_kDwB0, e_kDwC, f_II, f_LL, f_RR, f_IL, f_IR, f_LI, f_LR, f_RI, f_RL, o_iadd, o_isub, o_imul, o_iand, o_ior, o_ixor, o_ladd, o_lsub, o_lmul, o_land, o_lor, o_ishl, o_ishr, o_iushr, o_lshl, o_lcmp, o_i2l, o_l2i, o_i2b, o_i2s, o_lneg, o_imax, o_imin, o_idiv, o_irem, o_ldiv, o_lrem, r_lt, r_le, r_gt, r_ge, r_eq, r_ne, q_lt, q_le, q_gt, q_ge, q_eq, q_ne, decide_eq_true_eq, idI, and_true, true_and, and_false, false_and, or_true, true_or, or_false, false_or, not_true_eq_false, not_false_eq_true, if_true, if_false, ite_self, Bool.not_true, Bool.not_false, Bool.false_eq_true, Bool.true_eq_false, decide_true, decide_false, ne_eq, reduceIte, Nat.reduceEqDiff, Option.some.injEq, Prod.mk.injEq, eq_self, fa_lit, nI_add, pk_mul, nI_ltI, nI_leI, nI_eq, b01, b0, b1, x_hasBit, Nat.reduceLeDiff, Nat.reduceAdd, Nat.reduceMul, Nat.reduceSub, Nat.lt_irrefl, Nat.reduceLT, hO.koX, hO.k32, hO.k33, hO.k34, hO.k67, hO.k68, hO.k69, hO.k70, hO.k71, hO.k100, hO.k101, hO.k115, hO.k116, hO.k117, hO.k118, hO.k119, hO.k120, hO.k121, hO.roX_0, hO.roX_1, hO.roX_2, hO.roX_3, hO.roX_4, hO.roX_5, hO.roX_6, hO.roX_7, hO.roX_8, hO.roX_9, hO.roX_10, hO.roX_11, hO.roX_12, hO.roX_13, hO.r32_0, hO.r68_0, hO.r68_1, hO.r68_2, hO.r100_0, hO.r115_2, hO.r115_3, hO.r118_1, hP.k, hP.k9, hP.r8, hP.r9, hP.r10, hP.r11, hP.r12, hP.r13, hP.r14, hP.r15, hP.r16, hP.c3, hP.c4, hP.c5, hP.c6, hP.c7, hP.c8, n_inb, nI_clamp, w_hr, w_hk, w_hl, w_eq, w_ne, wl_hr, wl_hk, wl_hi, wl_eq, wl_ne, f_ss, f_sR, f_sL, lc0, lc1, lc01, DX11_image, BX11_image, y1]
      · simp (disch := omega) only [ob_t, ob_n, ob_ite, e_cI, e_cL, e_cR, e_vI, e_vL, e_vR, e_d2, e_d2_a, e_d2_b, e_d2z, e_d2z_a, e_d2z_b, e_d1, e_d1_a, e_GI, e_GI_a, e_GL, e_GL_a, e_GR, e_GR_a, e_AI, e_AI_a, e_AI_b, e_AB, e_AB_a, e_AB_b, e_AZ, e_AZ_a, e_AZ_b, e_AL, e_AL_a, e_AL_b, e_AR, e_AR_a, e_AR_b, e_Len, e_Len_a, e_CI, e_CI_a, e_CI_b, e_CZ, e_CZ_a, e_And, e_kAnd, e_Or, e_kOr, e_Not, e_kNot, e_B, e_kB, e_T, e_kT, e_NN, e_kNN, e_NewA, e_NewA_a, e_NewC, e_kNewC, e_aN, e_aI, e_aI_a, e_aI_b, e_aL, e_aL_a, e_aL_b, e_aR, e_aR_a, e_aR_b, e_Call, e_kCall, e_CallV, e_kCallV, e_SetI, e_kSetI, e_SetL, e_kSetL, e_SetR, e_kSetR, e_Inc, e_Skip, e_Brk, e_Cnt, e_Ret, e_kRet, e_Ret0, e_Seq, e_kSeq0, e_kSeq1, e_kSeq2, e_kSeqR, e_If, e_kIf, e_Do, e_kDo, e_Sup, e_kN0, e_d3, e_k3a, e_k3b, e_k3c, e_P, e_kPa, e_kPb, e_UA, e_kUAa, e_kUAb, e_kUAc, e_UL, e_kULa, e_kULb, e_kULc, e_UF, e_kUFa, e_kUFb, e_Cp, e_kCp, e_Sw, e_kSwa, e_kSwb0, e_kSwb1, e_kSwbR, e_M1, e_kM1, e_MZ, e_kMZ, e_MN, e_kMN, e_Tv, e_kTv, e_Tc, e_kTc, e_lpS, e_kLp, e_kLpB0, e_kLpB1, e_kLpB2, e_kLpBR, e_kLpU, e_dwS, e_kDwB0, e_kDwC, f_II, f_LL, f_RR, f_IL, f_IR, f_LI, f_LR, f_RI, f_RL, o_iadd, o_isub, o_imul, o_iand, o_ior, o_ixor, o_ladd, o_lsub, o_lmul, o_land, o_lor, o_ishl, o_ishr, o_iushr, o_lshl, o_lcmp, o_i2l, o_l2i, o_i2b, o_i2s, o_lneg, o_imax, o_imin, o_idiv, o_irem, o_ldiv, o_lrem, r_lt, r_le, r_gt, r_ge, r_eq, r_ne, q_lt, q_le, q_gt, q_ge, q_eq, q_ne, decide_eq_true_eq, idI, and_true, true_and, and_false, false_and, or_true, true_or, or_false, false_or, not_true_eq_false, not_false_eq_true, if_true, if_false, ite_self, Bool.not_true, Bool.not_false, Bool.false_eq_true, Bool.true_eq_false, decide_true, decide_false, ne_eq, reduceIte, Nat.reduceEqDiff, Option.some.injEq, Prod.mk.injEq, eq_self, fa_lit, nI_add, pk_mul, nI_ltI, nI_leI, nI_eq, b01, b0, b1, x_hasBit, Nat.reduceLeDiff, Nat.reduceAdd, Nat.reduceMul, Nat.reduceSub, Nat.lt_irrefl, Nat.reduceLT, n_inb, nI_clamp, w_hr, w_hk, w_hl, w_eq, w_ne, wl_hr, wl_hk, wl_hi, wl_eq, wl_ne, hM.k, hM.k1, hM.k2, hM.k3, hM.k4, hM.k5, hM.k6, hM.k7, hM.k8, hM.k9, hM.k10, hM.k11, hM.k12, hM.k13, hM.k14, hM.k15, hM.k16, hM.k17, hM.k18, hM.k19, hM.k20, hM.k21, hM.k22, hM.k23, hM.k24, hM.k25, hM.k26, hM.k27, hM.k28, hM.k29, hM.k30, hM.k31, hM.k32, hM.k33, hM.k34, hM.k35, hM.r1, hM.r2, hM.r3, hM.r4, hM.r5, hM.r16, hM.r17, hM.r18, hM.r19, hM.r20, hM.r21, hM.r22, hM.r23, hM.r24, hM.r25, hM.r26, hM.r31, hM.r32, hM.r33, hM.r34, hM.r35, hM.r36, hM.r37, hM.r38, hM.r39, hM.r40, hM.r41, hM.r42, hM.r43, hM.r44, hM.r47, hM.r48, hM.r49, hM.r50, hM.r54, stI, fI, fZ, fL, stL, f_ss, f_sL, f_sR, lc0, lc1, lc01, DX12_image, BX12_image, fa_litL, eo, m1]
    · have y3 : (Int32.ofNat 3 ≤ v) = True := eq_true (Int32.not_lt.mp (fun z => z1 ⟨Int32.not_lt.mp y1, z⟩))
      refine op_no (r := -nI 2) H ?_ ?_
      · simp (disch := omega) only [ob_t, ob_n, ob_ite, e_cI, e_cL, e_cR, e_vI, e_vL, e_vR, e_d2, e_d2_a, e_d2_b, e_d2z, e_d2z_a, e_d2z_b, e_d1, e_d1_a, e_GI, e_GI_a, e_GL, e_GL_a, e_GR, e_GR_a, e_AI, e_AI_a, e_AI_b, e_AB, e_AB_a, e_AB_b, e_AZ, e_AZ_a, e_AZ_b, e_AL, e_AL_a, e_AL_b, e_AR, e_AR_a, e_AR_b, e_Len, e_Len_a, e_CI, e_CI_a, e_CI_b, e_CZ, e_CZ_a, e_And, e_kAnd, e_Or, e_kOr, e_Not, e_kNot, e_B, e_kB, e_T, e_kT, e_NN, e_kNN, e_NewA, e_NewA_a, e_NewC, e_kNewC, e_aN, e_aI, e_aI_a, e_aI_b, e_aL, e_aL_a, e_aL_b, e_aR, e_aR_a, e_aR_b, e_Call, e_kCall, e_CallV, e_kCallV, e_SetI, e_kSetI, e_SetL, e_kSetL, e_SetR, e_kSetR, e_Inc, e_Skip, e_Brk, e_Cnt, e_Ret, e_kRet, e_Ret0, e_Seq, e_kSeq0, e_kSeq1, e_kSeq2, e_kSeqR, e_If, e_kIf, e_Do, e_kDo, e_Sup, e_kN0, e_d3, e_k3a, e_k3b, e_k3c, e_P, e_kPa, e_kPb, e_UA, e_kUAa, e_kUAb, e_kUAc, e_UL, e_kULa, e_kULb, e_kULc, e_UF, e_kUFa, e_kUFb, e_Cp, e_kCp, e_Sw, e_kSwa, e_kSwb0, e_kSwb1, e_kSwbR, e_M1, e_kM1, e_MZ, e_kMZ, e_MN, e_kMN, e_Tv, e_kTv, e_Tc, e_kTc, e_lpS, e_kLp, e_kLpB0, e_kLpB1, e_kLpB2, e_kLpBR, e_kLpU, e_dwS, e_kDwB0, e_kDwC, f_II, f_LL, f_RR, f_IL, f_IR, f_LI, f_LR, f_RI, f_RL, o_iadd, o_isub, o_imul, o_iand, o_ior, o_ixor, o_ladd, o_lsub, o_lmul, o_land, o_lor, o_ishl, o_ishr, o_iushr, o_lshl, o_lcmp, o_i2l, o_l2i, o_i2b, o_i2s, o_lneg, o_imax, o_imin, o_idiv, o_irem, o_ldiv, o_lrem, r_lt, r_le, r_gt, r_ge, r_eq, r_ne, q_lt, q_le, q_gt, q_ge, q_eq, q_ne, decide_eq_true_eq, idI, and_true, true_and, and_false, false_and, or_true, true_or, or_false, false_or, not_true_eq_false, not_false_eq_true, if_true, if_false, ite_self, Bool.not_true, Bool.not_false, Bool.false_eq_true, Bool.true_eq_false, decide_true, decide_false, ne_eq, reduceIte, Nat.reduceEqDiff, Option.some.injEq, Prod.mk.injEq, eq_self, fa_lit, nI_add, pk_mul, nI_ltI, nI_leI, nI_eq, b01, b0, b1, x_hasBit, Nat.reduceLeDiff, Nat.reduceAdd, Nat.reduceMul, Nat.reduceSub, Nat.lt_irrefl, Nat.reduceLT, hO.koX, hO.k32, hO.k33, hO.k34, hO.k67, hO.k68, hO.k69, hO.k70, hO.k71, hO.k100, hO.k101, hO.k115, hO.k116, hO.k117, hO.k118, hO.k119, hO.k120, hO.k121, hO.roX_0, hO.roX_1, hO.roX_2, hO.roX_3, hO.roX_4, hO.roX_5, hO.roX_6, hO.roX_7, hO.roX_8, hO.roX_9, hO.roX_10, hO.roX_11, hO.roX_12, hO.roX_13, hO.r32_0, hO.r68_0, hO.r68_1, hO.r68_2, hO.r100_0, hO.r115_2, hO.r115_3, hO.r118_1, hP.k, hP.k9, hP.r8, hP.r9, hP.r10, hP.r11, hP.r12, hP.r13, hP.r14, hP.r15, hP.r16, hP.c3, hP.c4, hP.c5, hP.c6, hP.c7, hP.c8, n_inb, nI_clamp, w_hr, w_hk, w_hl, w_eq, w_ne, wl_hr, wl_hk, wl_hi, wl_eq, wl_ne, f_ss, f_sR, f_sL, lc0, lc1, lc01, DX11_image, BX11_image, y1, y3]
      · simp (disch := omega) only [ob_t, ob_n, ob_ite, e_cI, e_cL, e_cR, e_vI, e_vL, e_vR, e_d2, e_d2_a, e_d2_b, e_d2z, e_d2z_a, e_d2z_b, e_d1, e_d1_a, e_GI, e_GI_a, e_GL, e_GL_a, e_GR, e_GR_a, e_AI, e_AI_a, e_AI_b, e_AB, e_AB_a, e_AB_b, e_AZ, e_AZ_a, e_AZ_b, e_AL, e_AL_a, e_AL_b, e_AR, e_AR_a, e_AR_b, e_Len, e_Len_a, e_CI, e_CI_a, e_CI_b, e_CZ, e_CZ_a, e_And, e_kAnd, e_Or, e_kOr, e_Not, e_kNot, e_B, e_kB, e_T, e_kT, e_NN, e_kNN, e_NewA, e_NewA_a, e_NewC, e_kNewC, e_aN, e_aI, e_aI_a, e_aI_b, e_aL, e_aL_a, e_aL_b, e_aR, e_aR_a, e_aR_b, e_Call, e_kCall, e_CallV, e_kCallV, e_SetI, e_kSetI, e_SetL, e_kSetL, e_SetR, e_kSetR, e_Inc, e_Skip, e_Brk, e_Cnt, e_Ret, e_kRet, e_Ret0, e_Seq, e_kSeq0, e_kSeq1, e_kSeq2, e_kSeqR, e_If, e_kIf, e_Do, e_kDo, e_Sup, e_kN0, e_d3, e_k3a, e_k3b, e_k3c, e_P, e_kPa, e_kPb, e_UA, e_kUAa, e_kUAb, e_kUAc, e_UL, e_kULa, e_kULb, e_kULc, e_UF, e_kUFa, e_kUFb, e_Cp, e_kCp, e_Sw, e_kSwa, e_kSwb0, e_kSwb1, e_kSwbR, e_M1, e_kM1, e_MZ, e_kMZ, e_MN, e_kMN, e_Tv, e_kTv, e_Tc, e_kTc, e_lpS, e_kLp, e_kLpB0, e_kLpB1, e_kLpB2, e_kLpBR, e_kLpU, e_dwS, e_kDwB0, e_kDwC, f_II, f_LL, f_RR, f_IL, f_IR, f_LI, f_LR, f_RI, f_RL, o_iadd, o_isub, o_imul, o_iand, o_ior, o_ixor, o_ladd, o_lsub, o_lmul, o_land, o_lor, o_ishl, o_ishr, o_iushr, o_lshl, o_lcmp, o_i2l, o_l2i, o_i2b, o_i2s, o_lneg, o_imax, o_imin, o_idiv, o_irem, o_ldiv, o_lrem, r_lt, r_le, r_gt, r_ge, r_eq, r_ne, q_lt, q_le, q_gt, q_ge, q_eq, q_ne, decide_eq_true_eq, idI, and_true, true_and, and_false, false_and, or_true, true_or, or_false, false_or, not_true_eq_false, not_false_eq_true, if_true, if_false, ite_self, Bool.not_true, Bool.not_false, Bool.false_eq_true, Bool.true_eq_false, decide_true, decide_false, ne_eq, reduceIte, Nat.reduceEqDiff, Option.some.injEq, Prod.mk.injEq, eq_self, fa_lit, nI_add, pk_mul, nI_ltI, nI_leI, nI_eq, b01, b0, b1, x_hasBit, Nat.reduceLeDiff, Nat.reduceAdd, Nat.reduceMul, Nat.reduceSub, Nat.lt_irrefl, Nat.reduceLT, n_inb, nI_clamp, w_hr, w_hk, w_hl, w_eq, w_ne, wl_hr, wl_hk, wl_hi, wl_eq, wl_ne, hM.k, hM.k1, hM.k2, hM.k3, hM.k4, hM.k5, hM.k6, hM.k7, hM.k8, hM.k9, hM.k10, hM.k11, hM.k12, hM.k13, hM.k14, hM.k15, hM.k16, hM.k17, hM.k18, hM.k19, hM.k20, hM.k21, hM.k22, hM.k23, hM.k24, hM.k25, hM.k26, hM.k27, hM.k28, hM.k29, hM.k30, hM.k31, hM.k32, hM.k33, hM.k34, hM.k35, hM.r1, hM.r2, hM.r3, hM.r4, hM.r5, hM.r16, hM.r17, hM.r18, hM.r19, hM.r20, hM.r21, hM.r22, hM.r23, hM.r24, hM.r25, hM.r26, hM.r31, hM.r32, hM.r33, hM.r34, hM.r35, hM.r36, hM.r37, hM.r38, hM.r39, hM.r40, hM.r41, hM.r42, hM.r43, hM.r44, hM.r47, hM.r48, hM.r49, hM.r50, hM.r54, stI, fI, fZ, fL, stL, f_ss, f_sL, f_sR, lc0, lc1, lc01, DX12_image, BX12_image, fa_litL, eo, m1]
end
