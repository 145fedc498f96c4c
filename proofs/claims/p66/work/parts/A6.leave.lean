set_option maxRecDepth 100000
set_option maxHeartbeats 1000000
/-! the class's Alone: a state is left -/
def lvD (a : Nat) : Nat → Prop := fun o => o = a ∨ o = a + 1 ∨ o = a + 2 ∨ o = a + 4 ∨ o = a + 8 ∨ o = a + 9
def LV (h : St) (a : Nat) (P : PT) (s : Nat) (Y : BQ) : Prop := QS h a Y ∧ ∃ sn mw mh, SNa h a sn ∧ SNs sn Y ∧ MWa h a mw ∧ MWs P s mw Y ∧ MHs h a mh ∧ MHp mh Y
theorem QS.ch {D : Nat → Prop} {h g : St} {a : Nat} {Y : BQ} (hQ : QS h a Y) (q : Ch D h g) (h0 : ¬ D a) (h8 : ¬ D (a + 8)) (h9 : ¬ D (a + 9)) : QS g a Y := by
  refine ⟨fun e he => ?_, fun i hi1 => ?_, ?_⟩
  · rw [(q.2 _ h8).1]; exact hQ.1 e he
  · rw [(q.2 _ h9).1]; exact hQ.2.1 i hi1
  · rw [(q.2 _ h0).1]; exact hQ.2.2
theorem SNs.bd {P : PT} {s : Nat} {sn : Nat → Nat} {Y : BQ} (h : SNs sn Y) (hw : WE P s Y) (h8 : P 0 4 ≤ 8) (x : Nat) : sn x ≤ 2048 := by
  by_cases z : sn x = 0
  · omega
  · obtain ⟨c, h1, h2, h3⟩ := h.2 x z
    obtain ⟨i, h4, h5⟩ := hw.2.1 c h1
    have h6 := hw.2.2.2.2.1 i h4
    have h7 := hw.le h8
    rw [h5] at h6
    omega
theorem MWs.bd {P : PT} {s : Nat} {mw : Nat → Nat} {Y : BQ} (h : MWs P s mw Y) (x : Nat) : mw x ≤ 9 := by
  by_cases z : x = P 6 s
  · rw [z, h.2.2]
    have := pop_12 (lbN P s 0)
    omega
  · by_cases y : mw x = 0
    · omega
    · obtain ⟨c, h1, h2, h3⟩ := h.2.1 x z y
      have := pop_12 (lbN P s (pop (c % 256) - 2))
      unfold vW at h3
      omega
section
variable {h : St} {a p s t k : Nat} {P : PT} {X : BQ}
theorem x_leave (hA : AS h a) (hG : PG h p P) (hs : s < P 0 7) (hd : p + 16 ≤ a ∨ a + 13 ≤ p) (ht : t < 2 ^ 20) (hP : PR h a P s) (hw : WE P s X) (hn : NE k X) (hkX : k < X.2.1) (hL : LV h a P s X) : ∃ g, DX0_leave (sI (sI (sR (sR fr0 0 a) 1 p) 2 (nI (encA X k))) 3 (nI t)) h = some ((), g) ∧ LV g a P s (rwE P s t k X (P 0 4)) ∧ Ch (lvD a) h g ∧ ∀ j, j ≠ 9 → hi g a j = hi h a j := by
  have hW := hG.w
  have hb := hW.all
  have h8 := hb.2.2.2.1
  obtain ⟨c, hc⟩ : ∃ c, c = X.1 k := ⟨_, rfl⟩
  have hcD : X.2.2 c ≠ 0 := by rw [hc]; exact hw.1 k hkX
  have hOK : OKc P s c := hw.2.2.2.2.2.1 c hcD
  have hcl := hOK.lt h8
  have hDl : X.2.2 c ≤ 2048 := by
    have h1 := hw.2.2.2.2.1 k hkX
    have h2 := hw.le h8
    rw [← hc] at h1
    omega
  have hen : encA X k = c / 256 + 8 * (c % 256) + 2048 * (X.2.2 c - 1) := by unfold encA; rw [hc]
  have e1 := x_houseOf (h := h) (n := encA X k) (by omega)
  have e2 := x_setOf (h := h) (n := encA X k) (by omega)
  rw [show encA X k % 8 = c / 256 by omega] at e1
  have he8 : encA X k / 8 = c % 256 + 256 * (X.2.2 c - 1) := by
    have h7 : c / 256 < 8 := by have := hOK.1; omega
    generalize c / 256 = q at hen h7
    generalize c % 256 = r at hen
    omega
  have he9 : encA X k / 8 % 256 = c % 256 := by
    rw [he8]
    have h7 : c % 256 < 256 := Nat.mod_lt _ (by decide)
    generalize c % 256 = r at h7
    omega
  rw [he9] at e2
  have e3 : nI (encA X k) >>> (nI 11 &&& nI 31) = nI (X.2.2 c - 1) := by rw [n_shrk (by decide) (by omega), show encA X k / 2 ^ 11 = X.2.2 c - 1 by omega]
  have e3b : X.2.2 c - 1 + 1 = X.2.2 c := by omega
  have hp1 := pop_pos (c % 256) (by omega) (met_pos hOK.2.1)
  have hp8 := pop_8 (c % 256) (by omega)
  have hl := lbN_lt hW hs (pop (c % 256) - 1)
  have hwt := wt_le hW hs hl
  obtain ⟨g9, L, hL9, c9, d9⟩ : ∃ g, LX0_leave_1 (sI (sI (sI (sI (sI (sI (sI (sR (sR fr0 0 a) 1 p) 2 (nI (encA X k))) 3 (nI t)) 4 (nI (c / 256))) 5 (nI (c % 256))) 6 (nI (X.2.2 c))) 7 (nI (pop (c % 256)))) 8 (nI 0)) h = some (.inl 0, sI (sI (sI (sI (sI (sI (sI (sR (sR fr0 0 a) 1 p) 2 (nI (encA X k))) 3 (nI t)) 4 (nI (c / 256))) 5 (nI (c % 256))) 6 (nI (X.2.2 c))) 7 (nI (pop (c % 256)))) 8 (nI (P 0 4)), g) ∧ LV g a P s (rwE P s t k X (P 0 4)) ∧ Ch (lvD a) h g ∧ ∀ j, j ≠ 9 → hi g a j = hi h a j := by
    unfold LX0_leave_1
    refine loop_g (fun j => sI (sI (sI (sI (sI (sI (sI (sR (sR fr0 0 a) 1 p) 2 (nI (encA X k))) 3 (nI t)) 4 (nI (c / 256))) 5 (nI (c % 256))) 6 (nI (X.2.2 c))) 7 (nI (pop (c % 256)))) 8 (nI j)) (fun j g => LV g a P s (rwE P s t k X j) ∧ Ch (lvD a) h g ∧ ∀ j, j ≠ 9 → hi g a j = hi h a j) (P 0 4) rfl ⟨hL, Ch.rf _ _, fun _ _ => rfl⟩ (fun j g hj hI => ?_) (fun g hI => ?_)
    · obtain ⟨⟨hQ, sn, mw, mh, s1, s2, m1, m2, q1, q2⟩, hch, hfl⟩ := hI
      have hA := hA.to hch.1
      have hGg := hG.ch hch (fun i hi1 => by unfold lvD; omega)
      have kp := hGg.s.k
      have j8 : j < 8 := by omega
      obtain ⟨i1, i2, i3, i4, i5, i6, i7⟩ := rwE_all (t := t) hw hn hkX h8 j (by omega)
      obtain ⟨Y, hY⟩ : ∃ Y, Y = rwE P s t k X j := ⟨_, rfl⟩
      have e0 : rwE P s t k X (j + 1) = stE P s t k Y j := by rw [hY]; rfl
      rw [e0, stE_ent]
      rw [← hY] at i1 i2 i3 i4 i5 i6 i7 hQ s2 m2 q2
      rw [← hc] at i4
      have hYD : Y.2.2 c = X.2.2 c := i5 c hcD
      rw [i4, hYD]
      have f4 := hGg.r.sc (k := 4) (by decide)
      have k7 := hA.k7
      have k5 := hA.k5
      have k1 := hA.k1
      have k2 := hA.k2
      have k6 := hA.k6
      have f7 : DX11_cell (sI (sR fr0 0 (a + 7)) 1 (nI (c / 256))) g = some (nI (doors P (c / 256) 0), g) := by
        rw [x_cellN (by rw [k7]) (hA.ne 7) (by rw [k7]; show c / 256 < 8; omega) (by rw [k7]; decide), (hch.2 _ (by unfold lvD; omega)).1, hP.2 _ hOK.1]
      have hdl := doors_lt hW (c / 256) 0
      have f5 : DX11_cell (sI (sR fr0 0 (a + 5)) 1 (nI (pop (c % 256)))) g = some (nI (wt P s (lbN P s (pop (c % 256) - 1))), g) := by
        rw [x_cellN (by rw [k5]) (hA.ne 5) (by rw [k5]; show pop (c % 256) < 9; omega) (by rw [k5]; decide), (hch.2 _ (by unfold lvD; omega)).1, (hP.1 _ hp1 hp8).1]
      have fc := x_climbTo hGg.s hGg.r hW hOK.1 hj
      have hcb := climb_le hW (a := c / 256) hj
      by_cases d : (doors P (c / 256) 0).testBit j = true
      · by_cases w : wt P s (lbN P s (pop (c % 256) - 1)) + climb P (c / 256) j ≤ t
        · have hok : okE P s t c j := ⟨d, w⟩
          rw [if_pos hok]
          have wN : ¬ t < wt P s (lbN P s (pop (c % 256) - 1)) + climb P (c / 256) j := by omega
          have S2 := SN_step (x := j) i1 i2 i3 j8 s2
          have M2 := MW_step (x := j) i1 i3 j8 m2
          rw [i4, hYD] at S2 M2
          have hmd : toE c j % 256 = (c % 256 ||| 2 ^ j) := toE_mod j8
          have H2 := MH_ent (c := toE c j) (v := X.2.2 c) (pop_12 _) q2
          rw [hmd] at H2
          have h28 : c % 256 ||| 2 ^ j < 256 := or_lt (k := 8) (Nat.mod_lt _ (by decide)) (pow_lt j8)
          have bs := s2.bd i1 h8 j
          have bm := m2.bd j
          have f1 : DX11_cell (sI (sR fr0 0 (a + 1)) 1 (nI j)) g = some (nI (sn j) + -nI 1, g) := by
            rw [x_cellN (by rw [k1]) (hA.ne 1) (by rw [k1]; exact j8) (by rw [k1]; decide), s1 j j8]
          have e5 : (nI (sn j) + -nI 1 = -nI 1) = (sn j = 0) := n_subm (by omega)
          have hnew : Y.2.2 (256 * j + (c % 256 ||| 2 ^ j)) = 0 → Y.2.1 < 2048 := fun z => by
            have h1 := (stE_W (t := t) i1 i2 i3 (x := j) hj h8).1.le h8
            rw [stE_ent, i4, if_pos hok] at h1
            unfold entE at h1
            have z : Y.2.2 (toE c j) = 0 := z
            rw [if_pos z] at h1
            exact h1
          have hset : c % 256 < 2 ^ 31 := by omega
          -- the soonest
          obtain ⟨g1, hg1⟩ : ∃ x, x = if sn j = 0 then wI g (a + 1) j (nI (X.2.2 c)) else g := ⟨_, rfl⟩
          have c1 : Ch (fun o => o = a + 1) g g1 := by
            rw [hg1]
            split
            · exact Ch.w (D := fun o => o = a + 1) (r := a + 1) rfl _ _ _
            · exact Ch.rf _ _
          have s1' : SNa g1 a (if sn j = 0 then fuN sn j (X.2.2 c + 1) else sn) := by
            rw [hg1]
            by_cases z : sn j = 0
            · rw [if_pos z, if_pos z]
              intro x hx
              unfold fuN
              by_cases zx : x = j
              · rw [if_pos zx, zx, w_eq]; exact (pk_m1 _).symm
              · rw [if_neg zx, w_ne (by omega)]; exact s1 x hx
            · rw [if_neg z, if_neg z]; exact s1
          have hA1 := hA.to c1.1
          have k21 := hA1.k2
          have k61 := hA1.k6
          have f2 : DX11_cell (sI (sR fr0 0 (a + 2)) 1 (nI j)) g1 = some (nI (mw j) + -nI 1, g1) := by
            rw [x_cellN (by rw [k21]) (hA.ne 2) (by rw [k21]; exact j8) (by rw [k21]; decide), (c1.2 _ (by omega)).1, m1 j j8]
          have f6 : DX11_cell (sI (sR fr0 0 (a + 6)) 1 (nI (pop (c % 256)))) g1 = some (nI (pop (lbN P s (pop (c % 256) - 1))), g1) := by
            rw [x_cellN (by rw [k61]) (hA.ne 6) (by rw [k61]; show pop (c % 256) < 9; omega) (by rw [k61]; decide), (c1.2 _ (by omega)).1, (hch.2 _ (by unfold lvD; omega)).1, (hP.1 _ hp1 hp8).2]
          have p12 := pop_12 (lbN P s (pop (c % 256) - 1))
          have e6 := n_maxm (a := mw j) (w := pop (lbN P s (pop (c % 256) - 1))) (by omega) (by omega)
          have a2 : DX11_put (sI (sI (sR fr0 0 (a + 2)) 1 (nI j)) 2 (nI (max (mw j) (pop (lbN P s (pop (c % 256) - 1)) + 1)) + -nI 1)) g1 = some ((), wI g1 (a + 2) j (nI (max (mw j) (pop (lbN P s (pop (c % 256) - 1)) + 1)) + -nI 1)) := x_put (by rw [k21]) (hA.ne 2) (by rw [k21]; exact j8) (by rw [k21]; decide)
          obtain ⟨g2, hg2⟩ : ∃ x, x = if (c % 256).testBit j = true then g1 else wI g1 (a + 2) j (nI (max (mw j) (pop (lbN P s (pop (c % 256) - 1)) + 1)) + -nI 1) := ⟨_, rfl⟩
          have c2 : Ch (fun o => o = a + 2) g1 g2 := by
            rw [hg2]
            split
            · exact Ch.rf _ _
            · exact Ch.w (D := fun o => o = a + 2) (r := a + 2) rfl _ _ _
          have m1' : MWa g2 a (if (c % 256).testBit j = true then mw else fuN mw j (max (mw j) (pop (lbN P s (pop (c % 256) - 1)) + 1))) := by
            rw [hg2]
            by_cases z : (c % 256).testBit j = true
            · rw [if_pos z, if_pos z]
              intro x hx
              rw [(c1.2 _ (by omega)).1]; exact m1 x hx
            · rw [if_neg z, if_neg z]
              intro x hx
              unfold fuN
              by_cases zx : x = j
              · rw [if_pos zx, zx, w_eq]
              · rw [if_neg zx, w_ne (by omega), (c1.2 _ (by omega)).1]; exact m1 x hx
          have c12 : Ch (fun o => o = a + 1 ∨ o = a + 2) g g2 := (c1.mono (fun o ho => Or.inl ho)).tr (c2.mono (fun o ho => Or.inr ho))
          have hA2 := hA.to c12.1
          have hQ2 := hQ.ch c12 (by omega) (by omega) (by omega)
          have hM2 : MHs g2 a mh := fun n hn1 => by rw [(c12.2 _ (by omega)).1]; exact q1 n hn1
          obtain ⟨g3, a3, b3, d3, c3, f3⟩ := x_enter (x := j) (e := c % 256 ||| 2 ^ j) (v := X.2.2 c) hA2 hQ2 hM2 q2.2.2 j8 h28 (by omega) hnew i1.1
          refine ⟨g3, ?_, ⟨b3, _, _, _, fun x hx => ?_, S2, fun x hx => ?_, M2, d3, H2⟩, (hch.tr (c12.mono (fun o ho => by unfold lvD; omega))).tr (c3.mono (fun o ho => by unfold lvD; omega)), fun i hi1 => ?_⟩
          · by_cases z : sn j = 0
            · rw [if_pos z] at hg1
              have e5t : (nI (sn j) + -nI 1 = -nI 1) = True := by rw [e5]; exact eq_true z
              have a1 : DX11_put (sI (sI (sR fr0 0 (a + 1)) 1 (nI j)) 2 (nI (X.2.2 c))) g = some ((), g1) := by
                rw [hg1]
                exact x_put (by rw [k1]) (hA.ne 1) (by rw [k1]; exact j8) (by rw [k1]; decide)
              have hr1 := c1.1.1
              have hk1 := c1.1.2.1
              by_cases y : (c % 256).testBit j = true
              · rw [if_pos y] at hg2
                subst hg2
                simp (disch := omega) only [ob_t, ob_n, ob_ite, e_cI, e_cL, e_cR, e_vI, e_vL, e_vR, e_d2, e_d2_a, e_d2_b, e_d2z, e_d2z_a, e_d2z_b, e_d1, e_d1_a, e_GI, e_GI_a, e_GL, e_GL_a, e_GR, e_GR_a, e_AI, e_AI_a, e_AI_b, e_AB, e_AB_a, e_AB_b, e_AZ, e_AZ_a, e_AZ_b, e_AL, e_AL_a, e_AL_b, e_AR, e_AR_a, e_AR_b, e_Len, e_Len_a, e_CI, e_CI_a, e_CI_b, e_CZ, e_CZ_a, e_And, e_kAnd, e_Or, e_kOr, e_Not, e_kNot, e_B, e_kB, e_T, e_kT, e_NN, e_kNN, e_NewA, e_NewA_a, e_NewC, e_kNewC, e_aN, e_aI, e_aI_a, e_aI_b, e_aL, e_aL_a, e_aL_b, e_aR, e_aR_a, e_aR_b, e_Call, e_kCall, e_CallV, e_kCallV, e_SetI, e_kSetI, e_SetL, e_kSetL, e_SetR, e_kSetR, e_Inc, e_Skip, e_Brk, e_Cnt, e_Ret, e_kRet, e_Ret0, e_Seq, e_kSeq0, e_kSeq1, e_kSeq2, e_kSeqR, e_If, e_kIf, e_Do, e_kDo, e_Sup, e_kN0, e_d3, e_k3a, e_k3b, e_k3c, e_P, e_kPa, e_kPb, e_UA, e_kUAa, e_kUAb, e_kUAc, e_UL, e_kULa, e_kULb, e_kULc, e_UF, e_kUFa, e_kUFb, e_Cp, e_kCp, e_Sw, e_kSwa, e_kSwb0, e_kSwb1, e_kSwbR, e_M1, e_kM1, e_MZ, e_kMZ, e_MN, e_kMN, e_Tv, e_kTv, e_Tc, e_kTc, e_lpS, e_kLp, e_kLpB0, e_kLpB1, e_kLpB2, e_kLpBR, e_kLpU, e_dwS, e_kDwB0, e_kDwC, f_II, f_LL, f_RR, f_IL, f_IR, f_LI, f_LR, f_RI, f_RL, o_iadd, o_isub, o_imul, o_iand, o_ior, o_ixor, o_ladd, o_lsub, o_lmul, o_land, o_lor, o_ishl, o_ishr, o_iushr, o_lshl, o_lshr, o_lcmp, o_i2l, o_l2i, o_i2b, o_i2s, o_lneg, o_ineg, o_imax, o_imin, o_idiv, o_irem, o_ldiv, o_lrem, r_lt, r_le, r_gt, r_ge, r_eq, r_ne, q_lt, q_le, q_gt, q_ge, q_eq, q_ne, decide_eq_true_eq, idI, and_true, true_and, and_false, false_and, or_true, true_or, or_false, false_or, not_true_eq_false, not_false_eq_true, if_true, if_false, ite_self, Bool.not_true, Bool.not_false, Bool.false_eq_true, Bool.true_eq_false, decide_true, decide_false, ne_eq, reduceIte, Nat.reduceEqDiff, Option.some.injEq, Prod.mk.injEq, eq_self, fa_lit, nI_add, pk_mul, nI_ltI, nI_leI, nI_eq, b01, b0, b1, x_hasBit, Nat.reduceLeDiff, Nat.reduceAdd, Nat.reduceMul, Nat.reduceSub, Nat.lt_irrefl, Nat.reduceLT, n_inb, nI_clamp, w_hr, w_hk, w_hl, w_eq, w_ne, wl_hr, wl_hk, wl_hi, wl_eq, wl_ne, hA.k, hA.k1, hA.k2, hA.k3, hA.k4, hA.k5, hA.k6, hA.k7, hA.k8, hA.k9, hA.k10, hA.k11, hA.k12, hA.r0, hA.r1, hA.r2, hA.r3, hA.r4, hA.r5, hA.r6, hA.r7, hA.r8, hA.r10, hA.r11, hA.r12, f_ss, f_sR, stI, fI, kp, f4, hj, f7, x_hasBit, d, f5, fc, wN, f1, e5t, a1, hr1, hk1, y, n_shl, fa_or, a3]
              · rw [if_neg y] at hg2
                rw [← hg2] at a2
                have hr2 := c2.1.1
                have hk2 := c2.1.2.1
                simp (disch := omega) only [ob_t, ob_n, ob_ite, e_cI, e_cL, e_cR, e_vI, e_vL, e_vR, e_d2, e_d2_a, e_d2_b, e_d2z, e_d2z_a, e_d2z_b, e_d1, e_d1_a, e_GI, e_GI_a, e_GL, e_GL_a, e_GR, e_GR_a, e_AI, e_AI_a, e_AI_b, e_AB, e_AB_a, e_AB_b, e_AZ, e_AZ_a, e_AZ_b, e_AL, e_AL_a, e_AL_b, e_AR, e_AR_a, e_AR_b, e_Len, e_Len_a, e_CI, e_CI_a, e_CI_b, e_CZ, e_CZ_a, e_And, e_kAnd, e_Or, e_kOr, e_Not, e_kNot, e_B, e_kB, e_T, e_kT, e_NN, e_kNN, e_NewA, e_NewA_a, e_NewC, e_kNewC, e_aN, e_aI, e_aI_a, e_aI_b, e_aL, e_aL_a, e_aL_b, e_aR, e_aR_a, e_aR_b, e_Call, e_kCall, e_CallV, e_kCallV, e_SetI, e_kSetI, e_SetL, e_kSetL, e_SetR, e_kSetR, e_Inc, e_Skip, e_Brk, e_Cnt, e_Ret, e_kRet, e_Ret0, e_Seq, e_kSeq0, e_kSeq1, e_kSeq2, e_kSeqR, e_If, e_kIf, e_Do, e_kDo, e_Sup, e_kN0, e_d3, e_k3a, e_k3b, e_k3c, e_P, e_kPa, e_kPb, e_UA, e_kUAa, e_kUAb, e_kUAc, e_UL, e_kULa, e_kULb, e_kULc, e_UF, e_kUFa, e_kUFb, e_Cp, e_kCp, e_Sw, e_kSwa, e_kSwb0, e_kSwb1, e_kSwbR, e_M1, e_kM1, e_MZ, e_kMZ, e_MN, e_kMN, e_Tv, e_kTv, e_Tc, e_kTc, e_lpS, e_kLp, e_kLpB0, e_kLpB1, e_kLpB2, e_kLpBR, e_kLpU, e_dwS, e_kDwB0, e_kDwC, f_II, f_LL, f_RR, f_IL, f_IR, f_LI, f_LR, f_RI, f_RL, o_iadd, o_isub, o_imul, o_iand, o_ior, o_ixor, o_ladd, o_lsub, o_lmul, o_land, o_lor, o_ishl, o_ishr, o_iushr, o_lshl, o_lshr, o_lcmp, o_i2l, o_l2i, o_i2b, o_i2s, o_lneg, o_ineg, o_imax, o_imin, o_idiv, o_irem, o_ldiv, o_lrem, r_lt, r_le, r_gt, r_ge, r_eq, r_ne, q_lt, q_le, q_gt, q_ge, q_eq, q_ne, decide_eq_true_eq, idI, and_true, true_and, and_false, false_and, or_true, true_or, or_false, false_or, not_true_eq_false, not_false_eq_true, if_true, if_false, ite_self, Bool.not_true, Bool.not_false, Bool.false_eq_true, Bool.true_eq_false, decide_true, decide_false, ne_eq, reduceIte, Nat.reduceEqDiff, Option.some.injEq, Prod.mk.injEq, eq_self, fa_lit, nI_add, pk_mul, nI_ltI, nI_leI, nI_eq, b01, b0, b1, x_hasBit, Nat.reduceLeDiff, Nat.reduceAdd, Nat.reduceMul, Nat.reduceSub, Nat.lt_irrefl, Nat.reduceLT, n_inb, nI_clamp, w_hr, w_hk, w_hl, w_eq, w_ne, wl_hr, wl_hk, wl_hi, wl_eq, wl_ne, hA.k, hA.k1, hA.k2, hA.k3, hA.k4, hA.k5, hA.k6, hA.k7, hA.k8, hA.k9, hA.k10, hA.k11, hA.k12, hA.r0, hA.r1, hA.r2, hA.r3, hA.r4, hA.r5, hA.r6, hA.r7, hA.r8, hA.r10, hA.r11, hA.r12, f_ss, f_sR, stI, fI, kp, f4, hj, f7, x_hasBit, d, f5, fc, wN, f1, e5t, a1, hr1, hk1, y, f2, f6, e6, a2, hr2, hk2, n_shl, fa_or, a3]
            · rw [if_neg z] at hg1
              subst hg1
              have e5t : (nI (sn j) + -nI 1 = -nI 1) = False := by rw [e5]; exact eq_false z
              by_cases y : (c % 256).testBit j = true
              · rw [if_pos y] at hg2
                subst hg2
                simp (disch := omega) only [ob_t, ob_n, ob_ite, e_cI, e_cL, e_cR, e_vI, e_vL, e_vR, e_d2, e_d2_a, e_d2_b, e_d2z, e_d2z_a, e_d2z_b, e_d1, e_d1_a, e_GI, e_GI_a, e_GL, e_GL_a, e_GR, e_GR_a, e_AI, e_AI_a, e_AI_b, e_AB, e_AB_a, e_AB_b, e_AZ, e_AZ_a, e_AZ_b, e_AL, e_AL_a, e_AL_b, e_AR, e_AR_a, e_AR_b, e_Len, e_Len_a, e_CI, e_CI_a, e_CI_b, e_CZ, e_CZ_a, e_And, e_kAnd, e_Or, e_kOr, e_Not, e_kNot, e_B, e_kB, e_T, e_kT, e_NN, e_kNN, e_NewA, e_NewA_a, e_NewC, e_kNewC, e_aN, e_aI, e_aI_a, e_aI_b, e_aL, e_aL_a, e_aL_b, e_aR, e_aR_a, e_aR_b, e_Call, e_kCall, e_CallV, e_kCallV, e_SetI, e_kSetI, e_SetL, e_kSetL, e_SetR, e_kSetR, e_Inc, e_Skip, e_Brk, e_Cnt, e_Ret, e_kRet, e_Ret0, e_Seq, e_kSeq0, e_kSeq1, e_kSeq2, e_kSeqR, e_If, e_kIf, e_Do, e_kDo, e_Sup, e_kN0, e_d3, e_k3a, e_k3b, e_k3c, e_P, e_kPa, e_kPb, e_UA, e_kUAa, e_kUAb, e_kUAc, e_UL, e_kULa, e_kULb, e_kULc, e_UF, e_kUFa, e_kUFb, e_Cp, e_kCp, e_Sw, e_kSwa, e_kSwb0, e_kSwb1, e_kSwbR, e_M1, e_kM1, e_MZ, e_kMZ, e_MN, e_kMN, e_Tv, e_kTv, e_Tc, e_kTc, e_lpS, e_kLp, e_kLpB0, e_kLpB1, e_kLpB2, e_kLpBR, e_kLpU, e_dwS, e_kDwB0, e_kDwC, f_II, f_LL, f_RR, f_IL, f_IR, f_LI, f_LR, f_RI, f_RL, o_iadd, o_isub, o_imul, o_iand, o_ior, o_ixor, o_ladd, o_lsub, o_lmul, o_land, o_lor, o_ishl, o_ishr, o_iushr, o_lshl, o_lshr, o_lcmp, o_i2l, o_l2i, o_i2b, o_i2s, o_lneg, o_ineg, o_imax, o_imin, o_idiv, o_irem, o_ldiv, o_lrem, r_lt, r_le, r_gt, r_ge, r_eq, r_ne, q_lt, q_le, q_gt, q_ge, q_eq, q_ne, decide_eq_true_eq, idI, and_true, true_and, and_false, false_and, or_true, true_or, or_false, false_or, not_true_eq_false, not_false_eq_true, if_true, if_false, ite_self, Bool.not_true, Bool.not_false, Bool.false_eq_true, Bool.true_eq_false, decide_true, decide_false, ne_eq, reduceIte, Nat.reduceEqDiff, Option.some.injEq, Prod.mk.injEq, eq_self, fa_lit, nI_add, pk_mul, nI_ltI, nI_leI, nI_eq, b01, b0, b1, x_hasBit, Nat.reduceLeDiff, Nat.reduceAdd, Nat.reduceMul, Nat.reduceSub, Nat.lt_irrefl, Nat.reduceLT, n_inb, nI_clamp, w_hr, w_hk, w_hl, w_eq, w_ne, wl_hr, wl_hk, wl_hi, wl_eq, wl_ne, hA.k, hA.k1, hA.k2, hA.k3, hA.k4, hA.k5, hA.k6, hA.k7, hA.k8, hA.k9, hA.k10, hA.k11, hA.k12, hA.r0, hA.r1, hA.r2, hA.r3, hA.r4, hA.r5, hA.r6, hA.r7, hA.r8, hA.r10, hA.r11, hA.r12, f_ss, f_sR, stI, fI, kp, f4, hj, f7, x_hasBit, d, f5, fc, wN, f1, e5t, y, n_shl, fa_or, a3]
              · rw [if_neg y] at hg2
                rw [← hg2] at a2
                have hr2 := c2.1.1
                have hk2 := c2.1.2.1
                simp (disch := omega) only [ob_t, ob_n, ob_ite, e_cI, e_cL, e_cR, e_vI, e_vL, e_vR, e_d2, e_d2_a, e_d2_b, e_d2z, e_d2z_a, e_d2z_b, e_d1, e_d1_a, e_GI, e_GI_a, e_GL, e_GL_a, e_GR, e_GR_a, e_AI, e_AI_a, e_AI_b, e_AB, e_AB_a, e_AB_b, e_AZ, e_AZ_a, e_AZ_b, e_AL, e_AL_a, e_AL_b, e_AR, e_AR_a, e_AR_b, e_Len, e_Len_a, e_CI, e_CI_a, e_CI_b, e_CZ, e_CZ_a, e_And, e_kAnd, e_Or, e_kOr, e_Not, e_kNot, e_B, e_kB, e_T, e_kT, e_NN, e_kNN, e_NewA, e_NewA_a, e_NewC, e_kNewC, e_aN, e_aI, e_aI_a, e_aI_b, e_aL, e_aL_a, e_aL_b, e_aR, e_aR_a, e_aR_b, e_Call, e_kCall, e_CallV, e_kCallV, e_SetI, e_kSetI, e_SetL, e_kSetL, e_SetR, e_kSetR, e_Inc, e_Skip, e_Brk, e_Cnt, e_Ret, e_kRet, e_Ret0, e_Seq, e_kSeq0, e_kSeq1, e_kSeq2, e_kSeqR, e_If, e_kIf, e_Do, e_kDo, e_Sup, e_kN0, e_d3, e_k3a, e_k3b, e_k3c, e_P, e_kPa, e_kPb, e_UA, e_kUAa, e_kUAb, e_kUAc, e_UL, e_kULa, e_kULb, e_kULc, e_UF, e_kUFa, e_kUFb, e_Cp, e_kCp, e_Sw, e_kSwa, e_kSwb0, e_kSwb1, e_kSwbR, e_M1, e_kM1, e_MZ, e_kMZ, e_MN, e_kMN, e_Tv, e_kTv, e_Tc, e_kTc, e_lpS, e_kLp, e_kLpB0, e_kLpB1, e_kLpB2, e_kLpBR, e_kLpU, e_dwS, e_kDwB0, e_kDwC, f_II, f_LL, f_RR, f_IL, f_IR, f_LI, f_LR, f_RI, f_RL, o_iadd, o_isub, o_imul, o_iand, o_ior, o_ixor, o_ladd, o_lsub, o_lmul, o_land, o_lor, o_ishl, o_ishr, o_iushr, o_lshl, o_lshr, o_lcmp, o_i2l, o_l2i, o_i2b, o_i2s, o_lneg, o_ineg, o_imax, o_imin, o_idiv, o_irem, o_ldiv, o_lrem, r_lt, r_le, r_gt, r_ge, r_eq, r_ne, q_lt, q_le, q_gt, q_ge, q_eq, q_ne, decide_eq_true_eq, idI, and_true, true_and, and_false, false_and, or_true, true_or, or_false, false_or, not_true_eq_false, not_false_eq_true, if_true, if_false, ite_self, Bool.not_true, Bool.not_false, Bool.false_eq_true, Bool.true_eq_false, decide_true, decide_false, ne_eq, reduceIte, Nat.reduceEqDiff, Option.some.injEq, Prod.mk.injEq, eq_self, fa_lit, nI_add, pk_mul, nI_ltI, nI_leI, nI_eq, b01, b0, b1, x_hasBit, Nat.reduceLeDiff, Nat.reduceAdd, Nat.reduceMul, Nat.reduceSub, Nat.lt_irrefl, Nat.reduceLT, n_inb, nI_clamp, w_hr, w_hk, w_hl, w_eq, w_ne, wl_hr, wl_hk, wl_hi, wl_eq, wl_ne, hA.k, hA.k1, hA.k2, hA.k3, hA.k4, hA.k5, hA.k6, hA.k7, hA.k8, hA.k9, hA.k10, hA.k11, hA.k12, hA.r0, hA.r1, hA.r2, hA.r3, hA.r4, hA.r5, hA.r6, hA.r7, hA.r8, hA.r10, hA.r11, hA.r12, f_ss, f_sR, stI, fI, kp, f4, hj, f7, x_hasBit, d, f5, fc, wN, f1, e5t, y, f2, f6, e6, a2, hr2, hk2, n_shl, fa_or, a3]
          · rw [(c3.2 _ (by omega)).1, (c2.2 _ (by omega)).1]; exact s1' x hx
          · rw [(c3.2 _ (by omega)).1]; exact m1' x hx
          · rw [f3 i hi1, (c12.2 _ (by omega)).1]; exact hfl i hi1
        · rw [if_neg (fun z => w z.2)]
          have wN : t < wt P s (lbN P s (pop (c % 256) - 1)) + climb P (c / 256) j := by omega
          refine ⟨g, ?_, ⟨hQ, sn, mw, mh, s1, s2, m1, m2, q1, q2⟩, hch, hfl⟩
          simp (disch := omega) only [ob_t, ob_n, ob_ite, e_cI, e_cL, e_cR, e_vI, e_vL, e_vR, e_d2, e_d2_a, e_d2_b, e_d2z, e_d2z_a, e_d2z_b, e_d1, e_d1_a, e_GI, e_GI_a, e_GL, e_GL_a, e_GR, e_GR_a, e_AI, e_AI_a, e_AI_b, e_AB, e_AB_a, e_AB_b, e_AZ, e_AZ_a, e_AZ_b, e_AL, e_AL_a, e_AL_b, e_AR, e_AR_a, e_AR_b, e_Len, e_Len_a, e_CI, e_CI_a, e_CI_b, e_CZ, e_CZ_a, e_And, e_kAnd, e_Or, e_kOr, e_Not, e_kNot, e_B, e_kB, e_T, e_kT, e_NN, e_kNN, e_NewA, e_NewA_a, e_NewC, e_kNewC, e_aN, e_aI, e_aI_a, e_aI_b, e_aL, e_aL_a, e_aL_b, e_aR, e_aR_a, e_aR_b, e_Call, e_kCall, e_CallV, e_kCallV, e_SetI, e_kSetI, e_SetL, e_kSetL, e_SetR, e_kSetR, e_Inc, e_Skip, e_Brk, e_Cnt, e_Ret, e_kRet, e_Ret0, e_Seq, e_kSeq0, e_kSeq1, e_kSeq2, e_kSeqR, e_If, e_kIf, e_Do, e_kDo, e_Sup, e_kN0, e_d3, e_k3a, e_k3b, e_k3c, e_P, e_kPa, e_kPb, e_UA, e_kUAa, e_kUAb, e_kUAc, e_UL, e_kULa, e_kULb, e_kULc, e_UF, e_kUFa, e_kUFb, e_Cp, e_kCp, e_Sw, e_kSwa, e_kSwb0, e_kSwb1, e_kSwbR, e_M1, e_kM1, e_MZ, e_kMZ, e_MN, e_kMN, e_Tv, e_kTv, e_Tc, e_kTc, e_lpS, e_kLp, e_kLpB0, e_kLpB1, e_kLpB2, e_kLpBR, e_kLpU, e_dwS, e_kDwB0, e_kDwC, f_II, f_LL, f_RR, f_IL, f_IR, f_LI, f_LR, f_RI, f_RL, o_iadd, o_isub, o_imul, o_iand, o_ior, o_ixor, o_ladd, o_lsub, o_lmul, o_land, o_lor, o_ishl, o_ishr, o_iushr, o_lshl, o_lshr, o_lcmp, o_i2l, o_l2i, o_i2b, o_i2s, o_lneg, o_ineg, o_imax, o_imin, o_idiv, o_irem, o_ldiv, o_lrem, r_lt, r_le, r_gt, r_ge, r_eq, r_ne, q_lt, q_le, q_gt, q_ge, q_eq, q_ne, decide_eq_true_eq, idI, and_true, true_and, and_false, false_and, or_true, true_or, or_false, false_or, not_true_eq_false, not_false_eq_true, if_true, if_false, ite_self, Bool.not_true, Bool.not_false, Bool.false_eq_true, Bool.true_eq_false, decide_true, decide_false, ne_eq, reduceIte, Nat.reduceEqDiff, Option.some.injEq, Prod.mk.injEq, eq_self, fa_lit, nI_add, pk_mul, nI_ltI, nI_leI, nI_eq, b01, b0, b1, x_hasBit, Nat.reduceLeDiff, Nat.reduceAdd, Nat.reduceMul, Nat.reduceSub, Nat.lt_irrefl, Nat.reduceLT, n_inb, nI_clamp, w_hr, w_hk, w_hl, w_eq, w_ne, wl_hr, wl_hk, wl_hi, wl_eq, wl_ne, hA.k, hA.k1, hA.k2, hA.k3, hA.k4, hA.k5, hA.k6, hA.k7, hA.k8, hA.k9, hA.k10, hA.k11, hA.k12, hA.r0, hA.r1, hA.r2, hA.r3, hA.r4, hA.r5, hA.r6, hA.r7, hA.r8, hA.r10, hA.r11, hA.r12, f_ss, f_sR, stI, fI, kp, f4, hj, f7, x_hasBit, d, f5, fc, wN]
      · rw [if_neg (fun z => d z.1)]
        refine ⟨g, ?_, ⟨hQ, sn, mw, mh, s1, s2, m1, m2, q1, q2⟩, hch, hfl⟩
        simp (disch := omega) only [ob_t, ob_n, ob_ite, e_cI, e_cL, e_cR, e_vI, e_vL, e_vR, e_d2, e_d2_a, e_d2_b, e_d2z, e_d2z_a, e_d2z_b, e_d1, e_d1_a, e_GI, e_GI_a, e_GL, e_GL_a, e_GR, e_GR_a, e_AI, e_AI_a, e_AI_b, e_AB, e_AB_a, e_AB_b, e_AZ, e_AZ_a, e_AZ_b, e_AL, e_AL_a, e_AL_b, e_AR, e_AR_a, e_AR_b, e_Len, e_Len_a, e_CI, e_CI_a, e_CI_b, e_CZ, e_CZ_a, e_And, e_kAnd, e_Or, e_kOr, e_Not, e_kNot, e_B, e_kB, e_T, e_kT, e_NN, e_kNN, e_NewA, e_NewA_a, e_NewC, e_kNewC, e_aN, e_aI, e_aI_a, e_aI_b, e_aL, e_aL_a, e_aL_b, e_aR, e_aR_a, e_aR_b, e_Call, e_kCall, e_CallV, e_kCallV, e_SetI, e_kSetI, e_SetL, e_kSetL, e_SetR, e_kSetR, e_Inc, e_Skip, e_Brk, e_Cnt, e_Ret, e_kRet, e_Ret0, e_Seq, e_kSeq0, e_kSeq1, e_kSeq2, e_kSeqR, e_If, e_kIf, e_Do, e_kDo, e_Sup, e_kN0, e_d3, e_k3a, e_k3b, e_k3c, e_P, e_kPa, e_kPb, e_UA, e_kUAa, e_kUAb, e_kUAc, e_UL, e_kULa, e_kULb, e_kULc, e_UF, e_kUFa, e_kUFb, e_Cp, e_kCp, e_Sw, e_kSwa, e_kSwb0, e_kSwb1, e_kSwbR, e_M1, e_kM1, e_MZ, e_kMZ, e_MN, e_kMN, e_Tv, e_kTv, e_Tc, e_kTc, e_lpS, e_kLp, e_kLpB0, e_kLpB1, e_kLpB2, e_kLpBR, e_kLpU, e_dwS, e_kDwB0, e_kDwC, f_II, f_LL, f_RR, f_IL, f_IR, f_LI, f_LR, f_RI, f_RL, o_iadd, o_isub, o_imul, o_iand, o_ior, o_ixor, o_ladd, o_lsub, o_lmul, o_land, o_lor, o_ishl, o_ishr, o_iushr, o_lshl, o_lshr, o_lcmp, o_i2l, o_l2i, o_i2b, o_i2s, o_lneg, o_ineg, o_imax, o_imin, o_idiv, o_irem, o_ldiv, o_lrem, r_lt, r_le, r_gt, r_ge, r_eq, r_ne, q_lt, q_le, q_gt, q_ge, q_eq, q_ne, decide_eq_true_eq, idI, and_true, true_and, and_false, false_and, or_true, true_or, or_false, false_or, not_true_eq_false, not_false_eq_true, if_true, if_false, ite_self, Bool.not_true, Bool.not_false, Bool.false_eq_true, Bool.true_eq_false, decide_true, decide_false, ne_eq, reduceIte, Nat.reduceEqDiff, Option.some.injEq, Prod.mk.injEq, eq_self, fa_lit, nI_add, pk_mul, nI_ltI, nI_leI, nI_eq, b01, b0, b1, x_hasBit, Nat.reduceLeDiff, Nat.reduceAdd, Nat.reduceMul, Nat.reduceSub, Nat.lt_irrefl, Nat.reduceLT, n_inb, nI_clamp, w_hr, w_hk, w_hl, w_eq, w_ne, wl_hr, wl_hk, wl_hi, wl_eq, wl_ne, hA.k, hA.k1, hA.k2, hA.k3, hA.k4, hA.k5, hA.k6, hA.k7, hA.k8, hA.k9, hA.k10, hA.k11, hA.k12, hA.r0, hA.r1, hA.r2, hA.r3, hA.r4, hA.r5, hA.r6, hA.r7, hA.r8, hA.r10, hA.r11, hA.r12, f_ss, f_sR, stI, fI, kp, f4, hj, f7, x_hasBit, d]
    · obtain ⟨-, hch, -⟩ := hI
      have hGg := hG.ch hch (fun i hi1 => by unfold lvD; omega)
      have kp := hGg.s.k
      have f4 := hGg.r.sc (k := 4) (by decide)
      have hA := hA.to hch.1
      simp (disch := omega) only [ob_t, ob_n, ob_ite, e_cI, e_cL, e_cR, e_vI, e_vL, e_vR, e_d2, e_d2_a, e_d2_b, e_d2z, e_d2z_a, e_d2z_b, e_d1, e_d1_a, e_GI, e_GI_a, e_GL, e_GL_a, e_GR, e_GR_a, e_AI, e_AI_a, e_AI_b, e_AB, e_AB_a, e_AB_b, e_AZ, e_AZ_a, e_AZ_b, e_AL, e_AL_a, e_AL_b, e_AR, e_AR_a, e_AR_b, e_Len, e_Len_a, e_CI, e_CI_a, e_CI_b, e_CZ, e_CZ_a, e_And, e_kAnd, e_Or, e_kOr, e_Not, e_kNot, e_B, e_kB, e_T, e_kT, e_NN, e_kNN, e_NewA, e_NewA_a, e_NewC, e_kNewC, e_aN, e_aI, e_aI_a, e_aI_b, e_aL, e_aL_a, e_aL_b, e_aR, e_aR_a, e_aR_b, e_Call, e_kCall, e_CallV, e_kCallV, e_SetI, e_kSetI, e_SetL, e_kSetL, e_SetR, e_kSetR, e_Inc, e_Skip, e_Brk, e_Cnt, e_Ret, e_kRet, e_Ret0, e_Seq, e_kSeq0, e_kSeq1, e_kSeq2, e_kSeqR, e_If, e_kIf, e_Do, e_kDo, e_Sup, e_kN0, e_d3, e_k3a, e_k3b, e_k3c, e_P, e_kPa, e_kPb, e_UA, e_kUAa, e_kUAb, e_kUAc, e_UL, e_kULa, e_kULb, e_kULc, e_UF, e_kUFa, e_kUFb, e_Cp, e_kCp, e_Sw, e_kSwa, e_kSwb0, e_kSwb1, e_kSwbR, e_M1, e_kM1, e_MZ, e_kMZ, e_MN, e_kMN, e_Tv, e_kTv, e_Tc, e_kTc, e_lpS, e_kLp, e_kLpB0, e_kLpB1, e_kLpB2, e_kLpBR, e_kLpU, e_dwS, e_kDwB0, e_kDwC, f_II, f_LL, f_RR, f_IL, f_IR, f_LI, f_LR, f_RI, f_RL, o_iadd, o_isub, o_imul, o_iand, o_ior, o_ixor, o_ladd, o_lsub, o_lmul, o_land, o_lor, o_ishl, o_ishr, o_iushr, o_lshl, o_lshr, o_lcmp, o_i2l, o_l2i, o_i2b, o_i2s, o_lneg, o_ineg, o_imax, o_imin, o_idiv, o_irem, o_ldiv, o_lrem, r_lt, r_le, r_gt, r_ge, r_eq, r_ne, q_lt, q_le, q_gt, q_ge, q_eq, q_ne, decide_eq_true_eq, idI, and_true, true_and, and_false, false_and, or_true, true_or, or_false, false_or, not_true_eq_false, not_false_eq_true, if_true, if_false, ite_self, Bool.not_true, Bool.not_false, Bool.false_eq_true, Bool.true_eq_false, decide_true, decide_false, ne_eq, reduceIte, Nat.reduceEqDiff, Option.some.injEq, Prod.mk.injEq, eq_self, fa_lit, nI_add, pk_mul, nI_ltI, nI_leI, nI_eq, b01, b0, b1, x_hasBit, Nat.reduceLeDiff, Nat.reduceAdd, Nat.reduceMul, Nat.reduceSub, Nat.lt_irrefl, Nat.reduceLT, n_inb, nI_clamp, w_hr, w_hk, w_hl, w_eq, w_ne, wl_hr, wl_hk, wl_hi, wl_eq, wl_ne, hA.k, hA.k1, hA.k2, hA.k3, hA.k4, hA.k5, hA.k6, hA.k7, hA.k8, hA.k9, hA.k10, hA.k11, hA.k12, hA.r0, hA.r1, hA.r2, hA.r3, hA.r4, hA.r5, hA.r6, hA.r7, hA.r8, hA.r10, hA.r11, hA.r12, f_ss, f_sR, stI, fI, kp, f4]
  refine ⟨g9, ?_, hL9, c9, d9⟩
  have kp := hG.s.k
  simp (disch := omega) only [ob_t, ob_n, ob_ite, e_cI, e_cL, e_cR, e_vI, e_vL, e_vR, e_d2, e_d2_a, e_d2_b, e_d2z, e_d2z_a, e_d2z_b, e_d1, e_d1_a, e_GI, e_GI_a, e_GL, e_GL_a, e_GR, e_GR_a, e_AI, e_AI_a, e_AI_b, e_AB, e_AB_a, e_AB_b, e_AZ, e_AZ_a, e_AZ_b, e_AL, e_AL_a, e_AL_b, e_AR, e_AR_a, e_AR_b, e_Len, e_Len_a, e_CI, e_CI_a, e_CI_b, e_CZ, e_CZ_a, e_And, e_kAnd, e_Or, e_kOr, e_Not, e_kNot, e_B, e_kB, e_T, e_kT, e_NN, e_kNN, e_NewA, e_NewA_a, e_NewC, e_kNewC, e_aN, e_aI, e_aI_a, e_aI_b, e_aL, e_aL_a, e_aL_b, e_aR, e_aR_a, e_aR_b, e_Call, e_kCall, e_CallV, e_kCallV, e_SetI, e_kSetI, e_SetL, e_kSetL, e_SetR, e_kSetR, e_Inc, e_Skip, e_Brk, e_Cnt, e_Ret, e_kRet, e_Ret0, e_Seq, e_kSeq0, e_kSeq1, e_kSeq2, e_kSeqR, e_If, e_kIf, e_Do, e_kDo, e_Sup, e_kN0, e_d3, e_k3a, e_k3b, e_k3c, e_P, e_kPa, e_kPb, e_UA, e_kUAa, e_kUAb, e_kUAc, e_UL, e_kULa, e_kULb, e_kULc, e_UF, e_kUFa, e_kUFb, e_Cp, e_kCp, e_Sw, e_kSwa, e_kSwb0, e_kSwb1, e_kSwbR, e_M1, e_kM1, e_MZ, e_kMZ, e_MN, e_kMN, e_Tv, e_kTv, e_Tc, e_kTc, e_lpS, e_kLp, e_kLpB0, e_kLpB1, e_kLpB2, e_kLpBR, e_kLpU, e_dwS, e_kDwB0, e_kDwC, f_II, f_LL, f_RR, f_IL, f_IR, f_LI, f_LR, f_RI, f_RL, o_iadd, o_isub, o_imul, o_iand, o_ior, o_ixor, o_ladd, o_lsub, o_lmul, o_land, o_lor, o_ishl, o_ishr, o_iushr, o_lshl, o_lshr, o_lcmp, o_i2l, o_l2i, o_i2b, o_i2s, o_lneg, o_ineg, o_imax, o_imin, o_idiv, o_irem, o_ldiv, o_lrem, r_lt, r_le, r_gt, r_ge, r_eq, r_ne, q_lt, q_le, q_gt, q_ge, q_eq, q_ne, decide_eq_true_eq, idI, and_true, true_and, and_false, false_and, or_true, true_or, or_false, false_or, not_true_eq_false, not_false_eq_true, if_true, if_false, ite_self, Bool.not_true, Bool.not_false, Bool.false_eq_true, Bool.true_eq_false, decide_true, decide_false, ne_eq, reduceIte, Nat.reduceEqDiff, Option.some.injEq, Prod.mk.injEq, eq_self, fa_lit, nI_add, pk_mul, nI_ltI, nI_leI, nI_eq, b01, b0, b1, x_hasBit, Nat.reduceLeDiff, Nat.reduceAdd, Nat.reduceMul, Nat.reduceSub, Nat.lt_irrefl, Nat.reduceLT, n_inb, nI_clamp, w_hr, w_hk, w_hl, w_eq, w_ne, wl_hr, wl_hk, wl_hi, wl_eq, wl_ne, hA.k, hA.k1, hA.k2, hA.k3, hA.k4, hA.k5, hA.k6, hA.k7, hA.k8, hA.k9, hA.k10, hA.k11, hA.k12, hA.r0, hA.r1, hA.r2, hA.r3, hA.r4, hA.r5, hA.r6, hA.r7, hA.r8, hA.r10, hA.r11, hA.r12, f_ss, f_sR, stI, fI, DX0_leave, BX0_leave, e1, e2, e3, e3b, x_bitCount, L]
end
