set_option maxRecDepth 100000
set_option maxHeartbeats 4000000
set_option maxRecDepth 100000
set_option maxHeartbeats 2000000
/-! the law: what it asks of both, call by call -/
theorem wa_R (f : Fr) (h : St) (k : Nat) : aR aN 0 (vR k) f h = some (sR fr0 0 (gR f k), h) := rfl
theorem wa_I {A : Ag} {X : Ex Int32} {f r : Fr} {h : St} {v : Int32} (k : Nat) (a : A f h = some (r, h)) (b : X f h = some (v, h)) : aI A k X f h = some (sI r k v, h) := by
  rw [e_aI, a, ob_t, e_aI_a, b, ob_t]
  rfl
theorem wa_L {A : Ag} {X : Ex Int64} {f r : Fr} {h : St} {v : Int64} (k : Nat) (a : A f h = some (r, h)) (b : X f h = some (v, h)) : aL A k X f h = some (sL r k v, h) := by
  rw [e_aL, a, ob_t, e_aL_a, b, ob_t]
  rfl
theorem wa_1 {α β : Type} {g : α → β} {A : Ex α} {f : Fr} {h : St} {v : α} (a : A f h = some (v, h)) : d1 g A f h = some (g v, h) := by
  rw [e_d1, a, ob_t]
  rfl
theorem wa_2 {α β γ : Type} {g : α → β → γ} {A : Ex α} {B : Ex β} {f : Fr} {h : St} {v : α} {w : β} (a : A f h = some (v, h)) (b : B f h = some (w, h)) : d2 g A B f h = some (g v w, h) := by
  rw [e_d2, a, ob_t, e_d2_a, b, ob_t]
  rfl
theorem wa_V {α : Type} {cl : Nat} {D : Fr → St → Option (α × St)} {A : Ag} {f r : Fr} {h : St} {q : α × St} (a : A f h = some (r, h)) (c : (hk h (gR r 0)).1 = cl) (d : D r h = some q) : dCallV cl D A f h = some q := by
  rw [e_CallV, a, ob_t, e_kCallV, if_pos c, d]
theorem wa_pair {A B : Ex Int32} {f : Fr} {h g1 g2 : St} {r : Int32} (a : A f h = some (r, g1)) (b : B f g1 = some (r, g2)) : (dSeq (dIf (dCI r_ne A B) (dRet (cI 0)) dSkip) dBrk : Sm Int32) f h = some (.inl 1, f, g2) := by
  have e : r_ne r r = false := by simp [r_ne]
  rw [e_Seq, e_If, e_CI, a, ob_t, e_CI_a, b, ob_t, e_CI_b, e, ob_t, e_kIf, if_neg (by decide), e_Skip, ob_t, e_kSeq0]
  rfl
theorem wa_pairL {A B : Ex Int64} {f : Fr} {h g1 g2 : St} {r : Int64} (a : A f h = some (r, g1)) (b : B f g1 = some (r, g2)) : (dSeq (dIf (dCZ q_ne (d2 o_lcmp A B)) (dRet (cI 0)) dSkip) dBrk : Sm Int32) f h = some (.inl 1, f, g2) := by
  have e : q_ne (o_lcmp r r) = false := by simp [q_ne, o_lcmp, lg_cmp]
  rw [e_Seq, e_If, e_CZ, e_d2, a, ob_t, e_d2_a, b, ob_t, e_d2_b, ob_t, e_CZ_a, e, ob_t, e_kIf, if_neg (by decide), e_Skip, ob_t, e_kSeq0]
  rfl
def lwF (i : Nat) : Fr := sI (sR (sR (sR fr0 0 1) 1 oX) 2 oM) 3 (nI (6 * i))
theorem lwF_0 (i : Nat) : gR (lwF i) 0 = 1 := rfl
theorem lwF_1 (i : Nat) : gR (lwF i) 1 = oX := rfl
theorem lwF_2 (i : Nat) : gR (lwF i) 2 = oM := rfl
theorem lwF_3 (i : Nat) : gI (lwF i) 3 = nI (6 * i) := rfl
section
variable {L : Nat} {xs : Nat → Int32}
/-- the given numbers, and the two made -/
def LwC (L : Nat) (xs : Nat → Int32) (h : St) : Prop := hk h 1 = (18, L) ∧ (∀ k, hi h 1 k = xs k) ∧ (hk h oX).1 = 11 ∧ (hk h oM).1 = 12 ∧ 158 ≤ hn h
theorem lwC {h : St} {P : PT} (H : Inv L xs h P) : LwC L xs h := by
  obtain ⟨hS, -, -, -, -, -, -, -, -, -, -, -, hN, hC⟩ := H
  refine ⟨?_, fun k => ?_, ?_, ?_, ?_⟩
  · rw [(hC 1 (by decide)).1]; rfl
  · rw [(hC 1 (by decide)).2 k]; rfl
  · rw [hS.1.koX]
  · rw [hS.2.2.2.2.2.2.2.1]
  · rw [hN.1]; omega
theorem LwC.to {h g : St} (H : LwC L xs h) (k : K1 h g) : LwC L xs g := by
  obtain ⟨h1, h2, h3, h4, h5⟩ := H
  have hX := oX_is
  have hM := oM_is
  obtain ⟨a1, a2⟩ := k.2 1 (by omega)
  refine ⟨a1.trans h1, fun j => (a2 (by rw [h1]) j).trans (h2 j), ?_, ?_, Nat.le_trans h5 k.1⟩
  · rw [(k.2 oX (by omega)).1]; exact h3
  · rw [(k.2 oM (by omega)).1]; exact h4
theorem lw_i {h : St} {i : Nat} (C : LwC L xs h) (hL : L ≤ 3072) (h6 : 6 * i + 6 ≤ L) : dAI (vR 0) (vI 3) (lwF i) h = some (xs (6 * i), h) := by
  obtain ⟨h1, h2, -, -, -⟩ := C
  rw [e_AI, e_vR, ob_t, e_AI_a, e_vI, ob_t, e_AI_b, lwF_0, lwF_3, h1, if_pos ⟨Or.inr rfl, n_inb (by omega) (by omega)⟩, h2, nI_clamp (by omega)]
theorem lw_x {h : St} {i : Nat} (C : LwC L xs h) (hL : L ≤ 3072) (h6 : 6 * i + 6 ≤ L) {k : Nat} (hk1 : k < 6) {c : Int32} (hc : c = nI k) : dAI (vR 0) (d2 o_iadd (vI 3) (cI c)) (lwF i) h = some (xs (6 * i + k), h) := by
  obtain ⟨h1, h2, -, -, -⟩ := C
  rw [e_AI, e_vR, ob_t, e_AI_a, e_d2, e_vI, ob_t, e_d2_a, e_cI, ob_t, e_d2_b, ob_t, e_AI_b, lwF_0, lwF_3, hc, show o_iadd (nI (6 * i)) (nI k) = nI (6 * i + k) from nI_add _ _, h1, if_pos ⟨Or.inr rfl, n_inb (by omega) (by omega)⟩, h2, nI_clamp (by omega)]
/-- a case keeps what holds -/
def LwG (L : Nat) (xs : Nat → Int32) (i : Nat) (S : Sm Int32) : Prop := ∀ h P, Inv L xs h P → ∃ g P', S (lwF i) h = some (.inl 1, lwF i, g) ∧ Inv L xs g P'
theorem lw_0 {i : Nat} (hL : L ≤ 3072) (h6 : 6 * i + 6 ≤ L) : LwG L xs i Clw_0 := by
  intro h P H
  have C := lwC H
  obtain ⟨r, g1, g2, P', e1, e2, H'⟩ := op_feed (xs (6 * i + 1)) (xs (6 * i + 2)) (xs (6 * i + 3)) (xs (6 * i + 4)) (xs (6 * i + 5)) h P H
  have C1 := C.to (kp_DX11_feed _ _ _ e1)
  refine ⟨g2, P', ?_, H'⟩
  unfold Clw_0
  exact wa_pair (wa_V (wa_I 5 (wa_I 4 (wa_I 3 (wa_I 2 (wa_I 1 (wa_R _ _ 1) (lw_x C hL h6 (k := 1) (by decide) (by decide))) (lw_x C hL h6 (k := 2) (by decide) (by decide))) (lw_x C hL h6 (k := 3) (by decide) (by decide))) (lw_x C hL h6 (k := 4) (by decide) (by decide))) (lw_x C hL h6 (k := 5) (by decide) (by decide))) C.2.2.1 e1) (wa_V (wa_I 5 (wa_I 4 (wa_I 3 (wa_I 2 (wa_I 1 (wa_R _ _ 2) (lw_x C1 hL h6 (k := 1) (by decide) (by decide))) (lw_x C1 hL h6 (k := 2) (by decide) (by decide))) (lw_x C1 hL h6 (k := 3) (by decide) (by decide))) (lw_x C1 hL h6 (k := 4) (by decide) (by decide))) (lw_x C1 hL h6 (k := 5) (by decide) (by decide))) C1.2.2.2.1 e2)
theorem lw_1 {i : Nat} (hL : L ≤ 3072) (h6 : 6 * i + 6 ≤ L) : LwG L xs i Clw_1 := by
  intro h P H
  have C := lwC H
  obtain ⟨r, g1, g2, P', e1, e2, H'⟩ := op_end (xs (6 * i + 1)) h P H
  have C1 := C.to (kp_DX11_end _ _ _ e1)
  refine ⟨g2, P', ?_, H'⟩
  unfold Clw_1
  exact wa_pair (wa_V (wa_I 1 (wa_R _ _ 1) (lw_x C hL h6 (k := 1) (by decide) (by decide))) C.2.2.1 e1) (wa_V (wa_I 1 (wa_R _ _ 2) (lw_x C1 hL h6 (k := 1) (by decide) (by decide))) C1.2.2.2.1 e2)
theorem lw_2 {i : Nat} (hL : L ≤ 3072) (h6 : 6 * i + 6 ≤ L) : LwG L xs i Clw_2 := by
  intro h P H
  have C := lwC H
  obtain ⟨r, g1, g2, P', e1, e2, H'⟩ := op_port  h P H
  have C1 := C.to (kp_DX11_port _ _ _ e1)
  refine ⟨g2, P', ?_, H'⟩
  unfold Clw_2
  exact wa_pair (wa_V (wa_R _ _ 1) C.2.2.1 e1) (wa_V (wa_R _ _ 2) C1.2.2.2.1 e2)
theorem lw_3 {i : Nat} (hL : L ≤ 3072) (h6 : 6 * i + 6 ≤ L) : LwG L xs i Clw_3 := by
  intro h P H
  have C := lwC H
  obtain ⟨r, g1, g2, P', e1, e2, H'⟩ := op_fault (xs (6 * i + 1)) h P H
  have C1 := C.to (kp_DX11_fault _ _ _ e1)
  refine ⟨g2, P', ?_, H'⟩
  unfold Clw_3
  exact wa_pair (wa_V (wa_I 1 (wa_R _ _ 1) (lw_x C hL h6 (k := 1) (by decide) (by decide))) C.2.2.1 e1) (wa_V (wa_I 1 (wa_R _ _ 2) (lw_x C1 hL h6 (k := 1) (by decide) (by decide))) C1.2.2.2.1 e2)
theorem lw_4 {i : Nat} (hL : L ≤ 3072) (h6 : 6 * i + 6 ≤ L) : LwG L xs i Clw_4 := by
  intro h P H
  have C := lwC H
  obtain ⟨r, g1, g2, P', e1, e2, H'⟩ := op_house (xs (6 * i + 1)) h P H
  have C1 := C.to (kp_DX11_house _ _ _ e1)
  refine ⟨g2, P', ?_, H'⟩
  unfold Clw_4
  exact wa_pair (wa_V (wa_I 1 (wa_R _ _ 1) (lw_x C hL h6 (k := 1) (by decide) (by decide))) C.2.2.1 e1) (wa_V (wa_I 1 (wa_R _ _ 2) (lw_x C1 hL h6 (k := 1) (by decide) (by decide))) C1.2.2.2.1 e2)
theorem lw_5 {i : Nat} (hL : L ≤ 3072) (h6 : 6 * i + 6 ≤ L) : LwG L xs i Clw_5 := by
  intro h P H
  have C := lwC H
  obtain ⟨r, g1, g2, P', e1, e2, H'⟩ := op_carrier (xs (6 * i + 1)) (xs (6 * i + 2)) h P H
  have C1 := C.to (kp_DX11_carrier _ _ _ e1)
  refine ⟨g2, P', ?_, H'⟩
  unfold Clw_5
  exact wa_pair (wa_V (wa_I 2 (wa_I 1 (wa_R _ _ 1) (lw_x C hL h6 (k := 1) (by decide) (by decide))) (lw_x C hL h6 (k := 2) (by decide) (by decide))) C.2.2.1 e1) (wa_V (wa_I 2 (wa_I 1 (wa_R _ _ 2) (lw_x C1 hL h6 (k := 1) (by decide) (by decide))) (lw_x C1 hL h6 (k := 2) (by decide) (by decide))) C1.2.2.2.1 e2)
theorem lw_6 {i : Nat} (hL : L ≤ 3072) (h6 : 6 * i + 6 ≤ L) : LwG L xs i Clw_6 := by
  intro h P H
  have C := lwC H
  obtain ⟨r, g1, g2, P', e1, e2, H'⟩ := op_word (xs (6 * i + 1)) (xs (6 * i + 2)) h P H
  have C1 := C.to (kp_DX11_word _ _ _ e1)
  refine ⟨g2, P', ?_, H'⟩
  unfold Clw_6
  exact wa_pair (wa_V (wa_I 2 (wa_I 1 (wa_R _ _ 1) (lw_x C hL h6 (k := 1) (by decide) (by decide))) (lw_x C hL h6 (k := 2) (by decide) (by decide))) C.2.2.1 e1) (wa_V (wa_I 2 (wa_I 1 (wa_R _ _ 2) (lw_x C1 hL h6 (k := 1) (by decide) (by decide))) (lw_x C1 hL h6 (k := 2) (by decide) (by decide))) C1.2.2.2.1 e2)
theorem lw_7 {i : Nat} (hL : L ≤ 3072) (h6 : 6 * i + 6 ≤ L) : LwG L xs i Clw_7 := by
  intro h P H
  have C := lwC H
  obtain ⟨r, g1, g2, P', e1, e2, H'⟩ := op_doors (xs (6 * i + 1)) h P H
  have C1 := C.to (kp_DX11_doors _ _ _ e1)
  refine ⟨g2, P', ?_, H'⟩
  unfold Clw_7
  exact wa_pair (wa_V (wa_I 1 (wa_R _ _ 1) (lw_x C hL h6 (k := 1) (by decide) (by decide))) C.2.2.1 e1) (wa_V (wa_I 1 (wa_R _ _ 2) (lw_x C1 hL h6 (k := 1) (by decide) (by decide))) C1.2.2.2.1 e2)
theorem lw_8 {i : Nat} (hL : L ≤ 3072) (h6 : 6 * i + 6 ≤ L) : LwG L xs i Clw_8 := by
  intro h P H
  have C := lwC H
  obtain ⟨r, g1, g2, P', e1, e2, H'⟩ := op_far (xs (6 * i + 1)) (xs (6 * i + 2)) h P H
  have C1 := C.to (kp_DX11_far _ _ _ e1)
  refine ⟨g2, P', ?_, H'⟩
  unfold Clw_8
  exact wa_pair (wa_V (wa_I 2 (wa_I 1 (wa_R _ _ 1) (lw_x C hL h6 (k := 1) (by decide) (by decide))) (lw_x C hL h6 (k := 2) (by decide) (by decide))) C.2.2.1 e1) (wa_V (wa_I 2 (wa_I 1 (wa_R _ _ 2) (lw_x C1 hL h6 (k := 1) (by decide) (by decide))) (lw_x C1 hL h6 (k := 2) (by decide) (by decide))) C1.2.2.2.1 e2)
theorem lw_9 {i : Nat} (hL : L ≤ 3072) (h6 : 6 * i + 6 ≤ L) : LwG L xs i Clw_9 := by
  intro h P H
  have C := lwC H
  obtain ⟨r, g1, g2, P', e1, e2, H'⟩ := op_climb (xs (6 * i + 1)) (xs (6 * i + 2)) h P H
  have C1 := C.to (kp_DX11_climb _ _ _ e1)
  refine ⟨g2, P', ?_, H'⟩
  unfold Clw_9
  exact wa_pair (wa_V (wa_I 2 (wa_I 1 (wa_R _ _ 1) (lw_x C hL h6 (k := 1) (by decide) (by decide))) (lw_x C hL h6 (k := 2) (by decide) (by decide))) C.2.2.1 e1) (wa_V (wa_I 2 (wa_I 1 (wa_R _ _ 2) (lw_x C1 hL h6 (k := 1) (by decide) (by decide))) (lw_x C1 hL h6 (k := 2) (by decide) (by decide))) C1.2.2.2.1 e2)
theorem lw_10 {i : Nat} (hL : L ≤ 3072) (h6 : 6 * i + 6 ≤ L) : LwG L xs i Clw_10 := by
  intro h P H
  have C := lwC H
  obtain ⟨r, g1, g2, P', e1, e2, H'⟩ := op_at (xs (6 * i + 1)) (xs (6 * i + 2)) h P H
  have C1 := C.to (kp_DX11_at _ _ _ e1)
  refine ⟨g2, P', ?_, H'⟩
  unfold Clw_10
  exact wa_pair (wa_V (wa_I 2 (wa_I 1 (wa_R _ _ 1) (lw_x C hL h6 (k := 1) (by decide) (by decide))) (lw_x C hL h6 (k := 2) (by decide) (by decide))) C.2.2.1 e1) (wa_V (wa_I 2 (wa_I 1 (wa_R _ _ 2) (lw_x C1 hL h6 (k := 1) (by decide) (by decide))) (lw_x C1 hL h6 (k := 2) (by decide) (by decide))) C1.2.2.2.1 e2)
theorem lw_11 {i : Nat} (hL : L ≤ 3072) (h6 : 6 * i + 6 ≤ L) : LwG L xs i Clw_11 := by
  intro h P H
  have C := lwC H
  obtain ⟨r, g1, g2, P', e1, e2, H'⟩ := op_lies (xs (6 * i + 1)) (xs (6 * i + 2)) h P H
  have C1 := C.to (kp_DX11_lies _ _ _ e1)
  refine ⟨g2, P', ?_, H'⟩
  unfold Clw_11
  exact wa_pair (wa_V (wa_I 2 (wa_I 1 (wa_R _ _ 1) (lw_x C hL h6 (k := 1) (by decide) (by decide))) (lw_x C hL h6 (k := 2) (by decide) (by decide))) C.2.2.1 e1) (wa_V (wa_I 2 (wa_I 1 (wa_R _ _ 2) (lw_x C1 hL h6 (k := 1) (by decide) (by decide))) (lw_x C1 hL h6 (k := 2) (by decide) (by decide))) C1.2.2.2.1 e2)
theorem lw_12 {i : Nat} (hL : L ≤ 3072) (h6 : 6 * i + 6 ≤ L) : LwG L xs i Clw_12 := by
  intro h P H
  have C := lwC H
  obtain ⟨r, g1, g2, P', e1, e2, H'⟩ := op_left (xs (6 * i + 1)) (xs (6 * i + 2)) h P H
  have C1 := C.to (kp_DX11_left _ _ _ e1)
  refine ⟨g2, P', ?_, H'⟩
  unfold Clw_12
  exact wa_pair (wa_V (wa_I 2 (wa_I 1 (wa_R _ _ 1) (lw_x C hL h6 (k := 1) (by decide) (by decide))) (lw_x C hL h6 (k := 2) (by decide) (by decide))) C.2.2.1 e1) (wa_V (wa_I 2 (wa_I 1 (wa_R _ _ 2) (lw_x C1 hL h6 (k := 1) (by decide) (by decide))) (lw_x C1 hL h6 (k := 2) (by decide) (by decide))) C1.2.2.2.1 e2)
theorem lw_13 {i : Nat} (hL : L ≤ 3072) (h6 : 6 * i + 6 ≤ L) : LwG L xs i Clw_13 := by
  intro h P H
  have C := lwC H
  obtain ⟨r, g1, g2, P', e1, e2, H'⟩ := op_weight (xs (6 * i + 1)) (xs (6 * i + 2)) h P H
  have C1 := C.to (kp_DX11_weight _ _ _ e1)
  refine ⟨g2, P', ?_, H'⟩
  unfold Clw_13
  exact wa_pair (wa_V (wa_I 2 (wa_I 1 (wa_R _ _ 1) (lw_x C hL h6 (k := 1) (by decide) (by decide))) (lw_x C hL h6 (k := 2) (by decide) (by decide))) C.2.2.1 e1) (wa_V (wa_I 2 (wa_I 1 (wa_R _ _ 2) (lw_x C1 hL h6 (k := 1) (by decide) (by decide))) (lw_x C1 hL h6 (k := 2) (by decide) (by decide))) C1.2.2.2.1 e2)
theorem lw_14 {i : Nat} (hL : L ≤ 3072) (h6 : 6 * i + 6 ≤ L) : LwG L xs i Clw_14 := by
  intro h P H
  have C := lwC H
  obtain ⟨r, g1, g2, P', e1, e2, H'⟩ := op_knows (xs (6 * i + 1)) (xs (6 * i + 2)) (xs (6 * i + 3)) h P H
  have C1 := C.to (kp_DX11_knows _ _ _ e1)
  refine ⟨g2, P', ?_, H'⟩
  unfold Clw_14
  exact wa_pair (wa_V (wa_I 3 (wa_I 2 (wa_I 1 (wa_R _ _ 1) (lw_x C hL h6 (k := 1) (by decide) (by decide))) (lw_x C hL h6 (k := 2) (by decide) (by decide))) (lw_x C hL h6 (k := 3) (by decide) (by decide))) C.2.2.1 e1) (wa_V (wa_I 3 (wa_I 2 (wa_I 1 (wa_R _ _ 2) (lw_x C1 hL h6 (k := 1) (by decide) (by decide))) (lw_x C1 hL h6 (k := 2) (by decide) (by decide))) (lw_x C1 hL h6 (k := 3) (by decide) (by decide))) C1.2.2.2.1 e2)
theorem lw_15 {i : Nat} (hL : L ≤ 3072) (h6 : 6 * i + 6 ≤ L) : LwG L xs i Clw_15 := by
  intro h P H
  have C := lwC H
  obtain ⟨r, g1, g2, P', e1, e2, H'⟩ := op_heard (xs (6 * i + 1)) (xs (6 * i + 2)) h P H
  have C1 := C.to (kp_DX11_heard _ _ _ e1)
  refine ⟨g2, P', ?_, H'⟩
  unfold Clw_15
  exact wa_pair (wa_V (wa_I 2 (wa_I 1 (wa_R _ _ 1) (lw_x C hL h6 (k := 1) (by decide) (by decide))) (lw_x C hL h6 (k := 2) (by decide) (by decide))) C.2.2.1 e1) (wa_V (wa_I 2 (wa_I 1 (wa_R _ _ 2) (lw_x C1 hL h6 (k := 1) (by decide) (by decide))) (lw_x C1 hL h6 (k := 2) (by decide) (by decide))) C1.2.2.2.1 e2)
theorem lw_16 {i : Nat} (hL : L ≤ 3072) (h6 : 6 * i + 6 ≤ L) : LwG L xs i Clw_16 := by
  intro h P H
  have C := lwC H
  obtain ⟨r, g1, g2, P', e1, e2, H'⟩ := op_full (xs (6 * i + 1)) (xs (6 * i + 2)) h P H
  have C1 := C.to (kp_DX11_full _ _ _ e1)
  refine ⟨g2, P', ?_, H'⟩
  unfold Clw_16
  exact wa_pair (wa_V (wa_I 2 (wa_I 1 (wa_R _ _ 1) (lw_x C hL h6 (k := 1) (by decide) (by decide))) (lw_x C hL h6 (k := 2) (by decide) (by decide))) C.2.2.1 e1) (wa_V (wa_I 2 (wa_I 1 (wa_R _ _ 2) (lw_x C1 hL h6 (k := 1) (by decide) (by decide))) (lw_x C1 hL h6 (k := 2) (by decide) (by decide))) C1.2.2.2.1 e2)
theorem lw_17 {i : Nat} (hL : L ≤ 3072) (h6 : 6 * i + 6 ≤ L) : LwG L xs i Clw_17 := by
  intro h P H
  have C := lwC H
  obtain ⟨r, g1, g2, P', e1, e2, H'⟩ := op_when (xs (6 * i + 1)) (xs (6 * i + 2)) h P H
  have C1 := C.to (kp_DX11_when _ _ _ e1)
  refine ⟨g2, P', ?_, H'⟩
  unfold Clw_17
  exact wa_pair (wa_V (wa_I 2 (wa_I 1 (wa_R _ _ 1) (lw_x C hL h6 (k := 1) (by decide) (by decide))) (lw_x C hL h6 (k := 2) (by decide) (by decide))) C.2.2.1 e1) (wa_V (wa_I 2 (wa_I 1 (wa_R _ _ 2) (lw_x C1 hL h6 (k := 1) (by decide) (by decide))) (lw_x C1 hL h6 (k := 2) (by decide) (by decide))) C1.2.2.2.1 e2)
theorem lw_18 {i : Nat} (hL : L ≤ 3072) (h6 : 6 * i + 6 ≤ L) : LwG L xs i Clw_18 := by
  intro h P H
  have C := lwC H
  obtain ⟨r, g1, g2, P', e1, e2, H'⟩ := op_done (xs (6 * i + 1)) h P H
  have C1 := C.to (kp_DX11_done _ _ _ e1)
  refine ⟨g2, P', ?_, H'⟩
  unfold Clw_18
  exact wa_pair (wa_V (wa_I 1 (wa_R _ _ 1) (lw_x C hL h6 (k := 1) (by decide) (by decide))) C.2.2.1 e1) (wa_V (wa_I 1 (wa_R _ _ 2) (lw_x C1 hL h6 (k := 1) (by decide) (by decide))) C1.2.2.2.1 e2)
theorem lw_19 {i : Nat} (hL : L ≤ 3072) (h6 : 6 * i + 6 ≤ L) : LwG L xs i Clw_19 := by
  intro h P H
  have C := lwC H
  obtain ⟨r, g1, g2, P', e1, e2, H'⟩ := op_dones  h P H
  have C1 := C.to (kp_DX11_dones _ _ _ e1)
  refine ⟨g2, P', ?_, H'⟩
  unfold Clw_19
  exact wa_pair (wa_V (wa_R _ _ 1) C.2.2.1 e1) (wa_V (wa_R _ _ 2) C1.2.2.2.1 e2)
theorem lw_20 {i : Nat} (hL : L ≤ 3072) (h6 : 6 * i + 6 ≤ L) : LwG L xs i Clw_20 := by
  intro h P H
  have C := lwC H
  obtain ⟨r, g1, g2, P', e1, e2, H'⟩ := op_why (xs (6 * i + 1)) h P H
  have C1 := C.to (kp_DX11_why _ _ _ e1)
  refine ⟨g2, P', ?_, H'⟩
  unfold Clw_20
  exact wa_pair (wa_V (wa_I 1 (wa_R _ _ 1) (lw_x C hL h6 (k := 1) (by decide) (by decide))) C.2.2.1 e1) (wa_V (wa_I 1 (wa_R _ _ 2) (lw_x C1 hL h6 (k := 1) (by decide) (by decide))) C1.2.2.2.1 e2)
theorem lw_21 {i : Nat} (hL : L ≤ 3072) (h6 : 6 * i + 6 ≤ L) : LwG L xs i Clw_21 := by
  intro h P H
  have C := lwC H
  obtain ⟨r, g1, g2, P', e1, e2, H'⟩ := op_load (xs (6 * i + 1)) h P H
  have C1 := C.to (kp_DX11_load _ _ _ e1)
  refine ⟨g2, P', ?_, H'⟩
  unfold Clw_21
  exact wa_pair (wa_V (wa_I 1 (wa_R _ _ 1) (lw_x C hL h6 (k := 1) (by decide) (by decide))) C.2.2.1 e1) (wa_V (wa_I 1 (wa_R _ _ 2) (lw_x C1 hL h6 (k := 1) (by decide) (by decide))) C1.2.2.2.1 e2)
theorem lw_22 {i : Nat} (hL : L ≤ 3072) (h6 : 6 * i + 6 ≤ L) : LwG L xs i Clw_22 := by
  intro h P H
  have C := lwC H
  obtain ⟨r, g1, g2, P', e1, e2, H'⟩ := op_idle (xs (6 * i + 1)) h P H
  have C1 := C.to (kp_DX11_idle _ _ _ e1)
  refine ⟨g2, P', ?_, H'⟩
  unfold Clw_22
  exact wa_pair (wa_V (wa_I 1 (wa_R _ _ 1) (lw_x C hL h6 (k := 1) (by decide) (by decide))) C.2.2.1 e1) (wa_V (wa_I 1 (wa_R _ _ 2) (lw_x C1 hL h6 (k := 1) (by decide) (by decide))) C1.2.2.2.1 e2)
theorem lw_23 {i : Nat} (hL : L ≤ 3072) (h6 : 6 * i + 6 ≤ L) : LwG L xs i Clw_23 := by
  intro h P H
  have C := lwC H
  obtain ⟨r, g1, g2, P', e1, e2, H'⟩ := op_moves (xs (6 * i + 1)) h P H
  have C1 := C.to (kp_DX11_moves _ _ _ e1)
  refine ⟨g2, P', ?_, H'⟩
  unfold Clw_23
  exact wa_pair (wa_V (wa_I 1 (wa_R _ _ 1) (lw_x C hL h6 (k := 1) (by decide) (by decide))) C.2.2.1 e1) (wa_V (wa_I 1 (wa_R _ _ 2) (lw_x C1 hL h6 (k := 1) (by decide) (by decide))) C1.2.2.2.1 e2)
theorem lw_24 {i : Nat} (hL : L ≤ 3072) (h6 : 6 * i + 6 ≤ L) : LwG L xs i Clw_24 := by
  intro h P H
  have C := lwC H
  obtain ⟨r, g1, g2, P', e1, e2, H'⟩ := op_trips (xs (6 * i + 1)) h P H
  have C1 := C.to (kp_DX11_trips _ _ _ e1)
  refine ⟨g2, P', ?_, H'⟩
  unfold Clw_24
  exact wa_pair (wa_V (wa_I 1 (wa_R _ _ 1) (lw_x C hL h6 (k := 1) (by decide) (by decide))) C.2.2.1 e1) (wa_V (wa_I 1 (wa_R _ _ 2) (lw_x C1 hL h6 (k := 1) (by decide) (by decide))) C1.2.2.2.1 e2)
theorem lw_25 {i : Nat} (hL : L ≤ 3072) (h6 : 6 * i + 6 ≤ L) : LwG L xs i Clw_25 := by
  intro h P H
  have C := lwC H
  obtain ⟨r, g1, g2, P', e1, e2, H'⟩ := op_toil (xs (6 * i + 1)) h P H
  have C1 := C.to (kp_DX11_toil _ _ _ e1)
  refine ⟨g2, P', ?_, H'⟩
  unfold Clw_25
  exact wa_pair (wa_V (wa_I 1 (wa_R _ _ 1) (lw_x C hL h6 (k := 1) (by decide) (by decide))) C.2.2.1 e1) (wa_V (wa_I 1 (wa_R _ _ 2) (lw_x C1 hL h6 (k := 1) (by decide) (by decide))) C1.2.2.2.1 e2)
theorem lw_26 {i : Nat} (hL : L ≤ 3072) (h6 : 6 * i + 6 ≤ L) : LwG L xs i Clw_26 := by
  intro h P H
  have C := lwC H
  obtain ⟨r, g1, g2, P', e1, e2, H'⟩ := op_rubbed (xs (6 * i + 1)) h P H
  have C1 := C.to (kp_DX11_rubbed _ _ _ e1)
  refine ⟨g2, P', ?_, H'⟩
  unfold Clw_26
  exact wa_pair (wa_V (wa_I 1 (wa_R _ _ 1) (lw_x C hL h6 (k := 1) (by decide) (by decide))) C.2.2.1 e1) (wa_V (wa_I 1 (wa_R _ _ 2) (lw_x C1 hL h6 (k := 1) (by decide) (by decide))) C1.2.2.2.1 e2)
theorem lw_27 {i : Nat} (hL : L ≤ 3072) (h6 : 6 * i + 6 ≤ L) : LwG L xs i Clw_27 := by
  intro h P H
  have C := lwC H
  obtain ⟨r, g1, g2, P', e1, e2, H'⟩ := op_gossip  h P H
  have C1 := C.to (kp_DX11_gossip _ _ _ e1)
  refine ⟨g2, P', ?_, H'⟩
  unfold Clw_27
  exact wa_pair (wa_V (wa_R _ _ 1) C.2.2.1 e1) (wa_V (wa_R _ _ 2) C1.2.2.2.1 e2)
theorem lw_28 {i : Nat} (hL : L ≤ 3072) (h6 : 6 * i + 6 ≤ L) : LwG L xs i Clw_28 := by
  intro h P H
  have C := lwC H
  obtain ⟨r, g1, g2, P', e1, e2, H'⟩ := op_famous  h P H
  have C1 := C.to (kp_DX11_famous _ _ _ e1)
  refine ⟨g2, P', ?_, H'⟩
  unfold Clw_28
  exact wa_pair (wa_V (wa_R _ _ 1) C.2.2.1 e1) (wa_V (wa_R _ _ 2) C1.2.2.2.1 e2)
theorem lw_29 {i : Nat} (hL : L ≤ 3072) (h6 : 6 * i + 6 ≤ L) : LwG L xs i Clw_29 := by
  intro h P H
  have C := lwC H
  obtain ⟨r, g1, g2, P', e1, e2, H'⟩ := op_brings (xs (6 * i + 1)) (xs (6 * i + 2)) (xs (6 * i + 3)) h P H
  have C1 := C.to (kp_DX11_brings _ _ _ e1)
  refine ⟨g2, P', ?_, H'⟩
  unfold Clw_29
  exact wa_pair (wa_V (wa_I 3 (wa_I 2 (wa_I 1 (wa_R _ _ 1) (lw_x C hL h6 (k := 1) (by decide) (by decide))) (lw_x C hL h6 (k := 2) (by decide) (by decide))) (lw_x C hL h6 (k := 3) (by decide) (by decide))) C.2.2.1 e1) (wa_V (wa_I 3 (wa_I 2 (wa_I 1 (wa_R _ _ 2) (lw_x C1 hL h6 (k := 1) (by decide) (by decide))) (lw_x C1 hL h6 (k := 2) (by decide) (by decide))) (lw_x C1 hL h6 (k := 3) (by decide) (by decide))) C1.2.2.2.1 e2)
theorem lw_30 {i : Nat} (hL : L ≤ 3072) (h6 : 6 * i + 6 ≤ L) : LwG L xs i Clw_30 := by
  intro h P H
  have C := lwC H
  obtain ⟨r, g1, g2, P', e1, e2, H'⟩ := op_saves (xs (6 * i + 1)) (xs (6 * i + 2)) (xs (6 * i + 3)) h P H
  have C1 := C.to (kp_DX11_saves _ _ _ e1)
  refine ⟨g2, P', ?_, H'⟩
  unfold Clw_30
  exact wa_pair (wa_V (wa_I 3 (wa_I 2 (wa_I 1 (wa_R _ _ 1) (lw_x C hL h6 (k := 1) (by decide) (by decide))) (lw_x C hL h6 (k := 2) (by decide) (by decide))) (lw_x C hL h6 (k := 3) (by decide) (by decide))) C.2.2.1 e1) (wa_V (wa_I 3 (wa_I 2 (wa_I 1 (wa_R _ _ 2) (lw_x C1 hL h6 (k := 1) (by decide) (by decide))) (lw_x C1 hL h6 (k := 2) (by decide) (by decide))) (lw_x C1 hL h6 (k := 3) (by decide) (by decide))) C1.2.2.2.1 e2)
theorem lw_31 {i : Nat} (hL : L ≤ 3072) (h6 : 6 * i + 6 ≤ L) : LwG L xs i Clw_31 := by
  intro h P H
  have C := lwC H
  obtain ⟨r, g1, g2, P', e1, e2, H'⟩ := op_can (xs (6 * i + 1)) (xs (6 * i + 2)) h P H
  have C1 := C.to (kp_DX11_can _ _ _ e1)
  refine ⟨g2, P', ?_, H'⟩
  unfold Clw_31
  exact wa_pair (wa_V (wa_I 2 (wa_I 1 (wa_R _ _ 1) (lw_x C hL h6 (k := 1) (by decide) (by decide))) (lw_x C hL h6 (k := 2) (by decide) (by decide))) C.2.2.1 e1) (wa_V (wa_I 2 (wa_I 1 (wa_R _ _ 2) (lw_x C1 hL h6 (k := 1) (by decide) (by decide))) (lw_x C1 hL h6 (k := 2) (by decide) (by decide))) C1.2.2.2.1 e2)
theorem lw_32 {i : Nat} (hL : L ≤ 3072) (h6 : 6 * i + 6 ≤ L) : LwG L xs i Clw_32 := by
  intro h P H
  have C := lwC H
  obtain ⟨r, g1, g2, P', e1, e2, H'⟩ := op_needs (xs (6 * i + 1)) (xs (6 * i + 2)) h P H
  have C1 := C.to (kp_DX11_needs _ _ _ e1)
  refine ⟨g2, P', ?_, H'⟩
  unfold Clw_32
  exact wa_pair (wa_V (wa_I 2 (wa_I 1 (wa_R _ _ 1) (lw_x C hL h6 (k := 1) (by decide) (by decide))) (lw_x C hL h6 (k := 2) (by decide) (by decide))) C.2.2.1 e1) (wa_V (wa_I 2 (wa_I 1 (wa_R _ _ 2) (lw_x C1 hL h6 (k := 1) (by decide) (by decide))) (lw_x C1 hL h6 (k := 2) (by decide) (by decide))) C1.2.2.2.1 e2)
theorem lw_33 {i : Nat} (hL : L ≤ 3072) (h6 : 6 * i + 6 ≤ L) : LwG L xs i Clw_33 := by
  intro h P H
  have C := lwC H
  obtain ⟨r, g1, g2, P', e1, e2, H'⟩ := op_porter (xs (6 * i + 1)) (xs (6 * i + 2)) h P H
  have C1 := C.to (kp_DX11_porter _ _ _ e1)
  refine ⟨g2, P', ?_, H'⟩
  unfold Clw_33
  exact wa_pair (wa_V (wa_I 2 (wa_I 1 (wa_R _ _ 1) (lw_x C hL h6 (k := 1) (by decide) (by decide))) (lw_x C hL h6 (k := 2) (by decide) (by decide))) C.2.2.1 e1) (wa_V (wa_I 2 (wa_I 1 (wa_R _ _ 2) (lw_x C1 hL h6 (k := 1) (by decide) (by decide))) (lw_x C1 hL h6 (k := 2) (by decide) (by decide))) C1.2.2.2.1 e2)
theorem lw_34 {i : Nat} (hL : L ≤ 3072) (h6 : 6 * i + 6 ≤ L) : LwG L xs i Clw_34 := by
  intro h P H
  have C := lwC H
  obtain ⟨r, g1, g2, P', e1, e2, H'⟩ := op_tells (xs (6 * i + 1)) (xs (6 * i + 2)) (xs (6 * i + 3)) h P H
  have C1 := C.to (kp_DX11_tells _ _ _ e1)
  refine ⟨g2, P', ?_, H'⟩
  unfold Clw_34
  exact wa_pair (wa_V (wa_I 3 (wa_I 2 (wa_I 1 (wa_R _ _ 1) (lw_x C hL h6 (k := 1) (by decide) (by decide))) (lw_x C hL h6 (k := 2) (by decide) (by decide))) (lw_x C hL h6 (k := 3) (by decide) (by decide))) C.2.2.1 e1) (wa_V (wa_I 3 (wa_I 2 (wa_I 1 (wa_R _ _ 2) (lw_x C1 hL h6 (k := 1) (by decide) (by decide))) (lw_x C1 hL h6 (k := 2) (by decide) (by decide))) (lw_x C1 hL h6 (k := 3) (by decide) (by decide))) C1.2.2.2.1 e2)
theorem lw_35 {i : Nat} (hL : L ≤ 3072) (h6 : 6 * i + 6 ≤ L) : LwG L xs i Clw_35 := by
  intro h P H
  have C := lwC H
  obtain ⟨r, g1, g2, P', e1, e2, H'⟩ := op_cart (xs (6 * i + 1)) (xs (6 * i + 2)) (xs (6 * i + 3)) h P H
  have C1 := C.to (kp_DX11_cart _ _ _ e1)
  refine ⟨g2, P', ?_, H'⟩
  unfold Clw_35
  exact wa_pair (wa_V (wa_I 3 (wa_I 2 (wa_I 1 (wa_R _ _ 1) (lw_x C hL h6 (k := 1) (by decide) (by decide))) (lw_x C hL h6 (k := 2) (by decide) (by decide))) (lw_x C hL h6 (k := 3) (by decide) (by decide))) C.2.2.1 e1) (wa_V (wa_I 3 (wa_I 2 (wa_I 1 (wa_R _ _ 2) (lw_x C1 hL h6 (k := 1) (by decide) (by decide))) (lw_x C1 hL h6 (k := 2) (by decide) (by decide))) (lw_x C1 hL h6 (k := 3) (by decide) (by decide))) C1.2.2.2.1 e2)
theorem lw_36 {i : Nat} (hL : L ≤ 3072) (h6 : 6 * i + 6 ≤ L) : LwG L xs i Clw_36 := by
  intro h P H
  have C := lwC H
  obtain ⟨r, g1, g2, P', e1, e2, H'⟩ := op_four (xs (6 * i + 1)) (xs (6 * i + 2)) h P H
  have C1 := C.to (kp_DX11_four _ _ _ e1)
  refine ⟨g2, P', ?_, H'⟩
  unfold Clw_36
  exact wa_pair (wa_V (wa_I 2 (wa_I 1 (wa_R _ _ 1) (lw_x C hL h6 (k := 1) (by decide) (by decide))) (lw_x C hL h6 (k := 2) (by decide) (by decide))) C.2.2.1 e1) (wa_V (wa_I 2 (wa_I 1 (wa_R _ _ 2) (lw_x C1 hL h6 (k := 1) (by decide) (by decide))) (lw_x C1 hL h6 (k := 2) (by decide) (by decide))) C1.2.2.2.1 e2)
theorem lw_37 {i : Nat} (hL : L ≤ 3072) (h6 : 6 * i + 6 ≤ L) : LwG L xs i Clw_37 := by
  intro h P H
  have C := lwC H
  obtain ⟨r, g1, g2, P', e1, e2, H'⟩ := op_share (xs (6 * i + 1)) (xs (6 * i + 2)) (xs (6 * i + 3)) h P H
  have C1 := C.to (kp_DX11_share _ _ _ e1)
  refine ⟨g2, P', ?_, H'⟩
  unfold Clw_37
  exact wa_pair (wa_V (wa_I 3 (wa_I 2 (wa_I 1 (wa_R _ _ 1) (lw_x C hL h6 (k := 1) (by decide) (by decide))) (lw_x C hL h6 (k := 2) (by decide) (by decide))) (lw_x C hL h6 (k := 3) (by decide) (by decide))) C.2.2.1 e1) (wa_V (wa_I 3 (wa_I 2 (wa_I 1 (wa_R _ _ 2) (lw_x C1 hL h6 (k := 1) (by decide) (by decide))) (lw_x C1 hL h6 (k := 2) (by decide) (by decide))) (lw_x C1 hL h6 (k := 3) (by decide) (by decide))) C1.2.2.2.1 e2)
theorem lw_38 {i : Nat} (hL : L ≤ 3072) (h6 : 6 * i + 6 ≤ L) : LwG L xs i Clw_38 := by
  intro h P H
  have C := lwC H
  obtain ⟨r, g1, g2, P', e1, e2, H'⟩ := op_block (xs (6 * i + 1)) h P H
  have C1 := C.to (kp_DX11_block _ _ _ e1)
  refine ⟨g2, P', ?_, H'⟩
  unfold Clw_38
  exact wa_pair (wa_V (wa_I 1 (wa_R _ _ 1) (lw_x C hL h6 (k := 1) (by decide) (by decide))) C.2.2.1 e1) (wa_V (wa_I 1 (wa_R _ _ 2) (lw_x C1 hL h6 (k := 1) (by decide) (by decide))) C1.2.2.2.1 e2)
theorem lw_39 {i : Nat} (hL : L ≤ 3072) (h6 : 6 * i + 6 ≤ L) : LwG L xs i Clw_39 := by
  intro h P H
  have C := lwC H
  obtain ⟨r, g1, g2, P', e1, e2, H'⟩ := op_by (xs (6 * i + 1)) (xs (6 * i + 2)) h P H
  have C1 := C.to (kp_DX11_by _ _ _ e1)
  refine ⟨g2, P', ?_, H'⟩
  unfold Clw_39
  exact wa_pair (wa_V (wa_I 2 (wa_I 1 (wa_R _ _ 1) (lw_x C hL h6 (k := 1) (by decide) (by decide))) (lw_x C hL h6 (k := 2) (by decide) (by decide))) C.2.2.1 e1) (wa_V (wa_I 2 (wa_I 1 (wa_R _ _ 2) (lw_x C1 hL h6 (k := 1) (by decide) (by decide))) (lw_x C1 hL h6 (k := 2) (by decide) (by decide))) C1.2.2.2.1 e2)
theorem lw_40 {i : Nat} (hL : L ≤ 3072) (h6 : 6 * i + 6 ≤ L) : LwG L xs i Clw_40 := by
  intro h P H
  have C := lwC H
  obtain ⟨r, g1, g2, P', e1, e2, H'⟩ := op_law (xs (6 * i + 1)) h P H
  have C1 := C.to (kp_DX11_law _ _ _ e1)
  refine ⟨g2, P', ?_, H'⟩
  unfold Clw_40
  exact wa_pair (wa_V (wa_I 1 (wa_R _ _ 1) (lw_x C hL h6 (k := 1) (by decide) (by decide))) C.2.2.1 e1) (wa_V (wa_I 1 (wa_R _ _ 2) (lw_x C1 hL h6 (k := 1) (by decide) (by decide))) C1.2.2.2.1 e2)
theorem lw_41 {i : Nat} (hL : L ≤ 3072) (h6 : 6 * i + 6 ≤ L) : LwG L xs i Clw_41 := by
  intro h P H
  have C := lwC H
  obtain ⟨r, g1, g2, P', e1, e2, H'⟩ := op_firsts (xs (6 * i + 1)) (xs (6 * i + 2)) h P H
  have C1 := C.to (kp_DX11_firsts _ _ _ e1)
  refine ⟨g2, P', ?_, H'⟩
  unfold Clw_41
  exact wa_pair (wa_V (wa_I 2 (wa_I 1 (wa_R _ _ 1) (lw_x C hL h6 (k := 1) (by decide) (by decide))) (lw_x C hL h6 (k := 2) (by decide) (by decide))) C.2.2.1 e1) (wa_V (wa_I 2 (wa_I 1 (wa_R _ _ 2) (lw_x C1 hL h6 (k := 1) (by decide) (by decide))) (lw_x C1 hL h6 (k := 2) (by decide) (by decide))) C1.2.2.2.1 e2)
theorem lw_42 {i : Nat} (hL : L ≤ 3072) (h6 : 6 * i + 6 ≤ L) : LwG L xs i Clw_42 := by
  intro h P H
  have C := lwC H
  obtain ⟨r, g1, g2, P', e1, e2, H'⟩ := op_ask (xs (6 * i + 1)) (xs (6 * i + 2)) h P H
  have C1 := C.to (kp_DX11_ask _ _ _ e1)
  refine ⟨g2, P', ?_, H'⟩
  unfold Clw_42
  exact wa_pair (wa_V (wa_I 2 (wa_I 1 (wa_R _ _ 1) (lw_x C hL h6 (k := 1) (by decide) (by decide))) (lw_x C hL h6 (k := 2) (by decide) (by decide))) C.2.2.1 e1) (wa_V (wa_I 2 (wa_I 1 (wa_R _ _ 2) (lw_x C1 hL h6 (k := 1) (by decide) (by decide))) (lw_x C1 hL h6 (k := 2) (by decide) (by decide))) C1.2.2.2.1 e2)
theorem lw_43 {i : Nat} (hL : L ≤ 3072) (h6 : 6 * i + 6 ≤ L) : LwG L xs i Clw_43 := by
  intro h P H
  have C := lwC H
  obtain ⟨r, g1, g2, P', e1, e2, H'⟩ := op_leaves (xs (6 * i + 1)) (xs (6 * i + 2)) h P H
  have C1 := C.to (kp_DX11_leaves _ _ _ e1)
  refine ⟨g2, P', ?_, H'⟩
  unfold Clw_43
  exact wa_pair (wa_V (wa_I 2 (wa_I 1 (wa_R _ _ 1) (lw_x C hL h6 (k := 1) (by decide) (by decide))) (lw_x C hL h6 (k := 2) (by decide) (by decide))) C.2.2.1 e1) (wa_V (wa_I 2 (wa_I 1 (wa_R _ _ 2) (lw_x C1 hL h6 (k := 1) (by decide) (by decide))) (lw_x C1 hL h6 (k := 2) (by decide) (by decide))) C1.2.2.2.1 e2)
theorem lw_44 {i : Nat} (hL : L ≤ 3072) (h6 : 6 * i + 6 ≤ L) : LwG L xs i Clw_44 := by
  intro h P H
  have C := lwC H
  obtain ⟨r, g1, g2, P', e1, e2, H'⟩ := op_laws (xs (6 * i + 1)) (xs (6 * i + 2)) h P H
  have C1 := C.to (kp_DX11_laws _ _ _ e1)
  refine ⟨g2, P', ?_, H'⟩
  unfold Clw_44
  exact wa_pair (wa_V (wa_I 2 (wa_I 1 (wa_R _ _ 1) (lw_x C hL h6 (k := 1) (by decide) (by decide))) (lw_x C hL h6 (k := 2) (by decide) (by decide))) C.2.2.1 e1) (wa_V (wa_I 2 (wa_I 1 (wa_R _ _ 2) (lw_x C1 hL h6 (k := 1) (by decide) (by decide))) (lw_x C1 hL h6 (k := 2) (by decide) (by decide))) C1.2.2.2.1 e2)
theorem lw_45 {i : Nat} (hL : L ≤ 3072) (h6 : 6 * i + 6 ≤ L) : LwG L xs i Clw_45 := by
  intro h P H
  have C := lwC H
  obtain ⟨r, g1, g2, P', e1, e2, H'⟩ := op_beside (xs (6 * i + 1)) h P H
  have C1 := C.to (kp_DX11_beside _ _ _ e1)
  refine ⟨g2, P', ?_, H'⟩
  unfold Clw_45
  exact wa_pair (wa_V (wa_I 1 (wa_R _ _ 1) (lw_x C hL h6 (k := 1) (by decide) (by decide))) C.2.2.1 e1) (wa_V (wa_I 1 (wa_R _ _ 2) (lw_x C1 hL h6 (k := 1) (by decide) (by decide))) C1.2.2.2.1 e2)
theorem lw_46 {i : Nat} (hL : L ≤ 3072) (h6 : 6 * i + 6 ≤ L) : LwG L xs i Clw_46 := by
  intro h P H
  have C := lwC H
  obtain ⟨r, g1, g2, P', e1, e2, H'⟩ := op_rests (xs (6 * i + 1)) (xs (6 * i + 2)) (xs (6 * i + 3)) h P H
  have C1 := C.to (kp_DX11_rests _ _ _ e1)
  refine ⟨g2, P', ?_, H'⟩
  unfold Clw_46
  exact wa_pair (wa_V (wa_I 3 (wa_I 2 (wa_I 1 (wa_R _ _ 1) (lw_x C hL h6 (k := 1) (by decide) (by decide))) (lw_x C hL h6 (k := 2) (by decide) (by decide))) (lw_x C hL h6 (k := 3) (by decide) (by decide))) C.2.2.1 e1) (wa_V (wa_I 3 (wa_I 2 (wa_I 1 (wa_R _ _ 2) (lw_x C1 hL h6 (k := 1) (by decide) (by decide))) (lw_x C1 hL h6 (k := 2) (by decide) (by decide))) (lw_x C1 hL h6 (k := 3) (by decide) (by decide))) C1.2.2.2.1 e2)
theorem lw_47 {i : Nat} (hL : L ≤ 3072) (h6 : 6 * i + 6 ≤ L) : LwG L xs i Clw_47 := by
  intro h P H
  have C := lwC H
  obtain ⟨r, g1, g2, P', e1, e2, H'⟩ := op_gets (xs (6 * i + 1)) (xs (6 * i + 2)) (xs (6 * i + 3)) (xs (6 * i + 4)) (xs (6 * i + 5)) h P H
  have C1 := C.to (kp_DX11_gets _ _ _ e1)
  refine ⟨g2, P', ?_, H'⟩
  unfold Clw_47
  exact wa_pair (wa_V (wa_I 5 (wa_I 4 (wa_I 3 (wa_I 2 (wa_I 1 (wa_R _ _ 1) (lw_x C hL h6 (k := 1) (by decide) (by decide))) (lw_x C hL h6 (k := 2) (by decide) (by decide))) (lw_x C hL h6 (k := 3) (by decide) (by decide))) (lw_x C hL h6 (k := 4) (by decide) (by decide))) (lw_x C hL h6 (k := 5) (by decide) (by decide))) C.2.2.1 e1) (wa_V (wa_I 5 (wa_I 4 (wa_I 3 (wa_I 2 (wa_I 1 (wa_R _ _ 2) (lw_x C1 hL h6 (k := 1) (by decide) (by decide))) (lw_x C1 hL h6 (k := 2) (by decide) (by decide))) (lw_x C1 hL h6 (k := 3) (by decide) (by decide))) (lw_x C1 hL h6 (k := 4) (by decide) (by decide))) (lw_x C1 hL h6 (k := 5) (by decide) (by decide))) C1.2.2.2.1 e2)
theorem lw_48 {i : Nat} (hL : L ≤ 3072) (h6 : 6 * i + 6 ≤ L) : LwG L xs i Clw_48 := by
  intro h P H
  have C := lwC H
  obtain ⟨r, g1, g2, P', e1, e2, H'⟩ := op_chance (xs (6 * i + 1)) (xs (6 * i + 2)) (xs (6 * i + 3)) h P H
  have C1 := C.to (kp_DX11_chance _ _ _ e1)
  refine ⟨g2, P', ?_, H'⟩
  unfold Clw_48
  exact wa_pair (wa_V (wa_I 3 (wa_I 2 (wa_I 1 (wa_R _ _ 1) (lw_x C hL h6 (k := 1) (by decide) (by decide))) (lw_x C hL h6 (k := 2) (by decide) (by decide))) (lw_x C hL h6 (k := 3) (by decide) (by decide))) C.2.2.1 e1) (wa_V (wa_I 3 (wa_I 2 (wa_I 1 (wa_R _ _ 2) (lw_x C1 hL h6 (k := 1) (by decide) (by decide))) (lw_x C1 hL h6 (k := 2) (by decide) (by decide))) (lw_x C1 hL h6 (k := 3) (by decide) (by decide))) C1.2.2.2.1 e2)
theorem lw_49 {i : Nat} (hL : L ≤ 3072) (h6 : 6 * i + 6 ≤ L) : LwG L xs i Clw_49 := by
  intro h P H
  have C := lwC H
  obtain ⟨r, g1, g2, P', e1, e2, H'⟩ := op_mean (xs (6 * i + 1)) (xs (6 * i + 2)) h P H
  have C1 := C.to (kp_DX11_mean _ _ _ e1)
  refine ⟨g2, P', ?_, H'⟩
  unfold Clw_49
  exact wa_pairL (wa_V (wa_I 2 (wa_I 1 (wa_R _ _ 1) (lw_x C hL h6 (k := 1) (by decide) (by decide))) (lw_x C hL h6 (k := 2) (by decide) (by decide))) C.2.2.1 e1) (wa_V (wa_I 2 (wa_I 1 (wa_R _ _ 2) (lw_x C1 hL h6 (k := 1) (by decide) (by decide))) (lw_x C1 hL h6 (k := 2) (by decide) (by decide))) C1.2.2.2.1 e2)
theorem lw_50 {i : Nat} (hL : L ≤ 3072) (h6 : 6 * i + 6 ≤ L) : LwG L xs i Clw_50 := by
  intro h P H
  have C := lwC H
  obtain ⟨r, g1, g2, P', e1, e2, H'⟩ := op_carry (xs (6 * i + 1)) (xs (6 * i + 2)) (xs (6 * i + 3)) (xs (6 * i + 4)) h P H
  have C1 := C.to (kp_DX11_carry _ _ _ e1)
  refine ⟨g2, P', ?_, H'⟩
  unfold Clw_50
  exact wa_pair (wa_V (wa_I 4 (wa_I 3 (wa_I 2 (wa_I 1 (wa_R _ _ 1) (lw_x C hL h6 (k := 1) (by decide) (by decide))) (lw_x C hL h6 (k := 2) (by decide) (by decide))) (lw_x C hL h6 (k := 3) (by decide) (by decide))) (lw_x C hL h6 (k := 4) (by decide) (by decide))) C.2.2.1 e1) (wa_V (wa_I 4 (wa_I 3 (wa_I 2 (wa_I 1 (wa_R _ _ 2) (lw_x C1 hL h6 (k := 1) (by decide) (by decide))) (lw_x C1 hL h6 (k := 2) (by decide) (by decide))) (lw_x C1 hL h6 (k := 3) (by decide) (by decide))) (lw_x C1 hL h6 (k := 4) (by decide) (by decide))) C1.2.2.2.1 e2)
theorem lw_51 {i : Nat} (hL : L ≤ 3072) (h6 : 6 * i + 6 ≤ L) : LwG L xs i Clw_51 := by
  intro h P H
  have C := lwC H
  obtain ⟨r, g1, g2, P', e1, e2, H'⟩ := op_rub (xs (6 * i + 1)) (xs (6 * i + 2)) h P H
  have C1 := C.to (kp_DX11_rub _ _ _ e1)
  refine ⟨g2, P', ?_, H'⟩
  unfold Clw_51
  exact wa_pair (wa_V (wa_I 2 (wa_I 1 (wa_R _ _ 1) (lw_x C hL h6 (k := 1) (by decide) (by decide))) (lw_x C hL h6 (k := 2) (by decide) (by decide))) C.2.2.1 e1) (wa_V (wa_I 2 (wa_I 1 (wa_R _ _ 2) (lw_x C1 hL h6 (k := 1) (by decide) (by decide))) (lw_x C1 hL h6 (k := 2) (by decide) (by decide))) C1.2.2.2.1 e2)
theorem lw_52 {i : Nat} (hL : L ≤ 3072) (h6 : 6 * i + 6 ≤ L) : LwG L xs i Clw_52 := by
  intro h P H
  have C := lwC H
  obtain ⟨r, g1, g2, P', e1, e2, H'⟩ := op_undo  h P H
  have C1 := C.to (kp_DX11_undo _ _ _ e1)
  refine ⟨g2, P', ?_, H'⟩
  unfold Clw_52
  exact wa_pair (wa_V (wa_R _ _ 1) C.2.2.1 e1) (wa_V (wa_R _ _ 2) C1.2.2.2.1 e2)
theorem lw_53 {i : Nat} (hL : L ≤ 3072) (h6 : 6 * i + 6 ≤ L) : LwG L xs i Clw_53 := by
  intro h P H
  have C := lwC H
  obtain ⟨r, g1, g2, P', e1, e2, H'⟩ := op_anew  h P H
  have C1 := C.to (kp_DX11_anew _ _ _ e1)
  refine ⟨g2, P', ?_, H'⟩
  unfold Clw_53
  exact wa_pair (wa_V (wa_R _ _ 1) C.2.2.1 e1) (wa_V (wa_R _ _ 2) C1.2.2.2.1 e2)
theorem lw_54 {i : Nat} (hL : L ≤ 3072) (h6 : 6 * i + 6 ≤ L) : LwG L xs i Clw_54 := by
  intro h P H
  have C := lwC H
  obtain ⟨r, g1, g2, P', e1, e2, H'⟩ := op_drawn (xs (6 * i + 1)) (xs (6 * i + 2)) h P H
  have C1 := C.to (kp_DX11_drawn _ _ _ e1)
  refine ⟨g2, P', ?_, H'⟩
  unfold Clw_54
  exact wa_pair (wa_V (wa_I 2 (wa_I 1 (wa_R _ _ 1) (lw_x C hL h6 (k := 1) (by decide) (by decide))) (lw_x C hL h6 (k := 2) (by decide) (by decide))) C.2.2.1 e1) (wa_V (wa_I 2 (wa_I 1 (wa_R _ _ 2) (lw_x C1 hL h6 (k := 1) (by decide) (by decide))) (lw_x C1 hL h6 (k := 2) (by decide) (by decide))) C1.2.2.2.1 e2)
theorem lw_55 {i : Nat} (hL : L ≤ 3072) (h6 : 6 * i + 6 ≤ L) : LwG L xs i Clw_55 := by
  intro h P H
  have C := lwC H
  obtain ⟨r, g1, g2, P', e1, e2, H'⟩ := op_luck (xs (6 * i + 1)) (xs (6 * i + 2)) (xs (6 * i + 3)) (xs (6 * i + 4)) h P H
  have C1 := C.to (kp_DX11_luck _ _ _ e1)
  refine ⟨g2, P', ?_, H'⟩
  unfold Clw_55
  exact wa_pair (wa_V (wa_I 4 (wa_I 3 (wa_I 2 (wa_I 1 (wa_R _ _ 1) (lw_x C hL h6 (k := 1) (by decide) (by decide))) (lw_x C hL h6 (k := 2) (by decide) (by decide))) (lw_x C hL h6 (k := 3) (by decide) (by decide))) (lw_x C hL h6 (k := 4) (by decide) (by decide))) C.2.2.1 e1) (wa_V (wa_I 4 (wa_I 3 (wa_I 2 (wa_I 1 (wa_R _ _ 2) (lw_x C1 hL h6 (k := 1) (by decide) (by decide))) (lw_x C1 hL h6 (k := 2) (by decide) (by decide))) (lw_x C1 hL h6 (k := 3) (by decide) (by decide))) (lw_x C1 hL h6 (k := 4) (by decide) (by decide))) C1.2.2.2.1 e2)
theorem lw_56 {i : Nat} (hL : L ≤ 3072) (h6 : 6 * i + 6 ≤ L) : LwG L xs i Clw_56 := by
  intro h P H
  have C := lwC H
  obtain ⟨r, g1, g2, P', e1, e2, H'⟩ := op_rate (xs (6 * i + 1)) (xs (6 * i + 2)) h P H
  have C1 := C.to (kp_DX11_rate _ _ _ e1)
  refine ⟨g2, P', ?_, H'⟩
  unfold Clw_56
  exact wa_pair (wa_V (wa_I 2 (wa_I 1 (wa_R _ _ 1) (lw_x C hL h6 (k := 1) (by decide) (by decide))) (lw_x C hL h6 (k := 2) (by decide) (by decide))) C.2.2.1 e1) (wa_V (wa_I 2 (wa_I 1 (wa_R _ _ 2) (lw_x C1 hL h6 (k := 1) (by decide) (by decide))) (lw_x C1 hL h6 (k := 2) (by decide) (by decide))) C1.2.2.2.1 e2)
theorem lw_57 {i : Nat} (hL : L ≤ 3072) (h6 : 6 * i + 6 ≤ L) : LwG L xs i Clw_57 := by
  intro h P H
  have C := lwC H
  obtain ⟨r, g1, g2, P', e1, e2, H'⟩ := op_count (xs (6 * i + 1)) h P H
  have C1 := C.to (kp_DX11_count _ _ _ e1)
  refine ⟨g2, P', ?_, H'⟩
  unfold Clw_57
  exact wa_pair (wa_V (wa_I 1 (wa_R _ _ 1) (lw_x C hL h6 (k := 1) (by decide) (by decide))) C.2.2.1 e1) (wa_V (wa_I 1 (wa_R _ _ 2) (lw_x C1 hL h6 (k := 1) (by decide) (by decide))) C1.2.2.2.1 e2)
theorem lw_58 {i : Nat} (hL : L ≤ 3072) (h6 : 6 * i + 6 ≤ L) : LwG L xs i Clw_58 := by
  intro h P H
  have C := lwC H
  obtain ⟨r, g1, g2, P', e1, e2, H'⟩ := op_image (xs (6 * i + 1)) h P H
  have C1 := C.to (kp_DX11_image _ _ _ e1)
  refine ⟨g2, P', ?_, H'⟩
  unfold Clw_58
  exact wa_pair (wa_V (wa_I 1 (wa_R _ _ 1) (lw_x C hL h6 (k := 1) (by decide) (by decide))) C.2.2.1 e1) (wa_V (wa_I 1 (wa_R _ _ 2) (lw_x C1 hL h6 (k := 1) (by decide) (by decide))) C1.2.2.2.1 e2)
theorem lw_59 {i : Nat} (hL : L ≤ 3072) (h6 : 6 * i + 6 ≤ L) : LwG L xs i Clw_59 := by
  intro h P H
  have C := lwC H
  obtain ⟨r, g1, g2, P', e1, e2, H'⟩ := op_back (xs (6 * i + 1)) h P H
  have C1 := C.to (kp_DX11_back _ _ _ e1)
  refine ⟨g2, P', ?_, H'⟩
  unfold Clw_59
  exact wa_pair (wa_V (wa_I 1 (wa_R _ _ 1) (lw_x C hL h6 (k := 1) (by decide) (by decide))) C.2.2.1 e1) (wa_V (wa_I 1 (wa_R _ _ 2) (lw_x C1 hL h6 (k := 1) (by decide) (by decide))) C1.2.2.2.1 e2)
theorem lw_60 {i : Nat} (hL : L ≤ 3072) (h6 : 6 * i + 6 ≤ L) : LwG L xs i Clw_60 := by
  intro h P H
  have C := lwC H
  obtain ⟨r, g1, g2, P', e1, e2, H'⟩ := op_row (xs (6 * i + 1)) (xs (6 * i + 2)) (xs (6 * i + 3)) h P H
  have C1 := C.to (kp_DX11_row _ _ _ e1)
  refine ⟨g2, P', ?_, H'⟩
  unfold Clw_60
  exact wa_pair (wa_V (wa_I 3 (wa_I 2 (wa_I 1 (wa_R _ _ 1) (lw_x C hL h6 (k := 1) (by decide) (by decide))) (lw_x C hL h6 (k := 2) (by decide) (by decide))) (lw_x C hL h6 (k := 3) (by decide) (by decide))) C.2.2.1 e1) (wa_V (wa_I 3 (wa_I 2 (wa_I 1 (wa_R _ _ 2) (lw_x C1 hL h6 (k := 1) (by decide) (by decide))) (lw_x C1 hL h6 (k := 2) (by decide) (by decide))) (lw_x C1 hL h6 (k := 3) (by decide) (by decide))) C1.2.2.2.1 e2)
theorem lw_61 {i : Nat} (hL : L ≤ 3072) (h6 : 6 * i + 6 ≤ L) : LwG L xs i Clw_61 := by
  intro h P H
  have C := lwC H
  obtain ⟨r, g1, g2, P', e1, e2, H'⟩ := op_write (xs (6 * i + 1)) (xs (6 * i + 2)) (o_lor (o_lshl (o_i2l (xs (6 * i + 3))) 32) (o_land (o_i2l (xs (6 * i + 4))) 4294967295)) h P H
  have C1 := C.to (kp_DX11_write _ _ _ e1)
  refine ⟨g2, P', ?_, H'⟩
  unfold Clw_61
  exact wa_pair (wa_V (wa_L 3 (wa_I 2 (wa_I 1 (wa_R _ _ 1) (lw_x C hL h6 (k := 1) (by decide) (by decide))) (lw_x C hL h6 (k := 2) (by decide) (by decide))) (wa_2 (wa_2 (wa_1 (lw_x C hL h6 (k := 3) (by decide) (by decide))) rfl) (wa_2 (wa_1 (lw_x C hL h6 (k := 4) (by decide) (by decide))) rfl))) C.2.2.1 e1) (wa_V (wa_L 3 (wa_I 2 (wa_I 1 (wa_R _ _ 2) (lw_x C1 hL h6 (k := 1) (by decide) (by decide))) (lw_x C1 hL h6 (k := 2) (by decide) (by decide))) (wa_2 (wa_2 (wa_1 (lw_x C1 hL h6 (k := 3) (by decide) (by decide))) rfl) (wa_2 (wa_1 (lw_x C1 hL h6 (k := 4) (by decide) (by decide))) rfl))) C1.2.2.2.1 e2)
theorem lw_62 {i : Nat} (hL : L ≤ 3072) (h6 : 6 * i + 6 ≤ L) : LwG L xs i Clw_62 := by
  intro h P H
  have C := lwC H
  obtain ⟨r, g1, g2, P', e1, e2, H'⟩ := op_paste (xs (6 * i + 1)) (xs (6 * i + 2)) (xs (6 * i + 3)) (xs (6 * i + 4)) (xs (6 * i + 5)) h P H
  have C1 := C.to (kp_DX11_paste _ _ _ e1)
  refine ⟨g2, P', ?_, H'⟩
  unfold Clw_62
  exact wa_pair (wa_V (wa_I 5 (wa_I 4 (wa_I 3 (wa_I 2 (wa_I 1 (wa_R _ _ 1) (lw_x C hL h6 (k := 1) (by decide) (by decide))) (lw_x C hL h6 (k := 2) (by decide) (by decide))) (lw_x C hL h6 (k := 3) (by decide) (by decide))) (lw_x C hL h6 (k := 4) (by decide) (by decide))) (lw_x C hL h6 (k := 5) (by decide) (by decide))) C.2.2.1 e1) (wa_V (wa_I 5 (wa_I 4 (wa_I 3 (wa_I 2 (wa_I 1 (wa_R _ _ 2) (lw_x C1 hL h6 (k := 1) (by decide) (by decide))) (lw_x C1 hL h6 (k := 2) (by decide) (by decide))) (lw_x C1 hL h6 (k := 3) (by decide) (by decide))) (lw_x C1 hL h6 (k := 4) (by decide) (by decide))) (lw_x C1 hL h6 (k := 5) (by decide) (by decide))) C1.2.2.2.1 e2)
def LwL (L : Nat) (xs : Nat → Int32) (i : Nat) (cs : List (Sm Int32)) : Prop := ∀ (n : Nat) (S : Sm Int32), cs[n]? = some S → LwG L xs i S
theorem lwl_nil {i : Nat} : LwL L xs i [] := fun n S e => by simp at e
theorem lwl_cons {i : Nat} {S : Sm Int32} {cs : List (Sm Int32)} (a : LwG L xs i S) (b : LwL L xs i cs) : LwL L xs i (S :: cs) := fun n T e => by
  cases n with
  | zero => simp at e; rw [← e]; exact a
  | succ n => exact b n T (by simpa using e)
theorem lw_all {i : Nat} (hL : L ≤ 3072) (h6 : 6 * i + 6 ≤ L) : LwL L xs i [Clw_0, Clw_1, Clw_2, Clw_3, Clw_4, Clw_5, Clw_6, Clw_7, Clw_8, Clw_9, Clw_10, Clw_11, Clw_12, Clw_13, Clw_14, Clw_15, Clw_16, Clw_17, Clw_18, Clw_19, Clw_20, Clw_21, Clw_22, Clw_23, Clw_24, Clw_25, Clw_26, Clw_27, Clw_28, Clw_29, Clw_30, Clw_31, Clw_32, Clw_33, Clw_34, Clw_35, Clw_36, Clw_37, Clw_38, Clw_39, Clw_40, Clw_41, Clw_42, Clw_43, Clw_44, Clw_45, Clw_46, Clw_47, Clw_48, Clw_49, Clw_50, Clw_51, Clw_52, Clw_53, Clw_54, Clw_55, Clw_56, Clw_57, Clw_58, Clw_59, Clw_60, Clw_61, Clw_62] := lwl_cons (lw_0 hL h6) (lwl_cons (lw_1 hL h6) (lwl_cons (lw_2 hL h6) (lwl_cons (lw_3 hL h6) (lwl_cons (lw_4 hL h6) (lwl_cons (lw_5 hL h6) (lwl_cons (lw_6 hL h6) (lwl_cons (lw_7 hL h6) (lwl_cons (lw_8 hL h6) (lwl_cons (lw_9 hL h6) (lwl_cons (lw_10 hL h6) (lwl_cons (lw_11 hL h6) (lwl_cons (lw_12 hL h6) (lwl_cons (lw_13 hL h6) (lwl_cons (lw_14 hL h6) (lwl_cons (lw_15 hL h6) (lwl_cons (lw_16 hL h6) (lwl_cons (lw_17 hL h6) (lwl_cons (lw_18 hL h6) (lwl_cons (lw_19 hL h6) (lwl_cons (lw_20 hL h6) (lwl_cons (lw_21 hL h6) (lwl_cons (lw_22 hL h6) (lwl_cons (lw_23 hL h6) (lwl_cons (lw_24 hL h6) (lwl_cons (lw_25 hL h6) (lwl_cons (lw_26 hL h6) (lwl_cons (lw_27 hL h6) (lwl_cons (lw_28 hL h6) (lwl_cons (lw_29 hL h6) (lwl_cons (lw_30 hL h6) (lwl_cons (lw_31 hL h6) (lwl_cons (lw_32 hL h6) (lwl_cons (lw_33 hL h6) (lwl_cons (lw_34 hL h6) (lwl_cons (lw_35 hL h6) (lwl_cons (lw_36 hL h6) (lwl_cons (lw_37 hL h6) (lwl_cons (lw_38 hL h6) (lwl_cons (lw_39 hL h6) (lwl_cons (lw_40 hL h6) (lwl_cons (lw_41 hL h6) (lwl_cons (lw_42 hL h6) (lwl_cons (lw_43 hL h6) (lwl_cons (lw_44 hL h6) (lwl_cons (lw_45 hL h6) (lwl_cons (lw_46 hL h6) (lwl_cons (lw_47 hL h6) (lwl_cons (lw_48 hL h6) (lwl_cons (lw_49 hL h6) (lwl_cons (lw_50 hL h6) (lwl_cons (lw_51 hL h6) (lwl_cons (lw_52 hL h6) (lwl_cons (lw_53 hL h6) (lwl_cons (lw_54 hL h6) (lwl_cons (lw_55 hL h6) (lwl_cons (lw_56 hL h6) (lwl_cons (lw_57 hL h6) (lwl_cons (lw_58 hL h6) (lwl_cons (lw_59 hL h6) (lwl_cons (lw_60 hL h6) (lwl_cons (lw_61 hL h6) (lwl_cons (lw_62 hL h6) (lwl_nil)))))))))))))))))))))))))))))))))))))))))))))))))))))))))))))))
theorem lw_sw {i : Nat} {lo : Int} {cs : List (Sm Int32)} {X : Ex Int32} {v : Int32} {h : St} {P : PT} (c : LwL L xs i cs) (H : Inv L xs h P) (e : X (lwF i) h = some (v, h)) : ∃ g P', (dSw lo X cs dSkip : Sm Int32) (lwF i) h = some (.inl 0, lwF i, g) ∧ Inv L xs g P' := by
  have key : ∀ o : Option (Sm Int32), (∀ S, o = some S → LwG L xs i S) → ∃ g P', ob ((o.getD dSkip) (lwF i) h) kSwb = some (.inl 0, lwF i, g) ∧ Inv L xs g P' := by
    intro o ho
    cases o with
    | none => exact ⟨h, P, rfl, H⟩
    | some S =>
      obtain ⟨g, P', e1, H'⟩ := ho S rfl h P H
      refine ⟨g, P', ?_, H'⟩
      show ob (S (lwF i) h) kSwb = _
      rw [e1, ob_t, e_kSwb1]
  rw [e_Sw, e, ob_t, e_kSwa]
  refine key _ (fun S hS => ?_)
  by_cases z : lo ≤ v.toInt
  · rw [if_pos z] at hS
    exact c _ S hS
  · rw [if_neg z] at hS
    cases hS
def cnL (f : Fr) : Fr := sI (sR (sR (sR fr0 0 (gR f 0)) 1 (gR f 1)) 2 (gR f 2)) 3 (gI f 3)
theorem lw_loop (hL : L ≤ 3072) {h : St} {P : PT} (H : Inv L xs h P) : ∃ f g P', Llaw_1 (lwF 0) h = some (.inl 0, f, g) ∧ Inv L xs g P' := by
  unfold Llaw_1
  rw [e_Loop]
  have cond : ∀ (k : Nat) (h : St) (P : PT), k ≤ L / 6 → Inv L xs h P → dCI r_le (vI 3) (d2 o_isub (dLen (vR 0)) (cI 6)) (lwF k) h = some (decide (6 * k + 6 ≤ L), h) := by
    intro k h P hk1 H
    have C := lwC H
    rw [e_CI, e_vI, ob_t, e_CI_a, e_d2, e_Len, e_vR, ob_t, e_Len_a, lwF_0, C.1, if_pos (Or.inl ⟨show 13 ≤ 18 by decide, show 18 ≤ 18 by decide⟩), ob_t, e_d2_a, e_cI, ob_t, e_d2_b, ob_t, e_CI_b, lwF_3]
    have e : r_le (nI (6 * k)) (o_isub (Int32.ofNat (18, L).2) 6) = decide (6 * k + 6 ≤ L) := by
      unfold r_le o_isub
      rw [decide_eq_decide, fa_le, show (Int32.ofNat (18, L).2) = nI L from rfl, show (6 : Int32) = nI 6 from rfl, fb_subI (by rw [nI_toInt (by omega), nI_toInt (by omega)]; omega) (by rw [nI_toInt (by omega), nI_toInt (by omega)]; omega), nI_toInt (by omega), nI_toInt (by omega), nI_toInt (by omega)]
      omega
    rw [e]
  have key := iter_ind0 (B := lpS cnL (dCI r_le (vI 3) (d2 o_isub (dLen (vR 0)) (cI 6))) (dSw 0 (d2 o_iand (dAI (vR 0) (vI 3)) (cI 63)) [Clw_0, Clw_1, Clw_2, Clw_3, Clw_4, Clw_5, Clw_6, Clw_7, Clw_8, Clw_9, Clw_10, Clw_11, Clw_12, Clw_13, Clw_14, Clw_15, Clw_16, Clw_17, Clw_18, Clw_19, Clw_20, Clw_21, Clw_22, Clw_23, Clw_24, Clw_25, Clw_26, Clw_27, Clw_28, Clw_29, Clw_30, Clw_31, Clw_32, Clw_33, Clw_34, Clw_35, Clw_36, Clw_37, Clw_38, Clw_39, Clw_40, Clw_41, Clw_42, Clw_43, Clw_44, Clw_45, Clw_46, Clw_47, Clw_48, Clw_49, Clw_50, Clw_51, Clw_52, Clw_53, Clw_54, Clw_55, Clw_56, Clw_57, Clw_58, Clw_59, Clw_60, Clw_61, Clw_62] dSkip) (dInc 3 6)) (fun k s => ∃ h P, s = (lwF k, h) ∧ Inv L xs h P) (fun b => ∃ f g P', b = (.inl 0, f, g) ∧ Inv L xs g P') (L / 6) (s0 := (lwF 0, h)) ⟨h, P, rfl, H⟩ (fun k s hk1 hs1 => ?_) (fun s hs1 => ?_)
  · obtain ⟨b, e1, f, g, P', rfl, H'⟩ := key
    exact ⟨f, g, P', e1, H'⟩
  · obtain ⟨h, P, rfl, H⟩ := hs1
    have h6 : 6 * k + 6 ≤ L := by omega
    have C := lwC H
    obtain ⟨g, P', e1, H'⟩ := lw_sw (lo := 0) (X := d2 o_iand (dAI (vR 0) (vI 3)) (cI 63)) (lw_all (xs := xs) hL h6) H (wa_2 (lw_i C hL h6) rfl)
    refine Or.inl ⟨(lwF (k + 1), g), ?_, g, P', rfl, H'⟩
    rw [e_lpS, cond k h P (by omega) H, ob_t, e_kLp, decide_eq_true h6, if_pos rfl, e1, ob_t, e_kLpB0, e_Inc, ob_t, e_kLpU]
    have ef : cnL (sI (lwF k) 3 (gI (lwF k) 3 + 6)) = lwF (k + 1) := by
      rw [lwF_3, show (6 : Int32) = nI 6 from rfl, nI_add]
      show sI (sR (sR (sR fr0 0 1) 1 oX) 2 oM) 3 (nI (6 * k + 6)) = _
      rw [show 6 * k + 6 = 6 * (k + 1) by omega]
      rfl
    rw [ef]
  · obtain ⟨h, P, rfl, H⟩ := hs1
    refine ⟨(.inl 0, lwF (L / 6), h), ?_, _, _, _, rfl, H⟩
    rw [e_lpS, cond (L / 6) h P (Nat.le_refl _) H, ob_t, e_kLp, decide_eq_false (by omega), if_neg (by decide)]
theorem lw_new (L : Nat) (xs : Nat → Int32) : (dNewC 11 DX11_init) (sR fr0 0 1) (St0 L xs) = some (oX, Ehp L xs 91 90 4 11660) ∧ (dNewC 12 DX12_init) (sR (sR fr0 0 1) 1 oX) (Ehp L xs 91 90 4 11660) = some (oM, Efin L xs) := by
  have z0 : wN (St0 L xs) (11, 0) (clN 11) = Ehp L xs 1 0 0 14 := by
    rw [← St0_is]
    exact E_new L xs (a := 0) (b := 0) (c := 0) (s := 0) (n := 14) rfl (by decide +kernel) (by decide +kernel)
  have z1 : wN (Ehp L xs 91 90 4 11660) (12, 0) (clN 12) = Ehp L xs 92 90 4 11715 := E_new L xs (a := 91) (b := 90) (c := 4) (s := 11660) (n := 55) rfl (by decide +kernel) (by decide +kernel)
  refine ⟨?_, ?_⟩
  · rw [e_NewC, z0]
    show ob (DX11_init (sR fr0 0 31) (Ehp L xs 1 0 0 14)) _ = _
    rw [ci_31, ob_t]
    rfl
  · rw [e_NewC, z1]
    show ob (DX12_init (sR fr0 0 122) (Ehp L xs 92 90 4 11715)) _ = _
    rw [ci_122, ob_t]
    rfl
theorem pure_law : ∀ (L : Nat) (xs : Nat → Int32), L ≤ 3072 → ∃ f' h', Blaw (sR fr0 0 1) (St0 L xs) = some (.inr 1, f', h') ∧ hn h' ≤ 31 + 1000 ∧ hs h' ≤ 100000 := by
  intro L xs hL
  obtain ⟨n1, n2⟩ := lw_new L xs
  obtain ⟨f, g, P', e1, H'⟩ := lw_loop (xs := xs) hL (Inv_start L xs)
  refine ⟨f, g, ?_, ?_, ?_⟩
  · unfold Blaw
    rw [e_Seq, e_SetR, n1, ob_t, e_kSetR, ob_t, e_kSeq0, e_Seq, e_SetR, n2, ob_t, e_kSetR, ob_t, e_kSeq0, e_Seq, e_Seq, e_SetI, e_cI, ob_t, e_kSetI, ob_t, e_kSeq0]
    have ef : sI (sR (sR (sR fr0 0 1) 1 oX) 2 oM) 3 0 = lwF 0 := rfl
    rw [ef, e1, ob_t, e_kSeq0, e_Ret, e_cI, ob_t, e_kRet]
  · obtain ⟨-, -, -, -, -, -, -, -, -, -, -, -, hN, -⟩ := H'
    have hc : cnI g ≤ 3 := by unfold cnI; split <;> split <;> split <;> omega
    rw [hN.1]; omega
  · obtain ⟨-, -, -, -, -, -, -, -, -, -, -, -, hN, -⟩ := H'
    have hc : cnI g ≤ 3 := by unfold cnI; split <;> split <;> split <;> omega
    have := hN.2
    omega
end
