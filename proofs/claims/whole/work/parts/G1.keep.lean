set_option maxRecDepth 100000
set_option maxHeartbeats 1000000
/-! what a call of the class leaves as it was -/
/-- what stood before stays: kinds, and the numbers of kind 18 -/
def K1 (h g : St) : Prop := hn h ≤ hn g ∧ ∀ r, r < hn h → hk g r = hk h r ∧ ((hk h r).1 = 18 → ∀ k, hi g r k = hi h r k)
theorem K1.rf (h : St) : K1 h h := ⟨Nat.le_refl _, fun _ _ => ⟨rfl, fun _ _ => rfl⟩⟩
theorem K1.tr {a b c : St} (h : K1 a b) (k : K1 b c) : K1 a c := ⟨Nat.le_trans h.1 k.1, fun r h1 => by
  obtain ⟨p1, p2⟩ := h.2 r h1
  obtain ⟨q1, q2⟩ := k.2 r (Nat.lt_of_lt_of_le h1 h.1)
  exact ⟨q1.trans p1, fun h2 j => (q2 (by rw [p1]; exact h2) j).trans (p2 h2 j)⟩⟩
def KExp {α : Type} (E : Fr → St → Option (α × St)) : Prop := ∀ f h (b : α × St), E f h = some b → K1 h b.2
def KStm {α : Type} (S : Sm α) : Prop := ∀ f h (b : (Nat ⊕ α) × Fr × St), S f h = some b → K1 h b.2.2
def KGt2 {β γ : Type} (g : β → γ → St → Option St) : Prop := ∀ a v h h2, g a v h = some h2 → K1 h h2
def KGt3 {β γ δ : Type} (g : β → γ → δ → St → Option St) : Prop := ∀ a b v h h2, g a b v h = some h2 → K1 h h2
theorem K1_wI {h : St} {r : Nat} (hr1 : (hk h r).1 ≠ 18) (k : Nat) (v : Int32) : K1 h (wI h r k v) := ⟨Nat.le_refl _, fun q _ => ⟨rfl, fun h2 j => w_ne (Or.inl (fun z => hr1 (by rw [← z]; exact h2))) _ _⟩⟩
theorem K1_wL (h : St) (r k : Nat) (v : Int64) : K1 h (wL h r k v) := ⟨Nat.le_refl _, fun q _ => ⟨rfl, fun _ j => rfl⟩⟩
theorem K1_wR (h : St) (r k v : Nat) : K1 h (wR h r k v) := ⟨Nat.le_refl _, fun q _ => ⟨rfl, fun _ j => rfl⟩⟩
theorem K1_wN (h : St) (kd : Nat × Nat) (n : Nat) : K1 h (wN h kd n) := ⟨by rw [wN_hn]; exact Nat.le_succ _, fun q h1 => ⟨wN_hk (by omega), fun _ j => by rw [wN_hi (by omega)]⟩⟩
theorem k_fI {cl k : Nat} (hc : cl ≠ 18) : KGt2 (fI cl k) := by
  intro a v h h2 e
  unfold fI at e
  split at e
  · rename_i z; cases e; exact K1_wI (by rw [z]; exact hc) _ _
  · cases e
theorem k_fZ {cl k : Nat} (hc : cl ≠ 18) : KGt2 (fZ cl k) := by
  intro a v h h2 e
  unfold fZ at e
  split at e
  · rename_i z; cases e; exact K1_wI (by rw [z.1]; exact hc) _ _
  · cases e
theorem k_fL {cl k : Nat} (_ : cl ≠ 18) : KGt2 (fL cl k) := by
  intro a v h h2 e
  unfold fL at e
  split at e
  · cases e; exact K1_wL _ _ _ _
  · cases e
theorem k_fR {cl k : Nat} (_ : cl ≠ 18) : KGt2 (fR cl k) := by
  intro a v h h2 e
  unfold fR at e
  split at e
  · cases e; exact K1_wR _ _ _ _
  · cases e
theorem k_stI {t : Nat} {g : Int32 → Int32} (hc : t ≠ 18) : KGt3 (stI t g) := by
  intro a b v h h2 e
  unfold stI at e
  split at e
  · rename_i z; cases e; exact K1_wI (by rw [z.1]; exact hc) _ _
  · cases e
theorem k_stL : KGt3 stL := by
  intro a b v h h2 e
  unfold stL at e
  split at e
  · cases e; exact K1_wL _ _ _ _
  · cases e
theorem k_stR : KGt3 stR := by
  intro a b v h h2 e
  unfold stR at e
  split at e
  · cases e; exact K1_wR _ _ _ _
  · cases e
section
variable {α β γ δ : Type}
theorem k_cI {n : Int32} : KExp (cI n) := fun f h b e => by cases e; exact K1.rf _
theorem k_cL {n : Int64} : KExp (cL n) := fun f h b e => by cases e; exact K1.rf _
theorem k_cR {n : Nat} : KExp (cR n) := fun f h b e => by cases e; exact K1.rf _
theorem k_vI {n : Nat} : KExp (vI n) := fun f h b e => by cases e; exact K1.rf _
theorem k_vL {n : Nat} : KExp (vL n) := fun f h b e => by cases e; exact K1.rf _
theorem k_vR {n : Nat} : KExp (vR n) := fun f h b e => by cases e; exact K1.rf _
theorem k_aN : KExp aN := fun f h b e => by cases e; exact K1.rf _
theorem k_d1 {g : α → β} {A : Ex α} (a : KExp A) : KExp (d1 g A) := fun f h b e => by
  rw [e_d1] at e
  obtain ⟨x, e1, e2⟩ := ob_some.1 e
  cases e2
  exact a f h x e1
theorem k_d2 {g : α → β → γ} {A : Ex α} {B : Ex β} (a : KExp A) (b : KExp B) : KExp (d2 g A B) := fun f h r e => by
  rw [e_d2] at e
  obtain ⟨x, e1, e2⟩ := ob_some.1 e
  obtain ⟨y, e3, e4⟩ := ob_some.1 (show ob (B f x.2) (kd2_b g x.1) = some r from e2)
  cases e4
  exact (a f h x e1).tr (b f x.2 y e3)
theorem k_d2z [Zero α] [DecidableEq α] {g : α → α → α} {A B : Ex α} (a : KExp A) (b : KExp B) : KExp (d2z g A B) := fun f h r e => by
  rw [e_d2z] at e
  obtain ⟨x, e1, e2⟩ := ob_some.1 e
  obtain ⟨y, e3, e4⟩ := ob_some.1 (show ob (B f x.2) (kd2z_b g x.1) = some r from e2)
  have e4 : (if y.1 = 0 then none else some (g x.1 y.1, y.2)) = some r := e4
  split at e4
  · cases e4
  · cases e4
    exact (a f h x e1).tr (b f x.2 y e3)
theorem k_dGI {cl k : Nat} {A : Ex Nat} (a : KExp A) : KExp (dGI cl k A) := fun f h r e => by
  rw [e_GI] at e
  obtain ⟨x, e1, e2⟩ := ob_some.1 e
  have e2 : (if (hk x.2 x.1).1 = cl then some (hi x.2 x.1 k, x.2) else none) = some r := e2
  split at e2
  · cases e2; exact a f h x e1
  · cases e2
theorem k_dGL {cl k : Nat} {A : Ex Nat} (a : KExp A) : KExp (dGL cl k A) := fun f h r e => by
  rw [e_GL] at e
  obtain ⟨x, e1, e2⟩ := ob_some.1 e
  have e2 : (if (hk x.2 x.1).1 = cl then some (hl x.2 x.1 k, x.2) else none) = some r := e2
  split at e2
  · cases e2; exact a f h x e1
  · cases e2
theorem k_dGR {cl k : Nat} {A : Ex Nat} (a : KExp A) : KExp (dGR cl k A) := fun f h r e => by
  rw [e_GR] at e
  obtain ⟨x, e1, e2⟩ := ob_some.1 e
  have e2 : (if (hk x.2 x.1).1 = cl then some (hr x.2 x.1 k, x.2) else none) = some r := e2
  split at e2
  · cases e2; exact a f h x e1
  · cases e2
theorem k_dAI {A : Ex Nat} {B : Ex Int32} (a : KExp A) (b : KExp B) : KExp (dAI A B) := fun f h r e => by
  rw [e_AI] at e
  obtain ⟨x, e1, e2⟩ := ob_some.1 e
  obtain ⟨y, e3, e4⟩ := ob_some.1 (show ob (B f x.2) (kAI_b x.1) = some r from e2)
  unfold kAI_b at e4
  split at e4
  · cases e4; exact (a f h x e1).tr (b f x.2 y e3)
  · cases e4
theorem k_dAB {A : Ex Nat} {B : Ex Int32} (a : KExp A) (b : KExp B) : KExp (dAB A B) := fun f h r e => by
  rw [e_AB] at e
  obtain ⟨x, e1, e2⟩ := ob_some.1 e
  obtain ⟨y, e3, e4⟩ := ob_some.1 (show ob (B f x.2) (kAB_b x.1) = some r from e2)
  unfold kAB_b at e4
  split at e4
  · cases e4; exact (a f h x e1).tr (b f x.2 y e3)
  · cases e4
theorem k_dAZ {A : Ex Nat} {B : Ex Int32} (a : KExp A) (b : KExp B) : KExp (dAZ A B) := fun f h r e => by
  rw [e_AZ] at e
  obtain ⟨x, e1, e2⟩ := ob_some.1 e
  obtain ⟨y, e3, e4⟩ := ob_some.1 (show ob (B f x.2) (kAZ_b x.1) = some r from e2)
  unfold kAZ_b at e4
  split at e4
  · cases e4; exact (a f h x e1).tr (b f x.2 y e3)
  · cases e4
theorem k_dAL {A : Ex Nat} {B : Ex Int32} (a : KExp A) (b : KExp B) : KExp (dAL A B) := fun f h r e => by
  rw [e_AL] at e
  obtain ⟨x, e1, e2⟩ := ob_some.1 e
  obtain ⟨y, e3, e4⟩ := ob_some.1 (show ob (B f x.2) (kAL_b x.1) = some r from e2)
  unfold kAL_b at e4
  split at e4
  · cases e4; exact (a f h x e1).tr (b f x.2 y e3)
  · cases e4
theorem k_dAR {A : Ex Nat} {B : Ex Int32} (a : KExp A) (b : KExp B) : KExp (dAR A B) := fun f h r e => by
  rw [e_AR] at e
  obtain ⟨x, e1, e2⟩ := ob_some.1 e
  obtain ⟨y, e3, e4⟩ := ob_some.1 (show ob (B f x.2) (kAR_b x.1) = some r from e2)
  unfold kAR_b at e4
  split at e4
  · cases e4; exact (a f h x e1).tr (b f x.2 y e3)
  · cases e4
theorem k_dLen {A : Ex Nat} (a : KExp A) : KExp (dLen A) := fun f h r e => by
  rw [e_Len] at e
  obtain ⟨x, e1, e2⟩ := ob_some.1 e
  unfold kLen_a at e2
  split at e2
  · cases e2; exact a f h x e1
  · cases e2
theorem k_dCI {g : Int32 → Int32 → Bool} {A B : Ex Int32} (a : KExp A) (b : KExp B) : KExp (dCI g A B) := fun f h r e => by
  rw [e_CI] at e
  obtain ⟨x, e1, e2⟩ := ob_some.1 e
  obtain ⟨y, e3, e4⟩ := ob_some.1 (show ob (B f x.2) (kCI_b g x.1) = some r from e2)
  cases e4
  exact (a f h x e1).tr (b f x.2 y e3)
theorem k_dCZ {g : Int32 → Bool} {A : Ex Int32} (a : KExp A) : KExp (dCZ g A) := fun f h r e => by
  rw [e_CZ] at e
  obtain ⟨x, e1, e2⟩ := ob_some.1 e
  cases e2
  exact a f h x e1
theorem k_dAnd {C D : Cd} (a : KExp C) (b : KExp D) : KExp (dAnd C D) := fun f h r e => by
  rw [e_And] at e
  obtain ⟨x, e1, e2⟩ := ob_some.1 e
  have e2 : (if x.1 = true then D f x.2 else some (false, x.2)) = some r := e2
  split at e2
  · exact (a f h x e1).tr (b f x.2 r e2)
  · cases e2; exact a f h x e1
theorem k_dOr {C D : Cd} (a : KExp C) (b : KExp D) : KExp (dOr C D) := fun f h r e => by
  rw [e_Or] at e
  obtain ⟨x, e1, e2⟩ := ob_some.1 e
  have e2 : (if x.1 = true then some (true, x.2) else D f x.2) = some r := e2
  split at e2
  · cases e2; exact a f h x e1
  · exact (a f h x e1).tr (b f x.2 r e2)
theorem k_dNot {C : Cd} (a : KExp C) : KExp (dNot C) := fun f h r e => by
  rw [e_Not] at e
  obtain ⟨x, e1, e2⟩ := ob_some.1 e
  cases e2
  exact a f h x e1
theorem k_dNN {A : Ex Nat} (a : KExp A) : KExp (dNN A) := fun f h r e => by
  obtain ⟨x, e1, e2⟩ := ob_some.1 (show ob (A f h) kNN = some r from e)
  cases e2
  exact a f h x e1
theorem k_dB {C : Cd} (a : KExp C) : KExp (dB C) := fun f h r e => by
  obtain ⟨x, e1, e2⟩ := ob_some.1 (show ob (C f h) kB = some r from e)
  cases e2
  exact a f h x e1
theorem k_dT {C : Cd} {A B : Ex α} (c : KExp C) (a : KExp A) (b : KExp B) : KExp (dT C A B) := fun f h r e => by
  obtain ⟨x, e1, e2⟩ := ob_some.1 (show ob (C f h) (kT2 A B f) = some r from e)
  have e2 : (if x.1 = true then A f x.2 else B f x.2) = some r := e2
  split at e2
  · exact (c f h x e1).tr (a f x.2 r e2)
  · exact (c f h x e1).tr (b f x.2 r e2)
theorem k_dTv {A : Ex Nat} (a : KExp A) : KExp (dTv A) := fun f h r e => by
  obtain ⟨x, e1, e2⟩ := ob_some.1 (show ob (A f h) kTv = some r from e)
  unfold kTv at e2
  split at e2
  · cases e2; exact a f h x e1
  · cases e2
theorem k_dTc {A : Ex Nat} (a : KExp A) : KExp (dTc A) := fun f h r e => by
  obtain ⟨x, e1, e2⟩ := ob_some.1 (show ob (A f h) kTc = some r from e)
  unfold kTc at e2
  split at e2
  · cases e2; exact a f h x e1
  · cases e2
theorem k_aI {A : Ag} {i : Nat} {a : Ex Int32} (x : KExp A) (y : KExp a) : KExp (aI A i a) := fun f h r e => by
  obtain ⟨q, e1, e2⟩ := ob_some.1 (show ob (A f h) (kaI_a i a f) = some r from e)
  obtain ⟨w, e3, e4⟩ := ob_some.1 (show ob (a f q.2) (kaI_b i q.1) = some r from e2)
  cases e4
  exact (x f h q e1).tr (y f q.2 w e3)
theorem k_aL {A : Ag} {i : Nat} {a : Ex Int64} (x : KExp A) (y : KExp a) : KExp (aL A i a) := fun f h r e => by
  obtain ⟨q, e1, e2⟩ := ob_some.1 (show ob (A f h) (kaL_a i a f) = some r from e)
  obtain ⟨w, e3, e4⟩ := ob_some.1 (show ob (a f q.2) (kaL_b i q.1) = some r from e2)
  cases e4
  exact (x f h q e1).tr (y f q.2 w e3)
theorem k_aR {A : Ag} {i : Nat} {a : Ex Nat} (x : KExp A) (y : KExp a) : KExp (aR A i a) := fun f h r e => by
  obtain ⟨q, e1, e2⟩ := ob_some.1 (show ob (A f h) (kaR_a i a f) = some r from e)
  obtain ⟨w, e3, e4⟩ := ob_some.1 (show ob (a f q.2) (kaR_b i q.1) = some r from e2)
  cases e4
  exact (x f h q e1).tr (y f q.2 w e3)
theorem k_dCall {D : Fr → St → Option (α × St)} {A : Ag} (d : KExp D) (x : KExp A) : KExp (dCall D A) := fun f h r e => by
  unfold dCall at e
  obtain ⟨q, e1, e2⟩ := ob_some.1 e
  exact (x f h q e1).tr (d q.1 q.2 r e2)
theorem k_dCallV {cl : Nat} {D : Fr → St → Option (α × St)} {A : Ag} (d : KExp D) (x : KExp A) : KExp (dCallV cl D A) := fun f h r e => by
  unfold dCallV at e
  obtain ⟨q, e1, e2⟩ := ob_some.1 e
  split at e2
  · exact (x f h q e1).tr (d q.1 q.2 r e2)
  · cases e2
theorem k_dNewA {t : Nat} {A : Ex Int32} (a : KExp A) : KExp (dNewA t A) := fun f h r e => by
  rw [e_NewA] at e
  obtain ⟨x, e1, e2⟩ := ob_some.1 e
  unfold kNewA_a at e2
  split at e2
  · cases e2; exact (a f h x e1).tr (K1_wN _ _ _)
  · cases e2
theorem k_dNewC {cl : Nat} {D : Fr → St → Option (Unit × St)} (d : KExp D) : KExp (dNewC cl D) := fun f h r e => by
  rw [e_NewC] at e
  obtain ⟨x, e1, e2⟩ := ob_some.1 e
  cases e2
  exact (K1_wN _ _ _).tr (d _ _ x e1)
theorem k_dSkip : KStm (dSkip : Sm α) := fun f h b e => by cases e; exact K1.rf _
theorem k_dBrk : KStm (dBrk : Sm α) := fun f h b e => by cases e; exact K1.rf _
theorem k_dCnt : KStm (dCnt : Sm α) := fun f h b e => by cases e; exact K1.rf _
theorem k_dRet0 : KStm dRet0 := fun f h b e => by cases e; exact K1.rf _
theorem k_dInc {i : Nat} {n : Int32} : KStm (dInc i n : Sm α) := fun f h b e => by cases e; exact K1.rf _
theorem k_dSup : KStm (dSup : Sm α) := fun f h b e => by
  unfold dSup at e
  split at e
  · cases e
  · cases e; exact K1.rf _
theorem k_dSetI {i : Nat} {A : Ex Int32} (a : KExp A) : KStm (dSetI i A : Sm α) := fun f h r e => by
  rw [e_SetI] at e
  obtain ⟨x, e1, e2⟩ := ob_some.1 e
  cases e2
  exact a f h x e1
theorem k_dSetL {i : Nat} {A : Ex Int64} (a : KExp A) : KStm (dSetL i A : Sm α) := fun f h r e => by
  rw [e_SetL] at e
  obtain ⟨x, e1, e2⟩ := ob_some.1 e
  cases e2
  exact a f h x e1
theorem k_dSetR {i : Nat} {A : Ex Nat} (a : KExp A) : KStm (dSetR i A : Sm α) := fun f h r e => by
  rw [e_SetR] at e
  obtain ⟨x, e1, e2⟩ := ob_some.1 e
  cases e2
  exact a f h x e1
theorem k_dRet {A : Ex α} (a : KExp A) : KStm (dRet A) := fun f h r e => by
  unfold dRet at e
  obtain ⟨x, e1, e2⟩ := ob_some.1 e
  cases e2
  exact a f h x e1
theorem k_dDo {A : Ex β} (a : KExp A) : KStm (dDo A : Sm α) := fun f h r e => by
  unfold dDo at e
  obtain ⟨x, e1, e2⟩ := ob_some.1 e
  cases e2
  exact a f h x e1
theorem k_dSeq {S T : Sm α} (a : KStm S) (b : KStm T) : KStm (dSeq S T) := fun f h r e => by
  unfold dSeq at e
  obtain ⟨⟨o, f1, h1⟩, e1, e2⟩ := ob_some.1 e
  rcases o with n | v
  · have e2 : (if n = 0 then T f1 h1 else some (.inl n, f1, h1)) = some r := e2
    split at e2
    · exact (a f h _ e1).tr (b f1 h1 r e2)
    · cases e2; exact a f h _ e1
  · cases e2; exact a f h _ e1
theorem k_dIf {C : Cd} {S T : Sm α} (c : KExp C) (a : KStm S) (b : KStm T) : KStm (dIf C S T) := fun f h r e => by
  unfold dIf at e
  obtain ⟨x, e1, e2⟩ := ob_some.1 e
  split at e2
  · exact (c f h x e1).tr (a f x.2 r e2)
  · exact (c f h x e1).tr (b f x.2 r e2)
theorem k_dP {g : β → γ → St → Option St} {A : Ex β} {V : Ex γ} (kg : KGt2 g) (a : KExp A) (v : KExp V) : KStm (dP g A V : Sm α) := fun f h r e => by
  unfold dP at e
  obtain ⟨x, e1, e2⟩ := ob_some.1 e
  obtain ⟨y, e3, e4⟩ := ob_some.1 e2
  obtain ⟨z, e5, e6⟩ := ob_some.1 e4
  cases e6
  exact ((a f h x e1).tr (v f x.2 y e3)).tr (kg _ _ _ _ e5)
theorem k_d3 {g : β → γ → δ → St → Option St} {A : Ex β} {B : Ex γ} {V : Ex δ} (kg : KGt3 g) (a : KExp A) (b : KExp B) (v : KExp V) : KStm (d3 g A B V : Sm α) := fun f h r e => by
  unfold d3 at e
  obtain ⟨x, e1, e2⟩ := ob_some.1 e
  obtain ⟨y, e3, e4⟩ := ob_some.1 e2
  obtain ⟨w, e7, e8⟩ := ob_some.1 e4
  obtain ⟨z, e5, e6⟩ := ob_some.1 e8
  cases e6
  exact (((a f h x e1).tr (b f x.2 y e3)).tr (v f y.2 w e7)).tr (kg _ _ _ _ _ e5)
theorem k_dUF {cl k : Nat} {g : Int32 → Int32 → Int32} {A : Ex Nat} {V : Ex Int32} (hc : cl ≠ 18) (a : KExp A) (v : KExp V) : KStm (dUF cl k g A V : Sm α) := fun f h r e => by
  unfold dUF at e
  obtain ⟨x, e1, e2⟩ := ob_some.1 e
  split at e2
  · obtain ⟨y, e3, e4⟩ := ob_some.1 e2
    obtain ⟨z, e5, e6⟩ := ob_some.1 e4
    cases e6
    exact ((a f h x e1).tr (v f x.2 y e3)).tr (k_fI hc _ _ _ _ e5)
  · cases e2
theorem k_dUA {g : Int32 → Int32 → Int32} {A : Ex Nat} {I V : Ex Int32} (a : KExp A) (i : KExp I) (v : KExp V) : KStm (dUA g A I V : Sm α) := fun f h r e => by
  unfold dUA at e
  obtain ⟨x, e1, e2⟩ := ob_some.1 e
  obtain ⟨w, e7, e8⟩ := ob_some.1 e2
  split at e8
  · obtain ⟨y, e3, e4⟩ := ob_some.1 e8
    obtain ⟨z, e5, e6⟩ := ob_some.1 e4
    cases e6
    exact (((a f h x e1).tr (i f x.2 w e7)).tr (v f w.2 y e3)).tr (k_stI (by decide) _ _ _ _ _ e5)
  · cases e8
theorem k_dUL {g : Int64 → Int64 → Int64} {A : Ex Nat} {I : Ex Int32} {V : Ex Int64} (a : KExp A) (i : KExp I) (v : KExp V) : KStm (dUL g A I V : Sm α) := fun f h r e => by
  unfold dUL at e
  obtain ⟨x, e1, e2⟩ := ob_some.1 e
  obtain ⟨w, e7, e8⟩ := ob_some.1 e2
  split at e8
  · obtain ⟨y, e3, e4⟩ := ob_some.1 e8
    obtain ⟨z, e5, e6⟩ := ob_some.1 e4
    cases e6
    exact (((a f h x e1).tr (i f x.2 w e7)).tr (v f w.2 y e3)).tr (k_stL _ _ _ _ _ e5)
  · cases e8
theorem K1_cp {t : Nat} (ht : t ≠ 18) {g : Fr} {h h2 : St} (e : cpF t g h = some h2) : K1 h h2 := by
  unfold cpF at e
  split at e
  · rename_i z
    cases e
    split
    · refine ⟨Nat.le_refl _, fun q _ => ⟨rfl, fun h2 j => ?_⟩⟩
      show (if q = gR g 2 then va_cpy (h.1 (gR g 0)) (h.1 (gR g 2)) _ _ _ else h.1 q) j = h.1 q j
      rw [if_neg (fun y => ht (by rw [← z.2.1, ← y]; exact h2))]
    · exact ⟨Nat.le_refl _, fun q _ => ⟨rfl, fun _ j => rfl⟩⟩
  · cases e
theorem k_dCp {t : Nat} {A : Ag} (ht : t ≠ 18) (a : KExp A) : KStm (dCp t A : Sm α) := fun f h r e => by
  unfold dCp at e
  obtain ⟨x, e1, e2⟩ := ob_some.1 e
  obtain ⟨z, e5, e6⟩ := ob_some.1 e2
  cases e6
  exact (a f h x e1).tr (K1_cp ht e5)
theorem k_dLoop {cn : Fr → Fr} {C : Cd} {B U : Sm α} (c : KExp C) (b : KStm B) (u : KStm U) : KStm (dLoop cn C B U) := by
  intro f h r e
  have key : ∀ (s : Fr × St) (o : (Nat ⊕ α) × Fr × St), iter (lpS cn C B U) s = some o → K1 s.2 o.2.2 := by
    intro s o ho
    have hstep : ∀ s q, lpS cn C B U s = some q → K1 s.2 (Sum.elim (fun s' => s'.2) (fun b => b.2.2) q) := by
      intro s q hq
      unfold lpS at hq
      obtain ⟨x, e1, e2⟩ := ob_some.1 hq
      split at e2
      · obtain ⟨⟨o1, f1, h1⟩, e3, e4⟩ := ob_some.1 e2
        rcases o1 with n | v
        · have e4 : (if n = 1 then some (.inr (.inl 0, cn f1, h1)) else ob (U f1 h1) (kLpU cn)) = some q := e4
          split at e4
          · have q3 := b _ _ _ e3
            cases e4; exact (c _ _ x e1).tr q3
          · obtain ⟨⟨o2, f2, h2⟩, e5, e6⟩ := ob_some.1 e4
            rcases o2 with m | w
            · have e6 : (if m = 0 then some (.inl (cn f2, h2)) else none) = some q := e6
              split at e6
              · cases e6; exact ((c _ _ x e1).tr (b _ _ _ e3)).tr (u _ _ _ e5)
              · cases e6
            · cases e6
        · cases e4; exact (c _ _ x e1).tr (b _ _ _ e3)
      · cases e2; exact c _ _ x e1
    exact iter_rec (P := fun s o => K1 s.2 o.2.2) (fun s b hb => hstep s _ hb) (fun s s' b h1 _ h3 => (hstep s _ h1).tr h3) ho
  exact key (cn f, h) r e
theorem k_dDoW {cn : Fr → Fr} {B : Sm α} {C : Cd} (b : KStm B) (c : KExp C) : KStm (dDoW cn B C) := by
  intro f h r e
  have key : ∀ (s : Fr × St) (o : (Nat ⊕ α) × Fr × St), iter (dwS cn B C) s = some o → K1 s.2 o.2.2 := by
    intro s o ho
    have hstep : ∀ s q, dwS cn B C s = some q → K1 s.2 (Sum.elim (fun s' => s'.2) (fun b => b.2.2) q) := by
      intro s q hq
      unfold dwS at hq
      obtain ⟨⟨o1, f1, h1⟩, e3, e4⟩ := ob_some.1 hq
      rcases o1 with n | v
      · have e4 : (if n = 1 then some (.inr (.inl 0, cn f1, h1)) else ob (C f1 h1) (kDwC cn f1)) = some q := e4
        split at e4
        · have q3 := b _ _ _ e3
          cases e4; exact q3
        · obtain ⟨x, e5, e6⟩ := ob_some.1 e4
          have e6 : (if x.1 = true then some (.inl (cn f1, x.2)) else some (.inr (.inl 0, cn f1, x.2))) = some q := e6
          split at e6
          · cases e6; exact (b _ _ _ e3).tr (c _ _ x e5)
          · cases e6; exact (b _ _ _ e3).tr (c _ _ x e5)
      · cases e4; exact b _ _ _ e3
    exact iter_rec (P := fun s o => K1 s.2 o.2.2) (fun s b hb => hstep s _ hb) (fun s s' b h1 _ h3 => (hstep s _ h1).tr h3) ho
  exact key (cn f, h) r e
def KLs (cs : List (Sm α)) : Prop := ∀ (i : Nat) (S : Sm α), cs[i]? = some S → KStm S
theorem k_nil : KLs ([] : List (Sm α)) := fun i S e => by simp at e
theorem k_cons {S : Sm α} {cs : List (Sm α)} (a : KStm S) (b : KLs cs) : KLs (S :: cs) := fun i T e => by
  cases i with
  | zero => simp at e; rw [← e]; exact a
  | succ i => exact b i T (by simpa using e)
theorem k_dSw {lo : Int} {A : Ex Int32} {cs : List (Sm α)} {df : Sm α} (a : KExp A) (c : KLs cs) (d : KStm df) : KStm (dSw lo A cs df) := fun f h r e => by
  unfold dSw at e
  obtain ⟨x, e1, e2⟩ := ob_some.1 e
  obtain ⟨y, e3, e4⟩ := ob_some.1 e2
  cases e4
  refine (a f h x e1).tr ?_
  have hd : KStm ((if lo ≤ x.1.toInt then cs[(x.1.toInt - lo).toNat]? else none).getD df) := by
    split
    · cases q : cs[(x.1.toInt - lo).toNat]? with
      | none => exact d
      | some S => exact c _ S q
    · exact d
  exact hd f x.2 y e3
theorem k_M1 {cn : Fr → Fr} {S : Sm α} (a : KStm S) : KExp (M1 cn S) := fun f h r e => by
  unfold M1 at e
  obtain ⟨⟨o, f1, h1⟩, e1, e2⟩ := ob_some.1 e
  rcases o with n | v
  · cases e2
  · cases e2; exact a _ _ _ e1
theorem k_MZ {cn : Fr → Fr} {S : Sm Int32} (a : KStm S) : KExp (MZ cn S) := fun f h r e => by
  unfold MZ at e
  obtain ⟨⟨o, f1, h1⟩, e1, e2⟩ := ob_some.1 e
  rcases o with n | v
  · cases e2
  · have e2 : (if v = 0 ∨ v = 1 then some (v, h1) else none) = some r := e2
    split at e2
    · cases e2; exact a _ _ _ e1
    · cases e2
theorem k_MN {ty : FieldType} {cn : Fr → Fr} {S : Sm Int32} (a : KStm S) : KExp (MN ty cn S) := fun f h r e => by
  unfold MN at e
  obtain ⟨⟨o, f1, h1⟩, e1, e2⟩ := ob_some.1 e
  rcases o with n | v
  · cases e2
  · have e2 : (if vp_nar ty v = v then some (v, h1) else none) = some r := e2
    split at e2
    · cases e2; exact a _ _ _ e1
    · cases e2
end
