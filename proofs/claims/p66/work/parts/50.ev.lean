set_option maxRecDepth 100000
set_option maxHeartbeats 4000000
/-! EVALUATION: each combinator by what may be missing and what comes of it -/
theorem f_II (f : Fr) (j k : Nat) (v : Int32) : gI (sI f k v) j = if j = k then v else gI f j := id rfl
theorem f_LL (f : Fr) (j k : Nat) (v : Int64) : gL (sL f k v) j = if j = k then v else gL f j := id rfl
theorem f_RR (f : Fr) (j k : Nat) (v : Nat) : gR (sR f k v) j = if j = k then v else gR f j := id rfl
theorem f_IL (f : Fr) (j k : Nat) (v : Int64) : gI (sL f k v) j = gI f j := id rfl
theorem f_IR (f : Fr) (j k : Nat) (v : Nat) : gI (sR f k v) j = gI f j := id rfl
theorem f_LI (f : Fr) (j k : Nat) (v : Int32) : gL (sI f k v) j = gL f j := id rfl
theorem f_LR (f : Fr) (j k : Nat) (v : Nat) : gL (sR f k v) j = gL f j := id rfl
theorem f_RI (f : Fr) (j k : Nat) (v : Int32) : gR (sI f k v) j = gR f j := id rfl
theorem f_RL (f : Fr) (j k : Nat) (v : Int64) : gR (sL f k v) j = gR f j := id rfl
theorem ob_n {α β : Type} (k : α → Option β) : ob none k = none := id rfl
theorem ob_t {α β : Type} (a : α) (k : α → Option β) : ob (some a) k = k a := id rfl
theorem ob_ite {α β : Type} (c : Prop) (d : Decidable c) (x y : Option α) (k : α → Option β) : ob (@ite _ c d x y) k = @ite _ c d (ob x k) (ob y k) := by
  by_cases h : c
  · rw [if_pos h, if_pos h]
  · rw [if_neg h, if_neg h]
theorem e_cI (n : Int32) (f : Fr) (h : St) : cI n f h = some (n, h) := id rfl
theorem e_cL (n : Int64) (f : Fr) (h : St) : cL n f h = some (n, h) := id rfl
theorem e_cR (n : Nat) (f : Fr) (h : St) : cR n f h = some (n, h) := id rfl
theorem e_vI (i : Nat) (f : Fr) (h : St) : vI i f h = some (gI f i, h) := id rfl
theorem e_vL (i : Nat) (f : Fr) (h : St) : vL i f h = some (gL f i, h) := id rfl
theorem e_vR (i : Nat) (f : Fr) (h : St) : vR i f h = some (gR f i, h) := id rfl
def kd2_b {α β γ : Type} (g : α → β → γ) (x : α) : β × St → Option (γ × St) := fun y => some (g x y.1, y.2)
def kd2_a {α β γ : Type} (g : α → β → γ) (B : Ex β) (f : Fr) : α × St → Option (γ × St) := fun x => ob (B f x.2) (kd2_b g x.1)
theorem e_d2 {α β γ : Type} (g : α → β → γ) (A : Ex α) (B : Ex β) (f : Fr) (h : St) : d2 g A B f h = ob (A f h) (kd2_a g B f) := by
  unfold d2 ob kd2_a
  rcases A f h with _ | ⟨x, h1⟩
  · rfl
  · dsimp only
    unfold ob kd2_b
    rcases B f h1 with _ | ⟨y, h2⟩ <;> rfl
theorem e_d2_a {α β γ : Type} (g : α → β → γ) (B : Ex β) (f : Fr) (x : α) (h : St) : kd2_a g B f (x, h) = ob (B f h) (kd2_b g x) := id rfl
theorem e_d2_b {α β γ : Type} (g : α → β → γ) (x : α) (y : β) (h : St) : kd2_b g x (y, h) = some (g x y, h) := id rfl
def kd2z_b {α : Type} [Zero α] [DecidableEq α] (g : α → α → α) (x : α) : α × St → Option (α × St) := fun y => if y.1 = 0 then none else some (g x y.1, y.2)
def kd2z_a {α : Type} [Zero α] [DecidableEq α] (g : α → α → α) (B : Ex α) (f : Fr) : α × St → Option (α × St) := fun x => ob (B f x.2) (kd2z_b g x.1)
theorem e_d2z {α : Type} [Zero α] [DecidableEq α] (g : α → α → α) (A : Ex α) (B : Ex α) (f : Fr) (h : St) : d2z g A B f h = ob (A f h) (kd2z_a g B f) := by
  unfold d2z ob kd2z_a
  rcases A f h with _ | ⟨x, h1⟩
  · rfl
  · dsimp only
    unfold ob kd2z_b
    rcases B f h1 with _ | ⟨y, h2⟩ <;> rfl
theorem e_d2z_a {α : Type} [Zero α] [DecidableEq α] (g : α → α → α) (B : Ex α) (f : Fr) (x : α) (h : St) : kd2z_a g B f (x, h) = ob (B f h) (kd2z_b g x) := id rfl
theorem e_d2z_b {α : Type} [Zero α] [DecidableEq α] (g : α → α → α) (x : α) (y : α) (h : St) : kd2z_b g x (y, h) = if y = 0 then none else some (g x y, h) := id rfl
def kd1_a {α β : Type} (g : α → β) : α × St → Option (β × St) := fun x => some (g x.1, x.2)
theorem e_d1 {α β : Type} (g : α → β) (A : Ex α) (f : Fr) (h : St) : d1 g A f h = ob (A f h) (kd1_a g) := by
  unfold d1 ob
  rcases A f h with _ | ⟨x, h1⟩ <;> rfl
theorem e_d1_a {α β : Type} (g : α → β) (x : α) (h : St) : kd1_a g (x, h) = some (g x, h) := id rfl
def kGI_a (cl k : Nat) : Nat × St → Option (Int32 × St) := fun x => if (hk x.2 x.1).1 = cl then some (hi x.2 x.1 k, x.2) else none
theorem e_GI (cl k : Nat) (A : Ex Nat) (f : Fr) (h : St) : dGI cl k A f h = ob (A f h) (kGI_a cl k) := by
  unfold dGI ob
  rcases A f h with _ | ⟨x, h1⟩ <;> rfl
theorem e_GI_a (cl k : Nat) (x : Nat) (h : St) : kGI_a cl k (x, h) = if (hk h x).1 = cl then some (hi h x k, h) else none := id rfl
def kGL_a (cl k : Nat) : Nat × St → Option (Int64 × St) := fun x => if (hk x.2 x.1).1 = cl then some (hl x.2 x.1 k, x.2) else none
theorem e_GL (cl k : Nat) (A : Ex Nat) (f : Fr) (h : St) : dGL cl k A f h = ob (A f h) (kGL_a cl k) := by
  unfold dGL ob
  rcases A f h with _ | ⟨x, h1⟩ <;> rfl
theorem e_GL_a (cl k : Nat) (x : Nat) (h : St) : kGL_a cl k (x, h) = if (hk h x).1 = cl then some (hl h x k, h) else none := id rfl
def kGR_a (cl k : Nat) : Nat × St → Option (Nat × St) := fun x => if (hk x.2 x.1).1 = cl then some (hr x.2 x.1 k, x.2) else none
theorem e_GR (cl k : Nat) (A : Ex Nat) (f : Fr) (h : St) : dGR cl k A f h = ob (A f h) (kGR_a cl k) := by
  unfold dGR ob
  rcases A f h with _ | ⟨x, h1⟩ <;> rfl
theorem e_GR_a (cl k : Nat) (x : Nat) (h : St) : kGR_a cl k (x, h) = if (hk h x).1 = cl then some (hr h x k, h) else none := id rfl
def kAI_b (x : Nat) : Int32 × St → Option (Int32 × St) := fun y => if ((hk y.2 x).1 = 13 ∨ (hk y.2 x).1 = 18) ∧ inb y.1 (hk y.2 x).2 = true then some (hi y.2 x y.1.toNatClampNeg, y.2) else none
def kAI_a (B : Ex Int32) (f : Fr) : Nat × St → Option (Int32 × St) := fun x => ob (B f x.2) (kAI_b x.1)
theorem e_AI (A : Ex Nat) (B : Ex Int32) (f : Fr) (h : St) : dAI A B f h = ob (A f h) (kAI_a B f) := by
  unfold dAI ob kAI_a
  rcases A f h with _ | ⟨x, h1⟩
  · rfl
  · dsimp only
    unfold ob kAI_b
    rcases B f h1 with _ | ⟨y, h2⟩ <;> rfl
theorem e_AI_a (B : Ex Int32) (f : Fr) (x : Nat) (h : St) : kAI_a B f (x, h) = ob (B f h) (kAI_b x) := id rfl
theorem e_AI_b (x : Nat) (y : Int32) (h : St) : kAI_b x (y, h) = if ((hk h x).1 = 13 ∨ (hk h x).1 = 18) ∧ inb y (hk h x).2 = true then some (hi h x y.toNatClampNeg, h) else none := id rfl
def kAB_b (x : Nat) : Int32 × St → Option (Int32 × St) := fun y => if ((hk y.2 x).1 = 14 ∨ (hk y.2 x).1 = 20) ∧ inb y.1 (hk y.2 x).2 = true then some (hi y.2 x y.1.toNatClampNeg, y.2) else none
def kAB_a (B : Ex Int32) (f : Fr) : Nat × St → Option (Int32 × St) := fun x => ob (B f x.2) (kAB_b x.1)
theorem e_AB (A : Ex Nat) (B : Ex Int32) (f : Fr) (h : St) : dAB A B f h = ob (A f h) (kAB_a B f) := by
  unfold dAB ob kAB_a
  rcases A f h with _ | ⟨x, h1⟩
  · rfl
  · dsimp only
    unfold ob kAB_b
    rcases B f h1 with _ | ⟨y, h2⟩ <;> rfl
theorem e_AB_a (B : Ex Int32) (f : Fr) (x : Nat) (h : St) : kAB_a B f (x, h) = ob (B f h) (kAB_b x) := id rfl
theorem e_AB_b (x : Nat) (y : Int32) (h : St) : kAB_b x (y, h) = if ((hk h x).1 = 14 ∨ (hk h x).1 = 20) ∧ inb y (hk h x).2 = true then some (hi h x y.toNatClampNeg, h) else none := id rfl
def kAZ_b (x : Nat) : Int32 × St → Option (Int32 × St) := fun y => if (hk y.2 x).1 = 15 ∧ inb y.1 (hk y.2 x).2 = true then some (hi y.2 x y.1.toNatClampNeg, y.2) else none
def kAZ_a (B : Ex Int32) (f : Fr) : Nat × St → Option (Int32 × St) := fun x => ob (B f x.2) (kAZ_b x.1)
theorem e_AZ (A : Ex Nat) (B : Ex Int32) (f : Fr) (h : St) : dAZ A B f h = ob (A f h) (kAZ_a B f) := by
  unfold dAZ ob kAZ_a
  rcases A f h with _ | ⟨x, h1⟩
  · rfl
  · dsimp only
    unfold ob kAZ_b
    rcases B f h1 with _ | ⟨y, h2⟩ <;> rfl
theorem e_AZ_a (B : Ex Int32) (f : Fr) (x : Nat) (h : St) : kAZ_a B f (x, h) = ob (B f h) (kAZ_b x) := id rfl
theorem e_AZ_b (x : Nat) (y : Int32) (h : St) : kAZ_b x (y, h) = if (hk h x).1 = 15 ∧ inb y (hk h x).2 = true then some (hi h x y.toNatClampNeg, h) else none := id rfl
def kAL_b (x : Nat) : Int32 × St → Option (Int64 × St) := fun y => if (hk y.2 x).1 = 16 ∧ inb y.1 (hk y.2 x).2 = true then some (hl y.2 x y.1.toNatClampNeg, y.2) else none
def kAL_a (B : Ex Int32) (f : Fr) : Nat × St → Option (Int64 × St) := fun x => ob (B f x.2) (kAL_b x.1)
theorem e_AL (A : Ex Nat) (B : Ex Int32) (f : Fr) (h : St) : dAL A B f h = ob (A f h) (kAL_a B f) := by
  unfold dAL ob kAL_a
  rcases A f h with _ | ⟨x, h1⟩
  · rfl
  · dsimp only
    unfold ob kAL_b
    rcases B f h1 with _ | ⟨y, h2⟩ <;> rfl
theorem e_AL_a (B : Ex Int32) (f : Fr) (x : Nat) (h : St) : kAL_a B f (x, h) = ob (B f h) (kAL_b x) := id rfl
theorem e_AL_b (x : Nat) (y : Int32) (h : St) : kAL_b x (y, h) = if (hk h x).1 = 16 ∧ inb y (hk h x).2 = true then some (hl h x y.toNatClampNeg, h) else none := id rfl
def kAR_b (x : Nat) : Int32 × St → Option (Nat × St) := fun y => if (hk y.2 x).1 = 17 ∧ inb y.1 (hk y.2 x).2 = true then some (hr y.2 x y.1.toNatClampNeg, y.2) else none
def kAR_a (B : Ex Int32) (f : Fr) : Nat × St → Option (Nat × St) := fun x => ob (B f x.2) (kAR_b x.1)
theorem e_AR (A : Ex Nat) (B : Ex Int32) (f : Fr) (h : St) : dAR A B f h = ob (A f h) (kAR_a B f) := by
  unfold dAR ob kAR_a
  rcases A f h with _ | ⟨x, h1⟩
  · rfl
  · dsimp only
    unfold ob kAR_b
    rcases B f h1 with _ | ⟨y, h2⟩ <;> rfl
theorem e_AR_a (B : Ex Int32) (f : Fr) (x : Nat) (h : St) : kAR_a B f (x, h) = ob (B f h) (kAR_b x) := id rfl
theorem e_AR_b (x : Nat) (y : Int32) (h : St) : kAR_b x (y, h) = if (hk h x).1 = 17 ∧ inb y (hk h x).2 = true then some (hr h x y.toNatClampNeg, h) else none := id rfl
def kLen_a : Nat × St → Option (Int32 × St) := fun x => if 13 ≤ (hk x.2 x.1).1 ∧ (hk x.2 x.1).1 ≤ 18 ∨ (hk x.2 x.1).1 = 20 then some (Int32.ofNat (hk x.2 x.1).2, x.2) else none
theorem e_Len (A : Ex Nat) (f : Fr) (h : St) : dLen A f h = ob (A f h) (kLen_a) := by
  unfold dLen ob
  rcases A f h with _ | ⟨x, h1⟩ <;> rfl
theorem e_Len_a (x : Nat) (h : St) : kLen_a (x, h) = if 13 ≤ (hk h x).1 ∧ (hk h x).1 ≤ 18 ∨ (hk h x).1 = 20 then some (Int32.ofNat (hk h x).2, h) else none := id rfl
def kCI_b (g : Int32 → Int32 → Bool) (x : Int32) : Int32 × St → Option (Bool × St) := fun y => some (g x y.1, y.2)
def kCI_a (g : Int32 → Int32 → Bool) (B : Ex Int32) (f : Fr) : Int32 × St → Option (Bool × St) := fun x => ob (B f x.2) (kCI_b g x.1)
theorem e_CI (g : Int32 → Int32 → Bool) (A : Ex Int32) (B : Ex Int32) (f : Fr) (h : St) : dCI g A B f h = ob (A f h) (kCI_a g B f) := by
  unfold dCI ob kCI_a
  rcases A f h with _ | ⟨x, h1⟩
  · rfl
  · dsimp only
    unfold ob kCI_b
    rcases B f h1 with _ | ⟨y, h2⟩ <;> rfl
theorem e_CI_a (g : Int32 → Int32 → Bool) (B : Ex Int32) (f : Fr) (x : Int32) (h : St) : kCI_a g B f (x, h) = ob (B f h) (kCI_b g x) := id rfl
theorem e_CI_b (g : Int32 → Int32 → Bool) (x : Int32) (y : Int32) (h : St) : kCI_b g x (y, h) = some (g x y, h) := id rfl
def kCZ_a (g : Int32 → Bool) : Int32 × St → Option (Bool × St) := fun x => some (g x.1, x.2)
theorem e_CZ (g : Int32 → Bool) (A : Ex Int32) (f : Fr) (h : St) : dCZ g A f h = ob (A f h) (kCZ_a g) := by
  unfold dCZ ob
  rcases A f h with _ | ⟨x, h1⟩ <;> rfl
theorem e_CZ_a (g : Int32 → Bool) (x : Int32) (h : St) : kCZ_a g (x, h) = some (g x, h) := id rfl
def kAnd (D : Cd) (f : Fr) : Bool × St → Option (Bool × St) := fun q => if q.1 = true then D f q.2 else some (false, q.2)
theorem e_And (C D : Cd) (f : Fr) (h : St) : dAnd C D f h = ob (C f h) (kAnd D f) := by
  unfold dAnd ob
  rcases C f h with _ | ⟨b, h1⟩
  · rfl
  · cases b <;> rfl
theorem e_kAnd (D : Cd) (f : Fr) (b : Bool) (h : St) : kAnd D f (b, h) = if b = true then D f h else some (false, h) := id rfl
def kOr (D : Cd) (f : Fr) : Bool × St → Option (Bool × St) := fun q => if q.1 = true then some (true, q.2) else D f q.2
theorem e_Or (C D : Cd) (f : Fr) (h : St) : dOr C D f h = ob (C f h) (kOr D f) := by
  unfold dOr ob
  rcases C f h with _ | ⟨b, h1⟩
  · rfl
  · cases b <;> rfl
theorem e_kOr (D : Cd) (f : Fr) (b : Bool) (h : St) : kOr D f (b, h) = if b = true then some (true, h) else D f h := id rfl
def kNot : Bool × St → Option (Bool × St) := fun q => some (!q.1, q.2)
theorem e_Not (C : Cd) (f : Fr) (h : St) : dNot C f h = ob (C f h) kNot := by
  unfold dNot ob
  rcases C f h with _ | ⟨b, h1⟩ <;> rfl
theorem e_kNot (b : Bool) (h : St) : kNot (b, h) = some (!b, h) := id rfl
def kB : Bool × St → Option (Int32 × St) := fun q => some (if q.1 = true then 1 else 0, q.2)
theorem e_B (C : Cd) (f : Fr) (h : St) : dB C f h = ob (C f h) kB := id rfl
theorem e_kB (b : Bool) (h : St) : kB (b, h) = some (if b = true then 1 else 0, h) := id rfl
def kT2 {α : Type} (A B : Ex α) (f : Fr) : Bool × St → Option (α × St) := fun q => if q.1 = true then A f q.2 else B f q.2
theorem e_T {α : Type} (C : Cd) (A B : Ex α) (f : Fr) (h : St) : dT C A B f h = ob (C f h) (kT2 A B f) := id rfl
theorem e_kT {α : Type} (A B : Ex α) (f : Fr) (b : Bool) (h : St) : kT2 A B f (b, h) = if b = true then A f h else B f h := id rfl
def kNN : Nat × St → Option (Bool × St) := fun q => some (decide (q.1 ≠ 0), q.2)
theorem e_NN (A : Ex Nat) (f : Fr) (h : St) : dNN A f h = ob (A f h) kNN := id rfl
theorem e_kNN (x : Nat) (h : St) : kNN (x, h) = some (decide (x ≠ 0), h) := id rfl
def kNewA_a (t : Nat) : Int32 × St → Option (Nat × St) := fun x => if 0 ≤ x.1 ∧ x.1.toNatClampNeg ≤ 16777216 then some (hn x.2, wN x.2 (13 + t, x.1.toNatClampNeg) x.1.toNatClampNeg) else none
theorem e_NewA (t : Nat) (A : Ex Int32) (f : Fr) (h : St) : dNewA t A f h = ob (A f h) (kNewA_a t) := by
  unfold dNewA ob
  rcases A f h with _ | ⟨x, h1⟩ <;> rfl
theorem e_NewA_a (t : Nat) (x : Int32) (h : St) : kNewA_a t (x, h) = if 0 ≤ x ∧ x.toNatClampNeg ≤ 16777216 then some (hn h, wN h (13 + t, x.toNatClampNeg) x.toNatClampNeg) else none := id rfl
def kNewC (r : Nat) : Unit × St → Option (Nat × St) := fun x => some (r, x.2)
theorem e_NewC (cl : Nat) (D : Fr → St → Option (Unit × St)) (f : Fr) (h : St) : dNewC cl D f h = ob (D (sR fr0 0 (hn h)) (wN h (cl, 0) (clN cl))) (kNewC (hn h)) := by
  unfold dNewC ob
  rcases D (sR fr0 0 (hn h)) (wN h (cl, 0) (clN cl)) with _ | ⟨x, h1⟩ <;> rfl
theorem e_kNewC (r : Nat) (x : Unit) (h : St) : kNewC r (x, h) = some (r, h) := id rfl
theorem e_aN (f : Fr) (h : St) : aN f h = some (fr0, h) := id rfl
def kaI_b (i : Nat) (g : Fr) : Int32 × St → Option (Fr × St) := fun w => some (sI g i w.1, w.2)
def kaI_a (i : Nat) (a : Ex Int32) (f : Fr) : Fr × St → Option (Fr × St) := fun q => ob (a f q.2) (kaI_b i q.1)
theorem e_aI (A : Ag) (i : Nat) (a : Ex Int32) (f : Fr) (h : St) : aI A i a f h = ob (A f h) (kaI_a i a f) := id rfl
theorem e_aI_a (i : Nat) (a : Ex Int32) (f g : Fr) (h : St) : kaI_a i a f (g, h) = ob (a f h) (kaI_b i g) := id rfl
theorem e_aI_b (i : Nat) (g : Fr) (x : Int32) (h : St) : kaI_b i g (x, h) = some (sI g i x, h) := id rfl
def kaL_b (i : Nat) (g : Fr) : Int64 × St → Option (Fr × St) := fun w => some (sL g i w.1, w.2)
def kaL_a (i : Nat) (a : Ex Int64) (f : Fr) : Fr × St → Option (Fr × St) := fun q => ob (a f q.2) (kaL_b i q.1)
theorem e_aL (A : Ag) (i : Nat) (a : Ex Int64) (f : Fr) (h : St) : aL A i a f h = ob (A f h) (kaL_a i a f) := id rfl
theorem e_aL_a (i : Nat) (a : Ex Int64) (f g : Fr) (h : St) : kaL_a i a f (g, h) = ob (a f h) (kaL_b i g) := id rfl
theorem e_aL_b (i : Nat) (g : Fr) (x : Int64) (h : St) : kaL_b i g (x, h) = some (sL g i x, h) := id rfl
def kaR_b (i : Nat) (g : Fr) : Nat × St → Option (Fr × St) := fun w => some (sR g i w.1, w.2)
def kaR_a (i : Nat) (a : Ex Nat) (f : Fr) : Fr × St → Option (Fr × St) := fun q => ob (a f q.2) (kaR_b i q.1)
theorem e_aR (A : Ag) (i : Nat) (a : Ex Nat) (f : Fr) (h : St) : aR A i a f h = ob (A f h) (kaR_a i a f) := id rfl
theorem e_aR_a (i : Nat) (a : Ex Nat) (f g : Fr) (h : St) : kaR_a i a f (g, h) = ob (a f h) (kaR_b i g) := id rfl
theorem e_aR_b (i : Nat) (g : Fr) (x : Nat) (h : St) : kaR_b i g (x, h) = some (sR g i x, h) := id rfl
def kCall {α : Type} (D : Fr → St → Option (α × St)) : Fr × St → Option (α × St) := fun q => D q.1 q.2
def kCallV {α : Type} (cl : Nat) (D : Fr → St → Option (α × St)) : Fr × St → Option (α × St) := fun q => if (hk q.2 (gR q.1 0)).1 = cl then D q.1 q.2 else none
theorem e_Call {α : Type} (D : Fr → St → Option (α × St)) (A : Ag) (f : Fr) (h : St) : dCall D A f h = ob (A f h) (kCall D) := id rfl
theorem e_kCall {α : Type} (D : Fr → St → Option (α × St)) (g : Fr) (h : St) : kCall D (g, h) = D g h := id rfl
theorem e_CallV {α : Type} (cl : Nat) (D : Fr → St → Option (α × St)) (A : Ag) (f : Fr) (h : St) : dCallV cl D A f h = ob (A f h) (kCallV cl D) := id rfl
theorem e_kCallV {α : Type} (cl : Nat) (D : Fr → St → Option (α × St)) (g : Fr) (h : St) : kCallV cl D (g, h) = if (hk h (gR g 0)).1 = cl then D g h else none := id rfl
def kSetI {α : Type} (i : Nat) (f : Fr) : Int32 × St → Option ((Nat ⊕ α) × Fr × St) := fun x => some (.inl 0, sI f i x.1, x.2)
theorem e_SetI {α : Type} (i : Nat) (A : Ex Int32) (f : Fr) (h : St) : (dSetI i A : Sm α) f h = ob (A f h) (kSetI i f) := by
  unfold dSetI ob
  rcases A f h with _ | ⟨x, h1⟩ <;> rfl
theorem e_kSetI {α : Type} (i : Nat) (f : Fr) (x : Int32) (h : St) : (kSetI i f (x, h) : Option ((Nat ⊕ α) × Fr × St)) = some (.inl 0, sI f i x, h) := id rfl
def kSetL {α : Type} (i : Nat) (f : Fr) : Int64 × St → Option ((Nat ⊕ α) × Fr × St) := fun x => some (.inl 0, sL f i x.1, x.2)
theorem e_SetL {α : Type} (i : Nat) (A : Ex Int64) (f : Fr) (h : St) : (dSetL i A : Sm α) f h = ob (A f h) (kSetL i f) := by
  unfold dSetL ob
  rcases A f h with _ | ⟨x, h1⟩ <;> rfl
theorem e_kSetL {α : Type} (i : Nat) (f : Fr) (x : Int64) (h : St) : (kSetL i f (x, h) : Option ((Nat ⊕ α) × Fr × St)) = some (.inl 0, sL f i x, h) := id rfl
def kSetR {α : Type} (i : Nat) (f : Fr) : Nat × St → Option ((Nat ⊕ α) × Fr × St) := fun x => some (.inl 0, sR f i x.1, x.2)
theorem e_SetR {α : Type} (i : Nat) (A : Ex Nat) (f : Fr) (h : St) : (dSetR i A : Sm α) f h = ob (A f h) (kSetR i f) := by
  unfold dSetR ob
  rcases A f h with _ | ⟨x, h1⟩ <;> rfl
theorem e_kSetR {α : Type} (i : Nat) (f : Fr) (x : Nat) (h : St) : (kSetR i f (x, h) : Option ((Nat ⊕ α) × Fr × St)) = some (.inl 0, sR f i x, h) := id rfl
theorem e_Inc {α : Type} (i : Nat) (n : Int32) (f : Fr) (h : St) : (dInc i n : Sm α) f h = some (.inl 0, sI f i (gI f i + n), h) := id rfl
theorem e_Skip {α : Type} (f : Fr) (h : St) : (dSkip : Sm α) f h = some (.inl 0, f, h) := id rfl
theorem e_Brk {α : Type} (f : Fr) (h : St) : (dBrk : Sm α) f h = some (.inl 1, f, h) := id rfl
theorem e_Cnt {α : Type} (f : Fr) (h : St) : (dCnt : Sm α) f h = some (.inl 2, f, h) := id rfl
def kRet {α : Type} (f : Fr) : α × St → Option ((Nat ⊕ α) × Fr × St) := fun q => some (.inr q.1, f, q.2)
theorem e_Ret {α : Type} (A : Ex α) (f : Fr) (h : St) : dRet A f h = ob (A f h) (kRet f) := id rfl
theorem e_kRet {α : Type} (f : Fr) (x : α) (h : St) : kRet f (x, h) = some (.inr x, f, h) := id rfl
theorem e_Ret0 (f : Fr) (h : St) : dRet0 f h = some (.inr (), f, h) := id rfl
def kSeq {α : Type} (T : Sm α) : (Nat ⊕ α) × Fr × St → Option ((Nat ⊕ α) × Fr × St) := fun q => Sum.elim (fun n => if n = 0 then T q.2.1 q.2.2 else some (.inl n, q.2)) (fun v => some (.inr v, q.2)) q.1
theorem e_Seq {α : Type} (S T : Sm α) (f : Fr) (h : St) : dSeq S T f h = ob (S f h) (kSeq T) := id rfl
theorem e_kSeq0 {α : Type} (T : Sm α) (f : Fr) (h : St) : kSeq T (.inl 0, f, h) = T f h := id rfl
theorem e_kSeq1 {α : Type} (T : Sm α) (f : Fr) (h : St) : kSeq T (.inl 1, f, h) = some (.inl 1, f, h) := id rfl
theorem e_kSeq2 {α : Type} (T : Sm α) (f : Fr) (h : St) : kSeq T (.inl 2, f, h) = some (.inl 2, f, h) := id rfl
theorem e_kSeqR {α : Type} (T : Sm α) (v : α) (f : Fr) (h : St) : kSeq T (.inr v, f, h) = some (.inr v, f, h) := id rfl
def kIf {α : Type} (S T : Sm α) (f : Fr) : Bool × St → Option ((Nat ⊕ α) × Fr × St) := fun q => if q.1 = true then S f q.2 else T f q.2
theorem e_If {α : Type} (C : Cd) (S T : Sm α) (f : Fr) (h : St) : dIf C S T f h = ob (C f h) (kIf S T f) := id rfl
theorem e_kIf {α : Type} (S T : Sm α) (f : Fr) (b : Bool) (h : St) : kIf S T f (b, h) = if b = true then S f h else T f h := id rfl
def kDo {α β : Type} (f : Fr) : β × St → Option ((Nat ⊕ α) × Fr × St) := fun q => some (.inl 0, f, q.2)
theorem e_Do {α β : Type} (E : Ex β) (f : Fr) (h : St) : (dDo E : Sm α) f h = ob (E f h) (kDo f) := id rfl
theorem e_kDo {α β : Type} (f : Fr) (x : β) (h : St) : (kDo f (x, h) : Option ((Nat ⊕ α) × Fr × St)) = some (.inl 0, f, h) := id rfl
theorem e_Sup {α : Type} (f : Fr) (h : St) : (dSup : Sm α) f h = if gR f 0 = 0 then none else some (.inl 0, f, h) := id rfl
def kN0 {α : Type} (f : Fr) : St → Option ((Nat ⊕ α) × Fr × St) := fun h2 => some (.inl 0, f, h2)
theorem e_kN0 {α : Type} (f : Fr) (h : St) : (kN0 f h : Option ((Nat ⊕ α) × Fr × St)) = some (.inl 0, f, h) := id rfl
def k3c {α β γ δ : Type} (g : β → γ → δ → St → Option St) (a : β) (b : γ) (f : Fr) : δ × St → Option ((Nat ⊕ α) × Fr × St) := fun v => ob (g a b v.1 v.2) (kN0 f)
def k3b {α β γ δ : Type} (g : β → γ → δ → St → Option St) (a : β) (V : Ex δ) (f : Fr) : γ × St → Option ((Nat ⊕ α) × Fr × St) := fun b => ob (V f b.2) (k3c g a b.1 f)
def k3a {α β γ δ : Type} (g : β → γ → δ → St → Option St) (B : Ex γ) (V : Ex δ) (f : Fr) : β × St → Option ((Nat ⊕ α) × Fr × St) := fun a => ob (B f a.2) (k3b g a.1 V f)
theorem e_d3 {α β γ δ : Type} (g : β → γ → δ → St → Option St) (A : Ex β) (B : Ex γ) (V : Ex δ) (f : Fr) (h : St) : (d3 g A B V : Sm α) f h = ob (A f h) (k3a g B V f) := id rfl
theorem e_k3a {α β γ δ : Type} (g : β → γ → δ → St → Option St) (B : Ex γ) (V : Ex δ) (f : Fr) (a : β) (h : St) : (k3a g B V f (a, h) : Option ((Nat ⊕ α) × Fr × St)) = ob (B f h) (k3b g a V f) := id rfl
theorem e_k3b {α β γ δ : Type} (g : β → γ → δ → St → Option St) (a : β) (V : Ex δ) (f : Fr) (b : γ) (h : St) : (k3b g a V f (b, h) : Option ((Nat ⊕ α) × Fr × St)) = ob (V f h) (k3c g a b f) := id rfl
theorem e_k3c {α β γ δ : Type} (g : β → γ → δ → St → Option St) (a : β) (b : γ) (f : Fr) (v : δ) (h : St) : (k3c g a b f (v, h) : Option ((Nat ⊕ α) × Fr × St)) = ob (g a b v h) (kN0 f) := id rfl
def kPb {α β γ : Type} (g : β → γ → St → Option St) (a : β) (f : Fr) : γ × St → Option ((Nat ⊕ α) × Fr × St) := fun v => ob (g a v.1 v.2) (kN0 f)
def kPa {α β γ : Type} (g : β → γ → St → Option St) (V : Ex γ) (f : Fr) : β × St → Option ((Nat ⊕ α) × Fr × St) := fun a => ob (V f a.2) (kPb g a.1 f)
theorem e_P {α β γ : Type} (g : β → γ → St → Option St) (A : Ex β) (V : Ex γ) (f : Fr) (h : St) : (dP g A V : Sm α) f h = ob (A f h) (kPa g V f) := id rfl
theorem e_kPa {α β γ : Type} (g : β → γ → St → Option St) (V : Ex γ) (f : Fr) (a : β) (h : St) : (kPa g V f (a, h) : Option ((Nat ⊕ α) × Fr × St)) = ob (V f h) (kPb g a f) := id rfl
theorem e_kPb {α β γ : Type} (g : β → γ → St → Option St) (a : β) (f : Fr) (v : γ) (h : St) : (kPb g a f (v, h) : Option ((Nat ⊕ α) × Fr × St)) = ob (g a v h) (kN0 f) := id rfl
def kUAc {α : Type} (g : Int32 → Int32 → Int32) (a : Nat) (i x : Int32) (f : Fr) : Int32 × St → Option ((Nat ⊕ α) × Fr × St) := fun v => ob (stI 13 idI a i (g x v.1) v.2) (kN0 f)
def kUAb {α : Type} (g : Int32 → Int32 → Int32) (a : Nat) (V : Ex Int32) (f : Fr) : Int32 × St → Option ((Nat ⊕ α) × Fr × St) := fun i => if (hk i.2 a).1 = 13 ∧ inb i.1 (hk i.2 a).2 = true then ob (V f i.2) (kUAc g a i.1 (hi i.2 a i.1.toNatClampNeg) f) else none
def kUAa {α : Type} (g : Int32 → Int32 → Int32) (I V : Ex Int32) (f : Fr) : Nat × St → Option ((Nat ⊕ α) × Fr × St) := fun a => ob (I f a.2) (kUAb g a.1 V f)
theorem e_UA {α : Type} (g : Int32 → Int32 → Int32) (A : Ex Nat) (I V : Ex Int32) (f : Fr) (h : St) : (dUA g A I V : Sm α) f h = ob (A f h) (kUAa g I V f) := id rfl
theorem e_kUAa {α : Type} (g : Int32 → Int32 → Int32) (I V : Ex Int32) (f : Fr) (a : Nat) (h : St) : (kUAa g I V f (a, h) : Option ((Nat ⊕ α) × Fr × St)) = ob (I f h) (kUAb g a V f) := id rfl
theorem e_kUAb {α : Type} (g : Int32 → Int32 → Int32) (a : Nat) (V : Ex Int32) (f : Fr) (i : Int32) (h : St) : (kUAb g a V f (i, h) : Option ((Nat ⊕ α) × Fr × St)) = if (hk h a).1 = 13 ∧ inb i (hk h a).2 = true then ob (V f h) (kUAc g a i (hi h a i.toNatClampNeg) f) else none := id rfl
theorem e_kUAc {α : Type} (g : Int32 → Int32 → Int32) (a : Nat) (i x : Int32) (f : Fr) (v : Int32) (h : St) : (kUAc g a i x f (v, h) : Option ((Nat ⊕ α) × Fr × St)) = ob (stI 13 idI a i (g x v) h) (kN0 f) := id rfl
def kULc {α : Type} (g : Int64 → Int64 → Int64) (a : Nat) (i : Int32) (x : Int64) (f : Fr) : Int64 × St → Option ((Nat ⊕ α) × Fr × St) := fun v => ob (stL a i (g x v.1) v.2) (kN0 f)
def kULb {α : Type} (g : Int64 → Int64 → Int64) (a : Nat) (V : Ex Int64) (f : Fr) : Int32 × St → Option ((Nat ⊕ α) × Fr × St) := fun i => if (hk i.2 a).1 = 16 ∧ inb i.1 (hk i.2 a).2 = true then ob (V f i.2) (kULc g a i.1 (hl i.2 a i.1.toNatClampNeg) f) else none
def kULa {α : Type} (g : Int64 → Int64 → Int64) (I : Ex Int32) (V : Ex Int64) (f : Fr) : Nat × St → Option ((Nat ⊕ α) × Fr × St) := fun a => ob (I f a.2) (kULb g a.1 V f)
theorem e_UL {α : Type} (g : Int64 → Int64 → Int64) (A : Ex Nat) (I : Ex Int32) (V : Ex Int64) (f : Fr) (h : St) : (dUL g A I V : Sm α) f h = ob (A f h) (kULa g I V f) := id rfl
theorem e_kULa {α : Type} (g : Int64 → Int64 → Int64) (I : Ex Int32) (V : Ex Int64) (f : Fr) (a : Nat) (h : St) : (kULa g I V f (a, h) : Option ((Nat ⊕ α) × Fr × St)) = ob (I f h) (kULb g a V f) := id rfl
theorem e_kULb {α : Type} (g : Int64 → Int64 → Int64) (a : Nat) (V : Ex Int64) (f : Fr) (i : Int32) (h : St) : (kULb g a V f (i, h) : Option ((Nat ⊕ α) × Fr × St)) = if (hk h a).1 = 16 ∧ inb i (hk h a).2 = true then ob (V f h) (kULc g a i (hl h a i.toNatClampNeg) f) else none := id rfl
theorem e_kULc {α : Type} (g : Int64 → Int64 → Int64) (a : Nat) (i : Int32) (x : Int64) (f : Fr) (v : Int64) (h : St) : (kULc g a i x f (v, h) : Option ((Nat ⊕ α) × Fr × St)) = ob (stL a i (g x v) h) (kN0 f) := id rfl
def kUFb {α : Type} (cl k : Nat) (g : Int32 → Int32 → Int32) (a : Nat) (x : Int32) (f : Fr) : Int32 × St → Option ((Nat ⊕ α) × Fr × St) := fun v => ob (fI cl k a (g x v.1) v.2) (kN0 f)
def kUFa {α : Type} (cl k : Nat) (g : Int32 → Int32 → Int32) (V : Ex Int32) (f : Fr) : Nat × St → Option ((Nat ⊕ α) × Fr × St) := fun a => if (hk a.2 a.1).1 = cl then ob (V f a.2) (kUFb cl k g a.1 (hi a.2 a.1 k) f) else none
theorem e_UF {α : Type} (cl k : Nat) (g : Int32 → Int32 → Int32) (A : Ex Nat) (V : Ex Int32) (f : Fr) (h : St) : (dUF cl k g A V : Sm α) f h = ob (A f h) (kUFa cl k g V f) := id rfl
theorem e_kUFa {α : Type} (cl k : Nat) (g : Int32 → Int32 → Int32) (V : Ex Int32) (f : Fr) (a : Nat) (h : St) : (kUFa cl k g V f (a, h) : Option ((Nat ⊕ α) × Fr × St)) = if (hk h a).1 = cl then ob (V f h) (kUFb cl k g a (hi h a k) f) else none := id rfl
theorem e_kUFb {α : Type} (cl k : Nat) (g : Int32 → Int32 → Int32) (a : Nat) (x : Int32) (f : Fr) (v : Int32) (h : St) : (kUFb cl k g a x f (v, h) : Option ((Nat ⊕ α) × Fr × St)) = ob (fI cl k a (g x v) h) (kN0 f) := id rfl
def kCp {α : Type} (t : Nat) (f : Fr) : Fr × St → Option ((Nat ⊕ α) × Fr × St) := fun q => ob (cpF t q.1 q.2) (kN0 f)
theorem e_Cp {α : Type} (t : Nat) (A : Ag) (f : Fr) (h : St) : (dCp t A : Sm α) f h = ob (A f h) (kCp t f) := id rfl
theorem e_kCp {α : Type} (t : Nat) (f g : Fr) (h : St) : (kCp t f (g, h) : Option ((Nat ⊕ α) × Fr × St)) = ob (cpF t g h) (kN0 f) := id rfl
def kSwb {α : Type} : (Nat ⊕ α) × Fr × St → Option ((Nat ⊕ α) × Fr × St) := fun w => some (Sum.elim (fun n => if n = 1 then .inl 0 else .inl n) (fun v => .inr v) w.1, w.2)
def kSwa {α : Type} (lo : Int) (cs : List (Sm α)) (df : Sm α) (f : Fr) : Int32 × St → Option ((Nat ⊕ α) × Fr × St) := fun q => ob (((if lo ≤ q.1.toInt then cs[(q.1.toInt - lo).toNat]? else none).getD df) f q.2) kSwb
theorem e_Sw {α : Type} (lo : Int) (A : Ex Int32) (cs : List (Sm α)) (df : Sm α) (f : Fr) (h : St) : dSw lo A cs df f h = ob (A f h) (kSwa lo cs df f) := id rfl
theorem e_kSwa {α : Type} (lo : Int) (cs : List (Sm α)) (df : Sm α) (f : Fr) (x : Int32) (h : St) : kSwa lo cs df f (x, h) = ob (((if lo ≤ x.toInt then cs[(x.toInt - lo).toNat]? else none).getD df) f h) kSwb := id rfl
theorem e_kSwb0 {α : Type} (f : Fr) (h : St) : (kSwb (.inl 0, f, h) : Option ((Nat ⊕ α) × Fr × St)) = some (.inl 0, f, h) := id rfl
theorem e_kSwb1 {α : Type} (f : Fr) (h : St) : (kSwb (.inl 1, f, h) : Option ((Nat ⊕ α) × Fr × St)) = some (.inl 0, f, h) := id rfl
theorem e_kSwbR {α : Type} (v : α) (f : Fr) (h : St) : (kSwb (.inr v, f, h) : Option ((Nat ⊕ α) × Fr × St)) = some (.inr v, f, h) := id rfl
def kM1 {α : Type} : (Nat ⊕ α) × Fr × St → Option (α × St) := fun q => Sum.elim (fun _ => none) (fun v => some (v, q.2.2)) q.1
def kMZ : (Nat ⊕ Int32) × Fr × St → Option (Int32 × St) := fun q => Sum.elim (fun _ => none) (fun v => if v = 0 ∨ v = 1 then some (v, q.2.2) else none) q.1
def kMN (ty : FieldType) : (Nat ⊕ Int32) × Fr × St → Option (Int32 × St) := fun q => Sum.elim (fun _ => none) (fun v => if vp_nar ty v = v then some (v, q.2.2) else none) q.1
theorem e_M1 {α : Type} (cn : Fr → Fr) (S : Sm α) (f : Fr) (h : St) : M1 cn S f h = ob (S (cn f) h) kM1 := id rfl
theorem e_kM1 {α : Type} (v : α) (f : Fr) (h : St) : kM1 (.inr v, f, h) = some (v, h) := id rfl
theorem e_MZ (cn : Fr → Fr) (S : Sm Int32) (f : Fr) (h : St) : MZ cn S f h = ob (S (cn f) h) kMZ := id rfl
theorem e_kMZ (v : Int32) (f : Fr) (h : St) : kMZ (.inr v, f, h) = if v = 0 ∨ v = 1 then some (v, h) else none := id rfl
theorem e_MN (ty : FieldType) (cn : Fr → Fr) (S : Sm Int32) (f : Fr) (h : St) : MN ty cn S f h = ob (S (cn f) h) (kMN ty) := id rfl
theorem e_kMN (ty : FieldType) (v : Int32) (f : Fr) (h : St) : kMN ty (.inr v, f, h) = if vp_nar ty v = v then some (v, h) else none := id rfl
def kTv : Nat × St → Option (Nat × St) := fun a => if (hk a.2 a.1).1 = 19 then some (a.1 + 14, a.2) else none
def kTc : Nat × St → Option (Int32 × St) := fun a => if (hk a.2 a.1).1 = 19 then some (0, a.2) else none
theorem e_Tv (A : Ex Nat) (f : Fr) (h : St) : dTv A f h = ob (A f h) kTv := id rfl
theorem e_kTv (a : Nat) (h : St) : kTv (a, h) = if (hk h a).1 = 19 then some (a + 14, h) else none := id rfl
theorem e_Tc (A : Ex Nat) (f : Fr) (h : St) : dTc A f h = ob (A f h) kTc := id rfl
theorem e_kTc (a : Nat) (h : St) : kTc (a, h) = if (hk h a).1 = 19 then some (0, h) else none := id rfl
def kLpU {α : Type} (cn : Fr → Fr) : (Nat ⊕ α) × Fr × St → Option ((Fr × St) ⊕ ((Nat ⊕ α) × Fr × St)) := fun z => Sum.elim (fun n => if n = 0 then some (.inl (cn z.2.1, z.2.2)) else none) (fun _ => none) z.1
def kLpB {α : Type} (cn : Fr → Fr) (U : Sm α) : (Nat ⊕ α) × Fr × St → Option ((Fr × St) ⊕ ((Nat ⊕ α) × Fr × St)) := fun w => Sum.elim (fun n => if n = 1 then some (.inr (.inl 0, cn w.2.1, w.2.2)) else ob (U w.2.1 w.2.2) (kLpU cn)) (fun v => some (.inr (.inr v, w.2))) w.1
def kLp {α : Type} (cn : Fr → Fr) (B U : Sm α) (f : Fr) : Bool × St → Option ((Fr × St) ⊕ ((Nat ⊕ α) × Fr × St)) := fun q => if q.1 = true then ob (B f q.2) (kLpB cn U) else some (.inr (.inl 0, f, q.2))
theorem e_lpS {α : Type} (cn : Fr → Fr) (C : Cd) (B U : Sm α) (f : Fr) (h : St) : lpS cn C B U (f, h) = ob (C f h) (kLp cn B U f) := id rfl
theorem e_kLp {α : Type} (cn : Fr → Fr) (B U : Sm α) (f : Fr) (b : Bool) (h : St) : kLp cn B U f (b, h) = if b = true then ob (B f h) (kLpB cn U) else some (.inr (.inl 0, f, h)) := id rfl
theorem e_kLpB0 {α : Type} (cn : Fr → Fr) (U : Sm α) (f : Fr) (h : St) : kLpB cn U (.inl 0, f, h) = ob (U f h) (kLpU cn) := id rfl
theorem e_kLpB1 {α : Type} (cn : Fr → Fr) (U : Sm α) (f : Fr) (h : St) : kLpB cn U (.inl 1, f, h) = some (.inr (.inl 0, cn f, h)) := id rfl
theorem e_kLpB2 {α : Type} (cn : Fr → Fr) (U : Sm α) (f : Fr) (h : St) : kLpB cn U (.inl 2, f, h) = ob (U f h) (kLpU cn) := id rfl
theorem e_kLpBR {α : Type} (cn : Fr → Fr) (U : Sm α) (v : α) (f : Fr) (h : St) : kLpB cn U (.inr v, f, h) = some (.inr (.inr v, f, h)) := id rfl
theorem e_kLpU {α : Type} (cn : Fr → Fr) (f : Fr) (h : St) : (kLpU cn (.inl 0, f, h) : Option ((Fr × St) ⊕ ((Nat ⊕ α) × Fr × St))) = some (.inl (cn f, h)) := id rfl
def kDwC {α : Type} (cn : Fr → Fr) (f : Fr) : Bool × St → Option ((Fr × St) ⊕ ((Nat ⊕ α) × Fr × St)) := fun q => if q.1 = true then some (.inl (cn f, q.2)) else some (.inr (.inl 0, cn f, q.2))
def kDwB {α : Type} (cn : Fr → Fr) (C : Cd) : (Nat ⊕ α) × Fr × St → Option ((Fr × St) ⊕ ((Nat ⊕ α) × Fr × St)) := fun w => Sum.elim (fun n => if n = 1 then some (.inr (.inl 0, cn w.2.1, w.2.2)) else ob (C w.2.1 w.2.2) (kDwC cn w.2.1)) (fun v => some (.inr (.inr v, w.2))) w.1
theorem e_dwS {α : Type} (cn : Fr → Fr) (B : Sm α) (C : Cd) (f : Fr) (h : St) : dwS cn B C (f, h) = ob (B f h) (kDwB cn C) := id rfl
theorem e_kDwB0 {α : Type} (cn : Fr → Fr) (C : Cd) (f : Fr) (h : St) : (kDwB cn C (.inl 0, f, h) : Option ((Fr × St) ⊕ ((Nat ⊕ α) × Fr × St))) = ob (C f h) (kDwC cn f) := id rfl
theorem e_kDwC {α : Type} (cn : Fr → Fr) (f : Fr) (b : Bool) (h : St) : (kDwC cn f (b, h) : Option ((Fr × St) ⊕ ((Nat ⊕ α) × Fr × St))) = if b = true then some (.inl (cn f, h)) else some (.inr (.inl 0, cn f, h)) := id rfl
theorem e_Loop {α : Type} (cn : Fr → Fr) (C : Cd) (B U : Sm α) (f : Fr) (h : St) : dLoop cn C B U f h = iter (lpS cn C B U) (cn f, h) := id rfl
theorem e_DoW {α : Type} (cn : Fr → Fr) (B : Sm α) (C : Cd) (f : Fr) (h : St) : dDoW cn B C f h = iter (dwS cn B C) (cn f, h) := id rfl
/-- a loop by its states: from the first to where it is left -/
theorem iter_run {σ β : Type} {B : σ → Option (σ ⊕ β)} (s : Nat → σ) (b : β) : ∀ (n k : Nat), (∀ j, k ≤ j → j < k + n → B (s j) = some (.inl (s (j + 1)))) → B (s (k + n)) = some (.inr b) → iter B (s k) = some b := by
  intro n
  induction n with
  | zero => intro k _ h2; exact iter_inr h2
  | succ n ih =>
    intro k h1 h2
    rw [iter_inl (h1 k (Nat.le_refl _) (by omega))]
    exact ih (k + 1) (fun j a b => h1 j (by omega) (by omega)) (by rw [show k + 1 + n = k + (n + 1) by omega]; exact h2)
theorem iter_upto {σ β : Type} {B : σ → Option (σ ⊕ β)} (s : Nat → σ) (b : β) (N : Nat) (h1 : ∀ j, j < N → B (s j) = some (.inl (s (j + 1)))) (h2 : B (s N) = some (.inr b)) : iter B (s 0) = some b :=
  iter_run s b N 0 (fun j _ k => h1 j (by omega)) (by rw [Nat.zero_add]; exact h2)
theorem iter_upto2 {σ β : Type} {B : σ → Option (σ ⊕ β)} (s : Nat → σ) (b : β) (N : Nat) {s0 : σ} (h0 : s0 = s 0) (h1 : ∀ j, j < N → B (s j) = some (.inl (s (j + 1)))) (h2 : B (s N) = some (.inr b)) : iter B s0 = some b := by
  rw [h0]
  exact iter_upto s b N h1 h2
/-- a loop by what holds of its states; it may be left early -/
theorem iter_ind {σ β : Type} {B : σ → Option (σ ⊕ β)} (I : Nat → σ → Prop) (Q : β → Prop) (N : Nat) (h1 : ∀ k s, k < N → I k s → (∃ s', B s = some (.inl s') ∧ I (k + 1) s') ∨ ∃ b, B s = some (.inr b) ∧ Q b) (h2 : ∀ s, I N s → ∃ b, B s = some (.inr b) ∧ Q b) : ∀ (n k : Nat) (s : σ), k + n = N → I k s → ∃ b, iter B s = some b ∧ Q b := by
  intro n
  induction n with
  | zero =>
    intro k s hk hI
    have hk : k = N := hk
    subst hk
    obtain ⟨b, e, q⟩ := h2 s hI
    exact ⟨b, iter_inr e, q⟩
  | succ n ih =>
    intro k s hk hI
    rcases h1 k s (by omega) hI with ⟨s', e, hI'⟩ | ⟨b, e, q⟩
    · obtain ⟨b, e2, q⟩ := ih (k + 1) s' (by omega) hI'
      exact ⟨b, by rw [iter_inl e]; exact e2, q⟩
    · exact ⟨b, iter_inr e, q⟩
theorem iter_ind0 {σ β : Type} {B : σ → Option (σ ⊕ β)} (I : Nat → σ → Prop) (Q : β → Prop) (N : Nat) {s0 : σ} (h0 : I 0 s0) (h1 : ∀ k s, k < N → I k s → (∃ s', B s = some (.inl s') ∧ I (k + 1) s') ∨ ∃ b, B s = some (.inr b) ∧ Q b) (h2 : ∀ s, I N s → ∃ b, B s = some (.inr b) ∧ Q b) : ∃ b, iter B s0 = some b ∧ Q b := iter_ind I Q N h1 h2 N 0 s0 (Nat.zero_add N) h0
