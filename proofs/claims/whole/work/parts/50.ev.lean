/-! EVALUATION: each combinator by what may be missing and what comes of it -/
theorem ob_n {α β : Type} (k : α → Option β) : ob none k = none := rfl
theorem ob_ite {α β : Type} (c : Prop) (d : Decidable c) (x y : Option α) (k : α → Option β) : ob (@ite _ c d x y) k = @ite _ c d (ob x k) (ob y k) := by
  by_cases h : c
  · rw [if_pos h, if_pos h]
  · rw [if_neg h, if_neg h]
section
variable (f : Fr) (h : St)
theorem e_cI (n : Int32) : cI n f h = some (n, h) := rfl
theorem e_cL (n : Int64) : cL n f h = some (n, h) := rfl
theorem e_cR (n : Nat) : cR n f h = some (n, h) := rfl
theorem e_vI (i : Nat) : vI i f h = some (gI f i, h) := rfl
theorem e_vL (i : Nat) : vL i f h = some (gL f i, h) := rfl
theorem e_vR (i : Nat) : vR i f h = some (gR f i, h) := rfl
theorem e_d2 {α β γ : Type} (g : α → β → γ) (A : Ex α) (B : Ex β) : d2 g A B f h = ob (A f h) fun x => ob (B f x.2) fun y => some (g x.1 y.1, y.2) := by
  unfold d2 ob
  rcases A f h with _ | ⟨x, h1⟩
  · rfl
  · dsimp only
    rcases B f h1 with _ | ⟨y, h2⟩ <;> rfl
theorem e_d2z {α : Type} [Zero α] [DecidableEq α] (g : α → α → α) (A B : Ex α) : d2z g A B f h = ob (A f h) fun x => ob (B f x.2) fun y => if y.1 = 0 then none else some (g x.1 y.1, y.2) := by
  unfold d2z ob
  rcases A f h with _ | ⟨x, h1⟩
  · rfl
  · dsimp only
    rcases B f h1 with _ | ⟨y, h2⟩ <;> rfl
theorem e_d1 {α β : Type} (g : α → β) (A : Ex α) : d1 g A f h = ob (A f h) fun x => some (g x.1, x.2) := by
  unfold d1 ob
  rcases A f h with _ | ⟨x, h1⟩ <;> rfl
theorem e_GI (cl k : Nat) (A : Ex Nat) : dGI cl k A f h = ob (A f h) fun x => if (hk x.2 x.1).1 = cl then some (hi x.2 x.1 k, x.2) else none := by
  unfold dGI ob
  rcases A f h with _ | ⟨x, h1⟩ <;> rfl
theorem e_GL (cl k : Nat) (A : Ex Nat) : dGL cl k A f h = ob (A f h) fun x => if (hk x.2 x.1).1 = cl then some (hl x.2 x.1 k, x.2) else none := by
  unfold dGL ob
  rcases A f h with _ | ⟨x, h1⟩ <;> rfl
theorem e_GR (cl k : Nat) (A : Ex Nat) : dGR cl k A f h = ob (A f h) fun x => if (hk x.2 x.1).1 = cl then some (hr x.2 x.1 k, x.2) else none := by
  unfold dGR ob
  rcases A f h with _ | ⟨x, h1⟩ <;> rfl
theorem e_AI (A : Ex Nat) (B : Ex Int32) : dAI A B f h = ob (A f h) fun x => ob (B f x.2) fun y => if ((hk y.2 x.1).1 = 13 ∨ (hk y.2 x.1).1 = 18) ∧ inb y.1 (hk y.2 x.1).2 = true then some (hi y.2 x.1 y.1.toNatClampNeg, y.2) else none := by
  unfold dAI ob
  rcases A f h with _ | ⟨x, h1⟩
  · rfl
  · dsimp only
    rcases B f h1 with _ | ⟨y, h2⟩ <;> rfl
theorem e_AB (A : Ex Nat) (B : Ex Int32) : dAB A B f h = ob (A f h) fun x => ob (B f x.2) fun y => if ((hk y.2 x.1).1 = 14 ∨ (hk y.2 x.1).1 = 20) ∧ inb y.1 (hk y.2 x.1).2 = true then some (hi y.2 x.1 y.1.toNatClampNeg, y.2) else none := by
  unfold dAB ob
  rcases A f h with _ | ⟨x, h1⟩
  · rfl
  · dsimp only
    rcases B f h1 with _ | ⟨y, h2⟩ <;> rfl
theorem e_AZ (A : Ex Nat) (B : Ex Int32) : dAZ A B f h = ob (A f h) fun x => ob (B f x.2) fun y => if (hk y.2 x.1).1 = 15 ∧ inb y.1 (hk y.2 x.1).2 = true then some (hi y.2 x.1 y.1.toNatClampNeg, y.2) else none := by
  unfold dAZ ob
  rcases A f h with _ | ⟨x, h1⟩
  · rfl
  · dsimp only
    rcases B f h1 with _ | ⟨y, h2⟩ <;> rfl
theorem e_AL (A : Ex Nat) (B : Ex Int32) : dAL A B f h = ob (A f h) fun x => ob (B f x.2) fun y => if (hk y.2 x.1).1 = 16 ∧ inb y.1 (hk y.2 x.1).2 = true then some (hl y.2 x.1 y.1.toNatClampNeg, y.2) else none := by
  unfold dAL ob
  rcases A f h with _ | ⟨x, h1⟩
  · rfl
  · dsimp only
    rcases B f h1 with _ | ⟨y, h2⟩ <;> rfl
theorem e_AR (A : Ex Nat) (B : Ex Int32) : dAR A B f h = ob (A f h) fun x => ob (B f x.2) fun y => if (hk y.2 x.1).1 = 17 ∧ inb y.1 (hk y.2 x.1).2 = true then some (hr y.2 x.1 y.1.toNatClampNeg, y.2) else none := by
  unfold dAR ob
  rcases A f h with _ | ⟨x, h1⟩
  · rfl
  · dsimp only
    rcases B f h1 with _ | ⟨y, h2⟩ <;> rfl
theorem e_Len (A : Ex Nat) : dLen A f h = ob (A f h) fun x => if 13 ≤ (hk x.2 x.1).1 ∧ (hk x.2 x.1).1 ≤ 18 ∨ (hk x.2 x.1).1 = 20 then some (Int32.ofNat (hk x.2 x.1).2, x.2) else none := by
  unfold dLen ob
  rcases A f h with _ | ⟨x, h1⟩ <;> rfl
theorem e_CI (g : Int32 → Int32 → Bool) (A B : Ex Int32) : dCI g A B f h = ob (A f h) fun x => ob (B f x.2) fun y => some (g x.1 y.1, y.2) := by
  unfold dCI ob
  rcases A f h with _ | ⟨x, h1⟩
  · rfl
  · dsimp only
    rcases B f h1 with _ | ⟨y, h2⟩ <;> rfl
theorem e_CZ (g : Int32 → Bool) (A : Ex Int32) : dCZ g A f h = ob (A f h) fun x => some (g x.1, x.2) := by
  unfold dCZ ob
  rcases A f h with _ | ⟨x, h1⟩ <;> rfl
theorem e_And (C D : Cd) : dAnd C D f h = ob (C f h) fun q => if q.1 = true then D f q.2 else some (false, q.2) := by
  unfold dAnd ob
  rcases C f h with _ | ⟨b, h1⟩
  · rfl
  · cases b <;> rfl
theorem e_Or (C D : Cd) : dOr C D f h = ob (C f h) fun q => if q.1 = true then some (true, q.2) else D f q.2 := by
  unfold dOr ob
  rcases C f h with _ | ⟨b, h1⟩
  · rfl
  · cases b <;> rfl
theorem e_Not (C : Cd) : dNot C f h = ob (C f h) fun q => some (!q.1, q.2) := by
  unfold dNot ob
  rcases C f h with _ | ⟨b, h1⟩ <;> rfl
theorem e_B (C : Cd) : dB C f h = ob (C f h) fun q => some (if q.1 = true then 1 else 0, q.2) := rfl
theorem e_T {α : Type} (C : Cd) (A B : Ex α) : dT C A B f h = ob (C f h) fun q => if q.1 = true then A f q.2 else B f q.2 := rfl
theorem e_NN (A : Ex Nat) : dNN A f h = ob (A f h) fun q => some (decide (q.1 ≠ 0), q.2) := rfl
theorem e_NewA (t : Nat) (A : Ex Int32) : dNewA t A f h = ob (A f h) fun x => if 0 ≤ x.1 ∧ x.1.toNatClampNeg ≤ 16777216 then some (hn x.2, wN x.2 (13 + t, x.1.toNatClampNeg) x.1.toNatClampNeg) else none := by
  unfold dNewA ob
  rcases A f h with _ | ⟨x, h1⟩ <;> rfl
theorem e_NewC (cl : Nat) (D : Fr → St → Option (Unit × St)) : dNewC cl D f h = ob (D (sR fr0 0 (hn h)) (wN h (cl, 0) (clN cl))) fun x => some (hn h, x.2) := by
  unfold dNewC ob
  rcases D (sR fr0 0 (hn h)) (wN h (cl, 0) (clN cl)) with _ | ⟨x, h1⟩ <;> rfl
theorem e_aN : aN f h = some (fr0, h) := rfl
theorem e_aI (A : Ag) (i : Nat) (a : Ex Int32) : aI A i a f h = ob (A f h) fun q => ob (a f q.2) fun w => some (sI q.1 i w.1, w.2) := rfl
theorem e_aL (A : Ag) (i : Nat) (a : Ex Int64) : aL A i a f h = ob (A f h) fun q => ob (a f q.2) fun w => some (sL q.1 i w.1, w.2) := rfl
theorem e_aR (A : Ag) (i : Nat) (a : Ex Nat) : aR A i a f h = ob (A f h) fun q => ob (a f q.2) fun w => some (sR q.1 i w.1, w.2) := rfl
theorem e_Call {α : Type} (D : Fr → St → Option (α × St)) (A : Ag) : dCall D A f h = ob (A f h) fun q => D q.1 q.2 := rfl
theorem e_CallV {α : Type} (cl : Nat) (D : Fr → St → Option (α × St)) (A : Ag) : dCallV cl D A f h = ob (A f h) fun q => if (hk q.2 (gR q.1 0)).1 = cl then D q.1 q.2 else none := rfl
theorem e_SetI {α : Type} (i : Nat) (A : Ex Int32) : (dSetI i A : Sm α) f h = ob (A f h) fun x => some (.inl 0, sI f i x.1, x.2) := by
  unfold dSetI ob
  rcases A f h with _ | ⟨x, h1⟩ <;> rfl
theorem e_SetL {α : Type} (i : Nat) (A : Ex Int64) : (dSetL i A : Sm α) f h = ob (A f h) fun x => some (.inl 0, sL f i x.1, x.2) := by
  unfold dSetL ob
  rcases A f h with _ | ⟨x, h1⟩ <;> rfl
theorem e_SetR {α : Type} (i : Nat) (A : Ex Nat) : (dSetR i A : Sm α) f h = ob (A f h) fun x => some (.inl 0, sR f i x.1, x.2) := by
  unfold dSetR ob
  rcases A f h with _ | ⟨x, h1⟩ <;> rfl
theorem e_Inc {α : Type} (i : Nat) (n : Int32) : (dInc i n : Sm α) f h = some (.inl 0, sI f i (gI f i + n), h) := rfl
theorem e_Skip {α : Type} : (dSkip : Sm α) f h = some (.inl 0, f, h) := rfl
theorem e_Brk {α : Type} : (dBrk : Sm α) f h = some (.inl 1, f, h) := rfl
theorem e_Cnt {α : Type} : (dCnt : Sm α) f h = some (.inl 2, f, h) := rfl
theorem e_Ret {α : Type} (A : Ex α) : dRet A f h = ob (A f h) fun q => some (.inr q.1, f, q.2) := rfl
theorem e_Ret0 : dRet0 f h = some (.inr (), f, h) := rfl
theorem e_Seq {α : Type} (S T : Sm α) : dSeq S T f h = ob (S f h) fun q => Sum.elim (fun n => if n = 0 then T q.2.1 q.2.2 else some (.inl n, q.2)) (fun v => some (.inr v, q.2)) q.1 := rfl
theorem e_If {α : Type} (C : Cd) (S T : Sm α) : dIf C S T f h = ob (C f h) fun q => if q.1 = true then S f q.2 else T f q.2 := rfl
theorem e_Do {α β : Type} (E : Ex β) : (dDo E : Sm α) f h = ob (E f h) fun q => some (.inl 0, f, q.2) := rfl
theorem e_Sup {α : Type} : (dSup : Sm α) f h = if gR f 0 = 0 then none else some (.inl 0, f, h) := rfl
theorem e_d3 {α β γ δ : Type} (g : β → γ → δ → St → Option St) (A : Ex β) (B : Ex γ) (V : Ex δ) : (d3 g A B V : Sm α) f h = ob (A f h) fun a => ob (B f a.2) fun b => ob (V f b.2) fun v => ob (g a.1 b.1 v.1 v.2) fun h2 => some (.inl 0, f, h2) := rfl
theorem e_P {α β γ : Type} (g : β → γ → St → Option St) (A : Ex β) (V : Ex γ) : (dP g A V : Sm α) f h = ob (A f h) fun a => ob (V f a.2) fun v => ob (g a.1 v.1 v.2) fun h2 => some (.inl 0, f, h2) := rfl
theorem e_UA {α : Type} (g : Int32 → Int32 → Int32) (A : Ex Nat) (I V : Ex Int32) : (dUA g A I V : Sm α) f h = ob (A f h) fun a => ob (I f a.2) fun i => if (hk i.2 a.1).1 = 13 ∧ inb i.1 (hk i.2 a.1).2 = true then ob (V f i.2) fun v => ob (stI 13 idI a.1 i.1 (g (hi i.2 a.1 i.1.toNatClampNeg) v.1) v.2) fun h2 => some (.inl 0, f, h2) else none := rfl
theorem e_UL {α : Type} (g : Int64 → Int64 → Int64) (A : Ex Nat) (I : Ex Int32) (V : Ex Int64) : (dUL g A I V : Sm α) f h = ob (A f h) fun a => ob (I f a.2) fun i => if (hk i.2 a.1).1 = 16 ∧ inb i.1 (hk i.2 a.1).2 = true then ob (V f i.2) fun v => ob (stL a.1 i.1 (g (hl i.2 a.1 i.1.toNatClampNeg) v.1) v.2) fun h2 => some (.inl 0, f, h2) else none := rfl
theorem e_UF {α : Type} (cl k : Nat) (g : Int32 → Int32 → Int32) (A : Ex Nat) (V : Ex Int32) : (dUF cl k g A V : Sm α) f h = ob (A f h) fun a => if (hk a.2 a.1).1 = cl then ob (V f a.2) fun v => ob (fI cl k a.1 (g (hi a.2 a.1 k) v.1) v.2) fun h2 => some (.inl 0, f, h2) else none := rfl
theorem e_Cp {α : Type} (t : Nat) (A : Ag) : (dCp t A : Sm α) f h = ob (A f h) fun q => ob (cpF t q.1 q.2) fun h2 => some (.inl 0, f, h2) := rfl
theorem e_Sw {α : Type} (lo : Int) (A : Ex Int32) (cs : List (Sm α)) (df : Sm α) : dSw lo A cs df f h = ob (A f h) fun q => ob (((if lo ≤ q.1.toInt then cs[(q.1.toInt - lo).toNat]? else none).getD df) f q.2) fun w => some (Sum.elim (fun n => if n = 1 then .inl 0 else .inl n) (fun v => .inr v) w.1, w.2) := rfl
theorem e_M1 {α : Type} (cn : Fr → Fr) (S : Sm α) : M1 cn S f h = ob (S (cn f) h) fun q => Sum.elim (fun _ => none) (fun v => some (v, q.2.2)) q.1 := rfl
theorem e_MZ (cn : Fr → Fr) (S : Sm Int32) : MZ cn S f h = ob (S (cn f) h) fun q => Sum.elim (fun _ => none) (fun v => if v = 0 ∨ v = 1 then some (v, q.2.2) else none) q.1 := rfl
theorem e_MN (ty : FieldType) (cn : Fr → Fr) (S : Sm Int32) : MN ty cn S f h = ob (S (cn f) h) fun q => Sum.elim (fun _ => none) (fun v => if vp_nar ty v = v then some (v, q.2.2) else none) q.1 := rfl
theorem e_Tv (A : Ex Nat) : dTv A f h = ob (A f h) fun a => if (hk a.2 a.1).1 = 19 then some (a.1 + 14, a.2) else none := rfl
theorem e_Tc (A : Ex Nat) : dTc A f h = ob (A f h) fun a => if (hk a.2 a.1).1 = 19 then some (0, a.2) else none := rfl
theorem e_Loop {α : Type} (cn : Fr → Fr) (C : Cd) (B U : Sm α) : dLoop cn C B U f h = iter (lpS cn C B U) (cn f, h) := rfl
theorem e_DoW {α : Type} (cn : Fr → Fr) (B : Sm α) (C : Cd) : dDoW cn B C f h = iter (dwS cn B C) (cn f, h) := rfl
end
theorem e_lpS {α : Type} (cn : Fr → Fr) (C : Cd) (B U : Sm α) (f : Fr) (h : St) : lpS cn C B U (f, h) = ob (C f h) fun q => if q.1 = true then ob (B f q.2) fun w => Sum.elim (fun n => if n = 1 then some (.inr (.inl 0, cn w.2.1, w.2.2)) else ob (U w.2.1 w.2.2) fun z => Sum.elim (fun n' => if n' = 0 then some (.inl (cn z.2.1, z.2.2)) else none) (fun _ => none) z.1) (fun v => some (.inr (.inr v, w.2))) w.1 else some (.inr (.inl 0, f, q.2)) := rfl
theorem e_dwS {α : Type} (cn : Fr → Fr) (B : Sm α) (C : Cd) (f : Fr) (h : St) : dwS cn B C (f, h) = ob (B f h) fun w => Sum.elim (fun n => if n = 1 then some (.inr (.inl 0, cn w.2.1, w.2.2)) else ob (C w.2.1 w.2.2) fun q => if q.1 = true then some (.inl (cn w.2.1, q.2)) else some (.inr (.inl 0, cn w.2.1, q.2))) (fun v => some (.inr (.inr v, w.2))) w.1 := rfl
/-- a loop by its states: from the first to where it is left -/
theorem iter_run {σ β : Type} {B : σ → Option (σ ⊕ β)} (s : Nat → σ) (b : β) : ∀ (n k : Nat), (∀ j, k ≤ j → j < k + n → B (s j) = some (.inl (s (j + 1)))) → B (s (k + n)) = some (.inr b) → iter B (s k) = some b := by
  intro n
  induction n with
  | zero => intro k _ h2; exact iter_inr h2
  | succ n ih =>
    intro k h1 h2
    rw [iter_inl (h1 k (Nat.le_refl _) (by omega))]
    exact ih (k + 1) (fun j a b => h1 j (by omega) (by omega)) (by rw [show k + 1 + n = k + (n + 1) by omega]; exact h2)
theorem iter_upto {σ β : Type} {B : σ → Option (σ ⊕ β)} (s : Nat → σ) (b : β) (N : Nat) (h1 : ∀ j, j < N → B (s j) = some (.inl (s (j + 1)))) (h2 : B (s N) = some (.inr b)) : iter B (s 0) = some b :=
  iter_run s b N 0 (fun j _ k => h1 j (by omega)) (by rw [Nat.zero_add]; exact h2)
