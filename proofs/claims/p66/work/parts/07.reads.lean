/-! reads as expressions; conditions -/
def dGI (cl k : Nat) (a : Ex Nat) : Ex Int32 := fun f h => match a f h with
  | none => none
  | some (r, h1) => if (hk h1 r).1 = cl then some (hi h1 r k, h1) else none
def dGL (cl k : Nat) (a : Ex Nat) : Ex Int64 := fun f h => match a f h with
  | none => none
  | some (r, h1) => if (hk h1 r).1 = cl then some (hl h1 r k, h1) else none
def dGR (cl k : Nat) (a : Ex Nat) : Ex Nat := fun f h => match a f h with
  | none => none
  | some (r, h1) => if (hk h1 r).1 = cl then some (hr h1 r k, h1) else none
def dAI (a : Ex Nat) (b : Ex Int32) : Ex Int32 := fun f h => match a f h with
  | none => none
  | some (r, h1) => match b f h1 with
    | none => none
    | some (i, h2) => if ((hk h2 r).1 = 13 ∨ (hk h2 r).1 = 18) ∧ inb i (hk h2 r).2 = true then some (hi h2 r i.toNatClampNeg, h2) else none
def dAB (a : Ex Nat) (b : Ex Int32) : Ex Int32 := fun f h => match a f h with
  | none => none
  | some (r, h1) => match b f h1 with
    | none => none
    | some (i, h2) => if ((hk h2 r).1 = 14 ∨ (hk h2 r).1 = 20) ∧ inb i (hk h2 r).2 = true then some (hi h2 r i.toNatClampNeg, h2) else none
def dAZ (a : Ex Nat) (b : Ex Int32) : Ex Int32 := fun f h => match a f h with
  | none => none
  | some (r, h1) => match b f h1 with
    | none => none
    | some (i, h2) => if (hk h2 r).1 = 15 ∧ inb i (hk h2 r).2 = true then some (hi h2 r i.toNatClampNeg, h2) else none
def dAL (a : Ex Nat) (b : Ex Int32) : Ex Int64 := fun f h => match a f h with
  | none => none
  | some (r, h1) => match b f h1 with
    | none => none
    | some (i, h2) => if (hk h2 r).1 = 16 ∧ inb i (hk h2 r).2 = true then some (hl h2 r i.toNatClampNeg, h2) else none
def dAR (a : Ex Nat) (b : Ex Int32) : Ex Nat := fun f h => match a f h with
  | none => none
  | some (r, h1) => match b f h1 with
    | none => none
    | some (i, h2) => if (hk h2 r).1 = 17 ∧ inb i (hk h2 r).2 = true then some (hr h2 r i.toNatClampNeg, h2) else none
def dLen (a : Ex Nat) : Ex Int32 := fun f h => match a f h with
  | none => none
  | some (r, h1) => if 13 ≤ (hk h1 r).1 ∧ (hk h1 r).1 ≤ 18 ∨ (hk h1 r).1 = 20 then some (Int32.ofNat (hk h1 r).2, h1) else none
def Hl (h : St) (r k : Nat) : Int64 := hl h r k
section
variable {mi : MI} {Γ : Gm} {k pc pc' p1 p2 : Nat}
/-- a value, then what the machine makes of it -/
theorem s_u {α β : Type} {ca : KX → α → Value} {cb : KX → β → Value} {A : Ex α} {B : Ex β} (g : α → St → Option β) (hB : ∀ f h, B f h = match A f h with | none => none | some (x, h1) => match g x h1 with | none => none | some y => some (y, h1))
    (hu : ∀ κ p l e R s m args below meth c nb sb Q, CXT mi κ p R s m args meth c → ∀ f h x y, g x h = some y → ∀ st, GO mi κ p l e R s m args below meth c nb sb Q Γ pc' f h (cb κ y :: st) → GO mi κ p l e R s m args below meth c nb sb Q Γ p1 f h (ca κ x :: st))
    (ha : SE ca mi Γ k pc p1 A) : SE cb mi Γ k pc pc' B := by
  refine ⟨fun f h v h' q => ?_, ?_⟩
  · rw [hB] at q
    split at q
    · cases q
    · rename_i x h1 q1
      split at q
      · cases q
      · cases q
        exact ha.1 _ _ _ _ q1
  · intro κ p l e R s m args below meth c nb sb Q C f h v h' q L st hst K
    rw [hB] at q
    split at q
    · cases q
    · rename_i x h1 q1
      split at q
      · cases q
      · rename_i y q2
        cases q
        exact ha.2 κ p l e R s m args below meth c nb sb Q C f h x h' q1 L st hst (hu κ p l e R s m args below meth c nb sb Q C f h' x v q2 st K)
theorem s_u2 {α α2 β : Type} {ca : KX → α → Value} {ca2 : KX → α2 → Value} {cb : KX → β → Value} {A : Ex α} {A2 : Ex α2} {B : Ex β} (g : α → α2 → St → Option β) (hB : ∀ f h, B f h = match A f h with | none => none | some (x, h1) => match A2 f h1 with | none => none | some (x2, h2) => match g x x2 h2 with | none => none | some y => some (y, h2)) (n : Nat) (hn : ∀ κ x, (ca κ x).category ≤ n)
    (hu : ∀ κ p l e R s m args below meth c nb sb Q, CXT mi κ p R s m args meth c → ∀ f h x x2 y, g x x2 h = some y → ∀ st, GO mi κ p l e R s m args below meth c nb sb Q Γ pc' f h (cb κ y :: st) → GO mi κ p l e R s m args below meth c nb sb Q Γ p2 f h (ca2 κ x2 :: ca κ x :: st))
    (ha : SE ca mi Γ k pc p1 A) (hb : SE ca2 mi Γ (k + n) p1 p2 A2) : SE cb mi Γ k pc pc' B := by
  refine ⟨fun f h v h' q => ?_, ?_⟩
  · rw [hB] at q
    split at q
    · cases q
    · rename_i x h1 q1
      split at q
      · cases q
      · rename_i x2 h2 q2
        split at q
        · cases q
        · cases q
          exact (ha.1 _ _ _ _ q1).tr (hb.1 _ _ _ _ q2)
  · intro κ p l e R s m args below meth c nb sb Q C f h v h' q L st hst K
    rw [hB] at q
    split at q
    · cases q
    · rename_i x h1 q1
      split at q
      · cases q
      · rename_i x2 h2 q2
        split at q
        · cases q
        · rename_i y q3
          cases q
          refine ha.2 κ p l e R s m args below meth c nb sb Q C f h x h1 q1 (L.le (hb.1 _ _ _ _ q2)) st hst ?_
          refine hb.2 κ p l e R s m args below meth c nb sb Q C f h1 x2 h' q2 L _ ?_ (hu κ p l e R s m args below meth c nb sb Q C f h' x x2 v q3 st K)
          have := hn κ x
          simp only [List.map_cons, List.sum_cons]
          omega
theorem s_getI {cl N : Nat} {CN : String} {T : u_T} {ty : Nat → FieldType} (ck : ClOK cl CN T N ty) (kk : Nat) {idx : Nat} {A : Ex Nat} (hk1 : kk < N) (ht : ftag (ty kk) = 0) (ha : SE cvR mi Γ k pc p1 A) (d : decode mi.2.1 p1 = .ok (.getfield idx, 3)) (hl : Cond.fieldLink mi.1 idx (T kk).1 (T kk).2.1 (T kk).2.2.1 ∈ TB) : SE cvI mi Γ k pc (p1 + 3) (dGI cl kk A) := by
  refine s_u (fun r h => if (hk h r).1 = cl then some (hi h r kk) else none) (fun f h => ?_) (fun κ p l e R s m args below meth c nb sb Q C f h x y q st K => ?_) ha
  · unfold dGI
    rcases A f h with _ | ⟨r, h1⟩
    · rfl
    · dsimp only [Hl]
      split <;> rfl
  · split at q
    · rename_i hc
      cases q
      refine z_get C ck hk1 hl d hc ?_
      rw [ht]
      exact K
    · cases q
theorem s_getL {cl N : Nat} {CN : String} {T : u_T} {ty : Nat → FieldType} (ck : ClOK cl CN T N ty) (kk : Nat) {idx : Nat} {A : Ex Nat} (hk1 : kk < N) (ht : ftag (ty kk) = 1) (ha : SE cvR mi Γ k pc p1 A) (d : decode mi.2.1 p1 = .ok (.getfield idx, 3)) (hl : Cond.fieldLink mi.1 idx (T kk).1 (T kk).2.1 (T kk).2.2.1 ∈ TB) : SE cvL mi Γ k pc (p1 + 3) (dGL cl kk A) := by
  refine s_u (fun r h => if (hk h r).1 = cl then some (Hl h r kk) else none) (fun f h => ?_) (fun κ p l e R s m args below meth c nb sb Q C f h x y q st K => ?_) ha
  · unfold dGL
    rcases A f h with _ | ⟨r, h1⟩
    · rfl
    · dsimp only [Hl]
      split <;> rfl
  · split at q
    · rename_i hc
      cases q
      refine z_get C ck hk1 hl d hc ?_
      rw [ht]
      exact K
    · cases q
theorem s_getR {cl N : Nat} {CN : String} {T : u_T} {ty : Nat → FieldType} (ck : ClOK cl CN T N ty) (kk : Nat) {idx : Nat} {A : Ex Nat} (hk1 : kk < N) (ht : ftag (ty kk) = 2) (ha : SE cvR mi Γ k pc p1 A) (d : decode mi.2.1 p1 = .ok (.getfield idx, 3)) (hl : Cond.fieldLink mi.1 idx (T kk).1 (T kk).2.1 (T kk).2.2.1 ∈ TB) : SE cvR mi Γ k pc (p1 + 3) (dGR cl kk A) := by
  refine s_u (fun r h => if (hk h r).1 = cl then some (hr h r kk) else none) (fun f h => ?_) (fun κ p l e R s m args below meth c nb sb Q C f h x y q st K => ?_) ha
  · unfold dGR
    rcases A f h with _ | ⟨r, h1⟩
    · rfl
    · dsimp only [Hl]
      split <;> rfl
  · split at q
    · rename_i hc
      cases q
      refine z_get C ck hk1 hl d hc ?_
      rw [ht]
      exact K
    · cases q
theorem s_len {A : Ex Nat} (ha : SE cvR mi Γ k pc p1 A) (d : decode mi.2.1 p1 = .ok (.arraylength, 1)) : SE cvI mi Γ k pc (p1 + 1) (dLen A) := by
  refine s_u (fun r h => if 13 ≤ (hk h r).1 ∧ (hk h r).1 ≤ 18 ∨ (hk h r).1 = 20 then some (Int32.ofNat (hk h r).2) else none) (fun f h => ?_) (fun κ p l e R s m args below meth c nb sb Q C f h x y q st K => ?_) ha
  · unfold dLen
    rcases A f h with _ | ⟨r, h1⟩
    · rfl
    · dsimp only [Hl]
      split <;> rfl
  · split at q
    · rename_i hc
      cases q
      exact z_alen C hc d K
    · cases q
theorem s_dAI {A : Ex Nat} {B : Ex Int32} (ha : SE cvR mi Γ k pc p1 A) (hb : SE cvI mi Γ (k + 1) p1 p2 B) (d : decode mi.2.1 p2 = .ok (.iaload, 1)) : SE cvI mi Γ k pc (p2 + 1) (dAI A B) := by
  refine s_u2 (fun r i h => if ((hk h r).1 = 13 ∨ (hk h r).1 = 18) ∧ inb i (hk h r).2 = true then some (hi h r i.toNatClampNeg) else none) (fun f h => ?_) 1 catR (fun κ p l e R s m args below meth c nb sb Q C f h x x2 y q st K => ?_) ha hb
  · unfold dAI
    rcases A f h with _ | ⟨r, h1⟩
    · rfl
    · dsimp only
      rcases B f h1 with _ | ⟨i, h2⟩
      · rfl
      · dsimp only
        split <;> rfl
  · split at q
    · rename_i hc
      cases q
      exact z_iald C hc.1 hc.2 d K
    · cases q
theorem s_dAB {A : Ex Nat} {B : Ex Int32} (ha : SE cvR mi Γ k pc p1 A) (hb : SE cvI mi Γ (k + 1) p1 p2 B) (d : decode mi.2.1 p2 = .ok (.baload, 1)) : SE cvI mi Γ k pc (p2 + 1) (dAB A B) := by
  refine s_u2 (fun r i h => if ((hk h r).1 = 14 ∨ (hk h r).1 = 20) ∧ inb i (hk h r).2 = true then some (hi h r i.toNatClampNeg) else none) (fun f h => ?_) 1 catR (fun κ p l e R s m args below meth c nb sb Q C f h x x2 y q st K => ?_) ha hb
  · unfold dAB
    rcases A f h with _ | ⟨r, h1⟩
    · rfl
    · dsimp only
      rcases B f h1 with _ | ⟨i, h2⟩
      · rfl
      · dsimp only
        split <;> rfl
  · split at q
    · rename_i hc
      cases q
      exact z_bald C hc.1 hc.2 d K
    · cases q
theorem s_dAL {A : Ex Nat} {B : Ex Int32} (ha : SE cvR mi Γ k pc p1 A) (hb : SE cvI mi Γ (k + 1) p1 p2 B) (d : decode mi.2.1 p2 = .ok (.laload, 1)) : SE cvL mi Γ k pc (p2 + 1) (dAL A B) := by
  refine s_u2 (fun r i h => if (hk h r).1 = 16 ∧ inb i (hk h r).2 = true then some (hl h r i.toNatClampNeg) else none) (fun f h => ?_) 1 catR (fun κ p l e R s m args below meth c nb sb Q C f h x x2 y q st K => ?_) ha hb
  · unfold dAL
    rcases A f h with _ | ⟨r, h1⟩
    · rfl
    · dsimp only
      rcases B f h1 with _ | ⟨i, h2⟩
      · rfl
      · dsimp only
        split <;> rfl
  · split at q
    · rename_i hc
      cases q
      exact z_lald C hc.1 hc.2 d K
    · cases q
theorem s_dAR {A : Ex Nat} {B : Ex Int32} (ha : SE cvR mi Γ k pc p1 A) (hb : SE cvI mi Γ (k + 1) p1 p2 B) (d : decode mi.2.1 p2 = .ok (.aaload, 1)) : SE cvR mi Γ k pc (p2 + 1) (dAR A B) := by
  refine s_u2 (fun r i h => if (hk h r).1 = 17 ∧ inb i (hk h r).2 = true then some (hr h r i.toNatClampNeg) else none) (fun f h => ?_) 1 catR (fun κ p l e R s m args below meth c nb sb Q C f h x x2 y q st K => ?_) ha hb
  · unfold dAR
    rcases A f h with _ | ⟨r, h1⟩
    · rfl
    · dsimp only
      rcases B f h1 with _ | ⟨i, h2⟩
      · rfl
      · dsimp only
        split <;> rfl
  · split at q
    · rename_i hc
      cases q
      exact z_aald C hc.1 hc.2 d K
    · cases q
-- conditions
def dCI (g : Int32 → Int32 → Bool) (a b : Ex Int32) : Cd := fun f h => match a f h with
  | none => none
  | some (x, h1) => match b f h1 with
    | none => none
    | some (y, h2) => some (g x y, h2)
def dCZ (g : Int32 → Bool) (a : Ex Int32) : Cd := fun f h => match a f h with
  | none => none
  | some (x, h1) => some (g x, h1)
def dNul (g : Bool) (a : Ex Nat) : Cd := fun f h => match a f h with
  | none => none
  | some (x, h1) => some (decide (x = 0) == g, h1)
def dAnd (a b : Cd) : Cd := fun f h => match a f h with
  | none => none
  | some (true, h1) => b f h1
  | some (false, h1) => some (false, h1)
def dOr (a b : Cd) : Cd := fun f h => match a f h with
  | none => none
  | some (true, h1) => some (true, h1)
  | some (false, h1) => b f h1
def dNot (a : Cd) : Cd := fun f h => match a f h with
  | none => none
  | some (b, h1) => some (!b, h1)
theorem c_and {a b : Cd} {pT pF : Nat} (ha : SC mi Γ k pc p1 pF a) (hb : SC mi Γ k p1 pT pF b) : SC mi Γ k pc pT pF (dAnd a b) := by
  refine ⟨fun f h v h' q => ?_, ?_⟩
  · unfold dAnd at q
    split at q
    · cases q
    · rename_i h1 q1
      exact (ha.1 _ _ _ _ q1).tr (hb.1 _ _ _ _ q)
    · rename_i h1 q1
      cases q
      exact ha.1 _ _ _ _ q1
  · intro κ p l e R s m args below meth c nb sb Q C f h v h' q L st hst K
    unfold dAnd at q
    split at q
    · cases q
    · rename_i h1 q1
      exact ha.2 κ p l e R s m args below meth c nb sb Q C f h true h1 q1 (L.le (hb.1 _ _ _ _ q)) st hst (hb.2 κ p l e R s m args below meth c nb sb Q C f h1 v h' q L st hst K)
    · rename_i h1 q1
      cases q
      exact ha.2 κ p l e R s m args below meth c nb sb Q C f h false h' q1 L st hst K
theorem c_or {a b : Cd} {pT pF : Nat} (ha : SC mi Γ k pc pT p1 a) (hb : SC mi Γ k p1 pT pF b) : SC mi Γ k pc pT pF (dOr a b) := by
  refine ⟨fun f h v h' q => ?_, ?_⟩
  · unfold dOr at q
    split at q
    · cases q
    · rename_i h1 q1
      cases q
      exact ha.1 _ _ _ _ q1
    · rename_i h1 q1
      exact (ha.1 _ _ _ _ q1).tr (hb.1 _ _ _ _ q)
  · intro κ p l e R s m args below meth c nb sb Q C f h v h' q L st hst K
    unfold dOr at q
    split at q
    · cases q
    · rename_i h1 q1
      cases q
      exact ha.2 κ p l e R s m args below meth c nb sb Q C f h true h' q1 L st hst K
    · rename_i h1 q1
      exact ha.2 κ p l e R s m args below meth c nb sb Q C f h false h1 q1 (L.le (hb.1 _ _ _ _ q)) st hst (hb.2 κ p l e R s m args below meth c nb sb Q C f h1 v h' q L st hst K)
theorem c_not {a : Cd} {pT pF : Nat} (ha : SC mi Γ k pc pF pT a) : SC mi Γ k pc pT pF (dNot a) := by
  refine ⟨fun f h v h' q => ?_, ?_⟩
  · unfold dNot at q
    split at q
    · cases q
    · rename_i h1 q1
      cases q
      exact ha.1 _ _ _ _ q1
  · intro κ p l e R s m args below meth c nb sb Q C f h v h' q L st hst K
    unfold dNot at q
    split at q
    · cases q
    · rename_i b h1 q1
      cases q
      refine ha.2 κ p l e R s m args below meth c nb sb Q C f h b h' q1 L st hst ?_
      cases b <;> exact K
theorem GO.at {mi : MI} {κ : KX} {p : Program} {l : Launch} {e : Env} {R : Room} {s : State} {m : MethodId} {args : Array Value} {below : List Frame} {meth : Method} {c : Code} {nb sb : Nat} {Q : State → Prop} {Γ : Gm} {pc : Nat} {f : Fr} {h : St} {st : List Value} {v : Bool} {a b : Nat} (K : GO mi κ p l e R s m args below meth c nb sb Q Γ (if v then a else b) f h st) (hv : v = true) : GO mi κ p l e R s m args below meth c nb sb Q Γ a f h st := by rw [hv] at K; exact K
theorem c_ci {A B : Ex Int32} {pT pF : Nat} (g : Int32 → Int32 → Bool) (ha : SE cvI mi Γ k pc p1 A) (hb : SE cvI mi Γ (k + 1) p1 p2 B)
    (hu : ∀ x y st, ∀ {p : Program} {l : Launch} {e : Env} {R : Room} {s : State} {m : MethodId} {args : Array Value} {below : List Frame} {meth : Method} {c : Code} {H : Heap} {locs : List Loc} {cells slots : Nat} {Q : State → Prop} {ls : Array Slot}, p.tables.exec = Jvm.exec → c.code = mi.2.1 → W p l e R s m args below meth c H locs cells slots Q (F0 m (if g x y then pT else pF) ls st) → W p l e R s m args below meth c H locs cells slots Q (F0 m p2 ls (.int y :: .int x :: st))) : SC mi Γ k pc pT pF (dCI g A B) := by
  refine ⟨fun f h v h' q => ?_, ?_⟩
  · unfold dCI at q
    split at q
    · cases q
    · rename_i x h1 q1
      split at q
      · cases q
      · rename_i y h2 q2
        cases q
        exact (ha.1 _ _ _ _ q1).tr (hb.1 _ _ _ _ q2)
  · intro κ p l e R s m args below meth c nb sb Q C f h v h' q L st hst K
    unfold dCI at q
    split at q
    · cases q
    · rename_i x h1 q1
      split at q
      · cases q
      · rename_i y h2 q2
        cases q
        refine ha.2 κ p l e R s m args below meth c nb sb Q C f h x h1 q1 (L.le (hb.1 _ _ _ _ q2)) st hst ?_
        refine hb.2 κ p l e R s m args below meth c nb sb Q C f h1 y h' q2 L _ ?_ (fun ls H locs a b d1 e1 e2 => hu x y st C.exec C.code (K ls H locs a b d1 e1 e2))
        have := catI κ x
        simp only [List.map_cons, List.sum_cons]
        omega
theorem c_cz {A : Ex Int32} {pT pF : Nat} (g : Int32 → Bool) (ha : SE cvI mi Γ k pc p1 A)
    (hu : ∀ x st, ∀ {p : Program} {l : Launch} {e : Env} {R : Room} {s : State} {m : MethodId} {args : Array Value} {below : List Frame} {meth : Method} {c : Code} {H : Heap} {locs : List Loc} {cells slots : Nat} {Q : State → Prop} {ls : Array Slot}, p.tables.exec = Jvm.exec → c.code = mi.2.1 → W p l e R s m args below meth c H locs cells slots Q (F0 m (if g x then pT else pF) ls st) → W p l e R s m args below meth c H locs cells slots Q (F0 m p1 ls (.int x :: st))) : SC mi Γ k pc pT pF (dCZ g A) := by
  refine ⟨fun f h v h' q => ?_, ?_⟩
  · unfold dCZ at q
    split at q
    · cases q
    · rename_i x h1 q1
      cases q
      exact ha.1 _ _ _ _ q1
  · intro κ p l e R s m args below meth c nb sb Q C f h v h' q L st hst K
    unfold dCZ at q
    split at q
    · cases q
    · rename_i x h1 q1
      cases q
      exact ha.2 κ p l e R s m args below meth c nb sb Q C f h x h' q1 L st hst (fun ls H locs a b d1 e1 e2 => hu x st C.exec C.code (K ls H locs a b d1 e1 e2))
def r_lt (x y : Int32) : Bool := decide (x < y)
def q_lt (x : Int32) : Bool := decide (x < 0)
def r_ge (x y : Int32) : Bool := decide (y ≤ x)
def q_ge (x : Int32) : Bool := decide (0 ≤ x)
def r_gt (x y : Int32) : Bool := decide (y < x)
def q_gt (x : Int32) : Bool := decide (0 < x)
def r_le (x y : Int32) : Bool := decide (x ≤ y)
def q_le (x : Int32) : Bool := decide (x ≤ 0)
def r_eq (x y : Int32) : Bool := decide (x = y)
def q_eq (x : Int32) : Bool := decide (x = 0)
def r_ne (x y : Int32) : Bool := decide (x ≠ y)
def q_ne (x : Int32) : Bool := decide (x ≠ 0)
theorem c_lt_J {A B : Ex Int32} {off : Int} {pT : Nat} (ha : SE cvI mi Γ k pc p1 A) (hb : SE cvI mi Γ (k + 1) p1 p2 B) (d : decode mi.2.1 p2 = .ok (.if_icmp .lt off, 3)) (ht : (p2 : Int) + off = (pT : Int)) : SC mi Γ k pc pT (p2 + 3) (dCI r_lt A B) :=
  c_ci r_lt ha hb fun x y st _ _ _ _ _ _ _ _ _ _ _ _ _ _ _ _ a b K => lv_icmp_lt a b d ht (fun z => by rw [show r_lt x y = true from by simpa [r_lt] using z] at K; exact K) (fun z => by rw [show r_lt x y = false from by simpa [r_lt] using z] at K; exact K)
theorem c_lt_F {A B : Ex Int32} {off : Int} {pF : Nat} (ha : SE cvI mi Γ k pc p1 A) (hb : SE cvI mi Γ (k + 1) p1 p2 B) (d : decode mi.2.1 p2 = .ok (.if_icmp .ge off, 3)) (ht : (p2 : Int) + off = (pF : Int)) : SC mi Γ k pc (p2 + 3) pF (dCI r_lt A B) :=
  c_ci r_lt ha hb fun x y st _ _ _ _ _ _ _ _ _ _ _ _ _ _ _ _ a b K => lv_icmp_ge a b d ht (fun z => by rw [show r_lt x y = false from by simpa [r_lt] using z] at K; exact K) (fun z => by rw [show r_lt x y = true from by simpa [r_lt] using z] at K; exact K)
theorem c_lt_ZJ {A : Ex Int32} {off : Int} {pT : Nat} (ha : SE cvI mi Γ k pc p1 A) (d : decode mi.2.1 p1 = .ok (.ifCond .lt off, 3)) (ht : (p1 : Int) + off = (pT : Int)) : SC mi Γ k pc pT (p1 + 3) (dCZ q_lt A) :=
  c_cz q_lt ha fun x st _ _ _ _ _ _ _ _ _ _ _ _ _ _ _ _ a b K => lv_if_lt a b d ht (fun z => by rw [show q_lt x = true from by simpa [q_lt] using z] at K; exact K) (fun z => by rw [show q_lt x = false from by simpa [q_lt] using z] at K; exact K)
theorem c_lt_ZF {A : Ex Int32} {off : Int} {pF : Nat} (ha : SE cvI mi Γ k pc p1 A) (d : decode mi.2.1 p1 = .ok (.ifCond .ge off, 3)) (ht : (p1 : Int) + off = (pF : Int)) : SC mi Γ k pc (p1 + 3) pF (dCZ q_lt A) :=
  c_cz q_lt ha fun x st _ _ _ _ _ _ _ _ _ _ _ _ _ _ _ _ a b K => lv_if_ge a b d ht (fun z => by rw [show q_lt x = false from by simpa [q_lt] using z] at K; exact K) (fun z => by rw [show q_lt x = true from by simpa [q_lt] using z] at K; exact K)
theorem c_ge_J {A B : Ex Int32} {off : Int} {pT : Nat} (ha : SE cvI mi Γ k pc p1 A) (hb : SE cvI mi Γ (k + 1) p1 p2 B) (d : decode mi.2.1 p2 = .ok (.if_icmp .ge off, 3)) (ht : (p2 : Int) + off = (pT : Int)) : SC mi Γ k pc pT (p2 + 3) (dCI r_ge A B) :=
  c_ci r_ge ha hb fun x y st _ _ _ _ _ _ _ _ _ _ _ _ _ _ _ _ a b K => lv_icmp_ge a b d ht (fun z => by rw [show r_ge x y = true from by simpa [r_ge] using z] at K; exact K) (fun z => by rw [show r_ge x y = false from by simpa [r_ge] using z] at K; exact K)
theorem c_ge_F {A B : Ex Int32} {off : Int} {pF : Nat} (ha : SE cvI mi Γ k pc p1 A) (hb : SE cvI mi Γ (k + 1) p1 p2 B) (d : decode mi.2.1 p2 = .ok (.if_icmp .lt off, 3)) (ht : (p2 : Int) + off = (pF : Int)) : SC mi Γ k pc (p2 + 3) pF (dCI r_ge A B) :=
  c_ci r_ge ha hb fun x y st _ _ _ _ _ _ _ _ _ _ _ _ _ _ _ _ a b K => lv_icmp_lt a b d ht (fun z => by rw [show r_ge x y = false from by simpa [r_ge] using z] at K; exact K) (fun z => by rw [show r_ge x y = true from by simpa [r_ge] using z] at K; exact K)
theorem c_ge_ZJ {A : Ex Int32} {off : Int} {pT : Nat} (ha : SE cvI mi Γ k pc p1 A) (d : decode mi.2.1 p1 = .ok (.ifCond .ge off, 3)) (ht : (p1 : Int) + off = (pT : Int)) : SC mi Γ k pc pT (p1 + 3) (dCZ q_ge A) :=
  c_cz q_ge ha fun x st _ _ _ _ _ _ _ _ _ _ _ _ _ _ _ _ a b K => lv_if_ge a b d ht (fun z => by rw [show q_ge x = true from by simpa [q_ge] using z] at K; exact K) (fun z => by rw [show q_ge x = false from by simpa [q_ge] using z] at K; exact K)
theorem c_ge_ZF {A : Ex Int32} {off : Int} {pF : Nat} (ha : SE cvI mi Γ k pc p1 A) (d : decode mi.2.1 p1 = .ok (.ifCond .lt off, 3)) (ht : (p1 : Int) + off = (pF : Int)) : SC mi Γ k pc (p1 + 3) pF (dCZ q_ge A) :=
  c_cz q_ge ha fun x st _ _ _ _ _ _ _ _ _ _ _ _ _ _ _ _ a b K => lv_if_lt a b d ht (fun z => by rw [show q_ge x = false from by simpa [q_ge] using z] at K; exact K) (fun z => by rw [show q_ge x = true from by simpa [q_ge] using z] at K; exact K)
theorem c_gt_J {A B : Ex Int32} {off : Int} {pT : Nat} (ha : SE cvI mi Γ k pc p1 A) (hb : SE cvI mi Γ (k + 1) p1 p2 B) (d : decode mi.2.1 p2 = .ok (.if_icmp .gt off, 3)) (ht : (p2 : Int) + off = (pT : Int)) : SC mi Γ k pc pT (p2 + 3) (dCI r_gt A B) :=
  c_ci r_gt ha hb fun x y st _ _ _ _ _ _ _ _ _ _ _ _ _ _ _ _ a b K => lv_icmp_gt a b d ht (fun z => by rw [show r_gt x y = true from by simpa [r_gt] using z] at K; exact K) (fun z => by rw [show r_gt x y = false from by simpa [r_gt] using z] at K; exact K)
theorem c_gt_F {A B : Ex Int32} {off : Int} {pF : Nat} (ha : SE cvI mi Γ k pc p1 A) (hb : SE cvI mi Γ (k + 1) p1 p2 B) (d : decode mi.2.1 p2 = .ok (.if_icmp .le off, 3)) (ht : (p2 : Int) + off = (pF : Int)) : SC mi Γ k pc (p2 + 3) pF (dCI r_gt A B) :=
  c_ci r_gt ha hb fun x y st _ _ _ _ _ _ _ _ _ _ _ _ _ _ _ _ a b K => lv_icmp_le a b d ht (fun z => by rw [show r_gt x y = false from by simpa [r_gt] using z] at K; exact K) (fun z => by rw [show r_gt x y = true from by simpa [r_gt] using z] at K; exact K)
theorem c_gt_ZJ {A : Ex Int32} {off : Int} {pT : Nat} (ha : SE cvI mi Γ k pc p1 A) (d : decode mi.2.1 p1 = .ok (.ifCond .gt off, 3)) (ht : (p1 : Int) + off = (pT : Int)) : SC mi Γ k pc pT (p1 + 3) (dCZ q_gt A) :=
  c_cz q_gt ha fun x st _ _ _ _ _ _ _ _ _ _ _ _ _ _ _ _ a b K => lv_if_gt a b d ht (fun z => by rw [show q_gt x = true from by simpa [q_gt] using z] at K; exact K) (fun z => by rw [show q_gt x = false from by simpa [q_gt] using z] at K; exact K)
theorem c_gt_ZF {A : Ex Int32} {off : Int} {pF : Nat} (ha : SE cvI mi Γ k pc p1 A) (d : decode mi.2.1 p1 = .ok (.ifCond .le off, 3)) (ht : (p1 : Int) + off = (pF : Int)) : SC mi Γ k pc (p1 + 3) pF (dCZ q_gt A) :=
  c_cz q_gt ha fun x st _ _ _ _ _ _ _ _ _ _ _ _ _ _ _ _ a b K => lv_if_le a b d ht (fun z => by rw [show q_gt x = false from by simpa [q_gt] using z] at K; exact K) (fun z => by rw [show q_gt x = true from by simpa [q_gt] using z] at K; exact K)
theorem c_le_J {A B : Ex Int32} {off : Int} {pT : Nat} (ha : SE cvI mi Γ k pc p1 A) (hb : SE cvI mi Γ (k + 1) p1 p2 B) (d : decode mi.2.1 p2 = .ok (.if_icmp .le off, 3)) (ht : (p2 : Int) + off = (pT : Int)) : SC mi Γ k pc pT (p2 + 3) (dCI r_le A B) :=
  c_ci r_le ha hb fun x y st _ _ _ _ _ _ _ _ _ _ _ _ _ _ _ _ a b K => lv_icmp_le a b d ht (fun z => by rw [show r_le x y = true from by simpa [r_le] using z] at K; exact K) (fun z => by rw [show r_le x y = false from by simpa [r_le] using z] at K; exact K)
theorem c_le_F {A B : Ex Int32} {off : Int} {pF : Nat} (ha : SE cvI mi Γ k pc p1 A) (hb : SE cvI mi Γ (k + 1) p1 p2 B) (d : decode mi.2.1 p2 = .ok (.if_icmp .gt off, 3)) (ht : (p2 : Int) + off = (pF : Int)) : SC mi Γ k pc (p2 + 3) pF (dCI r_le A B) :=
  c_ci r_le ha hb fun x y st _ _ _ _ _ _ _ _ _ _ _ _ _ _ _ _ a b K => lv_icmp_gt a b d ht (fun z => by rw [show r_le x y = false from by simpa [r_le] using z] at K; exact K) (fun z => by rw [show r_le x y = true from by simpa [r_le] using z] at K; exact K)
theorem c_le_ZJ {A : Ex Int32} {off : Int} {pT : Nat} (ha : SE cvI mi Γ k pc p1 A) (d : decode mi.2.1 p1 = .ok (.ifCond .le off, 3)) (ht : (p1 : Int) + off = (pT : Int)) : SC mi Γ k pc pT (p1 + 3) (dCZ q_le A) :=
  c_cz q_le ha fun x st _ _ _ _ _ _ _ _ _ _ _ _ _ _ _ _ a b K => lv_if_le a b d ht (fun z => by rw [show q_le x = true from by simpa [q_le] using z] at K; exact K) (fun z => by rw [show q_le x = false from by simpa [q_le] using z] at K; exact K)
theorem c_le_ZF {A : Ex Int32} {off : Int} {pF : Nat} (ha : SE cvI mi Γ k pc p1 A) (d : decode mi.2.1 p1 = .ok (.ifCond .gt off, 3)) (ht : (p1 : Int) + off = (pF : Int)) : SC mi Γ k pc (p1 + 3) pF (dCZ q_le A) :=
  c_cz q_le ha fun x st _ _ _ _ _ _ _ _ _ _ _ _ _ _ _ _ a b K => lv_if_gt a b d ht (fun z => by rw [show q_le x = false from by simpa [q_le] using z] at K; exact K) (fun z => by rw [show q_le x = true from by simpa [q_le] using z] at K; exact K)
theorem c_eq_J {A B : Ex Int32} {off : Int} {pT : Nat} (ha : SE cvI mi Γ k pc p1 A) (hb : SE cvI mi Γ (k + 1) p1 p2 B) (d : decode mi.2.1 p2 = .ok (.if_icmp .eq off, 3)) (ht : (p2 : Int) + off = (pT : Int)) : SC mi Γ k pc pT (p2 + 3) (dCI r_eq A B) :=
  c_ci r_eq ha hb fun x y st _ _ _ _ _ _ _ _ _ _ _ _ _ _ _ _ a b K => lv_icmp_eq a b d ht (fun z => by rw [show r_eq x y = true from by simpa [r_eq] using z] at K; exact K) (fun z => by rw [show r_eq x y = false from by simpa [r_eq] using z] at K; exact K)
theorem c_eq_F {A B : Ex Int32} {off : Int} {pF : Nat} (ha : SE cvI mi Γ k pc p1 A) (hb : SE cvI mi Γ (k + 1) p1 p2 B) (d : decode mi.2.1 p2 = .ok (.if_icmp .ne off, 3)) (ht : (p2 : Int) + off = (pF : Int)) : SC mi Γ k pc (p2 + 3) pF (dCI r_eq A B) :=
  c_ci r_eq ha hb fun x y st _ _ _ _ _ _ _ _ _ _ _ _ _ _ _ _ a b K => lv_icmp_ne a b d ht (fun z => by rw [show r_eq x y = false from by simpa [r_eq] using z] at K; exact K) (fun z => by rw [show r_eq x y = true from by simpa [r_eq] using z] at K; exact K)
theorem c_eq_ZJ {A : Ex Int32} {off : Int} {pT : Nat} (ha : SE cvI mi Γ k pc p1 A) (d : decode mi.2.1 p1 = .ok (.ifCond .eq off, 3)) (ht : (p1 : Int) + off = (pT : Int)) : SC mi Γ k pc pT (p1 + 3) (dCZ q_eq A) :=
  c_cz q_eq ha fun x st _ _ _ _ _ _ _ _ _ _ _ _ _ _ _ _ a b K => lv_if_eq a b d ht (fun z => by rw [show q_eq x = true from by simpa [q_eq] using z] at K; exact K) (fun z => by rw [show q_eq x = false from by simpa [q_eq] using z] at K; exact K)
theorem c_eq_ZF {A : Ex Int32} {off : Int} {pF : Nat} (ha : SE cvI mi Γ k pc p1 A) (d : decode mi.2.1 p1 = .ok (.ifCond .ne off, 3)) (ht : (p1 : Int) + off = (pF : Int)) : SC mi Γ k pc (p1 + 3) pF (dCZ q_eq A) :=
  c_cz q_eq ha fun x st _ _ _ _ _ _ _ _ _ _ _ _ _ _ _ _ a b K => lv_if_ne a b d ht (fun z => by rw [show q_eq x = false from by simpa [q_eq] using z] at K; exact K) (fun z => by rw [show q_eq x = true from by simpa [q_eq] using z] at K; exact K)
theorem c_ne_J {A B : Ex Int32} {off : Int} {pT : Nat} (ha : SE cvI mi Γ k pc p1 A) (hb : SE cvI mi Γ (k + 1) p1 p2 B) (d : decode mi.2.1 p2 = .ok (.if_icmp .ne off, 3)) (ht : (p2 : Int) + off = (pT : Int)) : SC mi Γ k pc pT (p2 + 3) (dCI r_ne A B) :=
  c_ci r_ne ha hb fun x y st _ _ _ _ _ _ _ _ _ _ _ _ _ _ _ _ a b K => lv_icmp_ne a b d ht (fun z => by rw [show r_ne x y = true from by simpa [r_ne] using z] at K; exact K) (fun z => by rw [show r_ne x y = false from by simpa [r_ne] using z] at K; exact K)
theorem c_ne_F {A B : Ex Int32} {off : Int} {pF : Nat} (ha : SE cvI mi Γ k pc p1 A) (hb : SE cvI mi Γ (k + 1) p1 p2 B) (d : decode mi.2.1 p2 = .ok (.if_icmp .eq off, 3)) (ht : (p2 : Int) + off = (pF : Int)) : SC mi Γ k pc (p2 + 3) pF (dCI r_ne A B) :=
  c_ci r_ne ha hb fun x y st _ _ _ _ _ _ _ _ _ _ _ _ _ _ _ _ a b K => lv_icmp_eq a b d ht (fun z => by rw [show r_ne x y = false from by simpa [r_ne] using z] at K; exact K) (fun z => by rw [show r_ne x y = true from by simpa [r_ne] using z] at K; exact K)
theorem c_ne_ZJ {A : Ex Int32} {off : Int} {pT : Nat} (ha : SE cvI mi Γ k pc p1 A) (d : decode mi.2.1 p1 = .ok (.ifCond .ne off, 3)) (ht : (p1 : Int) + off = (pT : Int)) : SC mi Γ k pc pT (p1 + 3) (dCZ q_ne A) :=
  c_cz q_ne ha fun x st _ _ _ _ _ _ _ _ _ _ _ _ _ _ _ _ a b K => lv_if_ne a b d ht (fun z => by rw [show q_ne x = true from by simpa [q_ne] using z] at K; exact K) (fun z => by rw [show q_ne x = false from by simpa [q_ne] using z] at K; exact K)
theorem c_ne_ZF {A : Ex Int32} {off : Int} {pF : Nat} (ha : SE cvI mi Γ k pc p1 A) (d : decode mi.2.1 p1 = .ok (.ifCond .eq off, 3)) (ht : (p1 : Int) + off = (pF : Int)) : SC mi Γ k pc (p1 + 3) pF (dCZ q_ne A) :=
  c_cz q_ne ha fun x st _ _ _ _ _ _ _ _ _ _ _ _ _ _ _ _ a b K => lv_if_eq a b d ht (fun z => by rw [show q_ne x = false from by simpa [q_ne] using z] at K; exact K) (fun z => by rw [show q_ne x = true from by simpa [q_ne] using z] at K; exact K)
end
