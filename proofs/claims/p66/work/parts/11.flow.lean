/-! sequences, choices, loops, returns -/
-- iteration: what comes at the first exit
def itN {σ β : Type} (B : σ → Option (σ ⊕ β)) : Nat → σ → Option β
  | 0, _ => none
  | n + 1, s => ob (B s) fun q => Sum.elim (fun s' => itN B n s') (fun b => some b) q
theorem itN_succ {σ β : Type} (B : σ → Option (σ ⊕ β)) (n : Nat) (s : σ) : itN B (n + 1) s = ob (B s) fun q => Sum.elim (fun s' => itN B n s') (fun b => some b) q := rfl
theorem itN_mono {σ β : Type} {B : σ → Option (σ ⊕ β)} : ∀ {n : Nat} {s : σ} {b : β}, itN B n s = some b → itN B (n + 1) s = some b := by
  intro n
  induction n with
  | zero => intro s b h; cases h
  | succ n ih =>
    intro s b h
    rw [itN_succ] at h ⊢
    obtain ⟨q, q1, q2⟩ := ob_some.mp h
    refine ob_some.mpr ⟨q, q1, ?_⟩
    rcases q with s' | b'
    · exact ih q2
    · exact q2
theorem itN_le {σ β : Type} {B : σ → Option (σ ⊕ β)} {n m : Nat} {s : σ} {b : β} (h : n ≤ m) (k : itN B n s = some b) : itN B m s = some b := by
  obtain ⟨d, rfl⟩ := Nat.le.dest h
  clear h
  induction d with
  | zero => exact k
  | succ d ih => exact itN_mono ih
theorem itN_det {σ β : Type} {B : σ → Option (σ ⊕ β)} {n m : Nat} {s : σ} {b c : β} (h : itN B n s = some b) (k : itN B m s = some c) : b = c := by
  have h1 := itN_le (Nat.le_max_left n m) h
  have k1 := itN_le (Nat.le_max_right n m) k
  exact Option.some.inj (h1.symm.trans k1)
noncomputable def iter {σ β : Type} (B : σ → Option (σ ⊕ β)) (s : σ) : Option β := @dite _ (∃ b n, itN B n s = some b) (Classical.propDecidable _) (fun h => some (Classical.choose h)) (fun _ => none)
theorem iter_iff {σ β : Type} {B : σ → Option (σ ⊕ β)} {s : σ} {b : β} : iter B s = some b ↔ ∃ n, itN B n s = some b := by
  unfold iter
  constructor
  · intro h
    split at h
    · rename_i h1
      cases h
      exact Classical.choose_spec h1
    · cases h
  · rintro ⟨n, h⟩
    have h1 : ∃ b n, itN B n s = some b := ⟨b, n, h⟩
    rw [dif_pos h1]
    obtain ⟨m, hm⟩ := Classical.choose_spec h1
    rw [itN_det hm h]
theorem iter_inl {σ β : Type} {B : σ → Option (σ ⊕ β)} {s s' : σ} (h : B s = some (.inl s')) : iter B s = iter B s' := by
  apply Option.ext
  intro b
  constructor
  · intro k
    obtain ⟨n, hn⟩ := iter_iff.mp k
    rcases n with _ | n
    · cases hn
    · rw [itN_succ, h] at hn
      exact iter_iff.mpr ⟨n, hn⟩
  · intro k
    obtain ⟨n, hn⟩ := iter_iff.mp k
    refine iter_iff.mpr ⟨n + 1, ?_⟩
    rw [itN_succ, h]
    exact hn
theorem iter_inr {σ β : Type} {B : σ → Option (σ ⊕ β)} {s : σ} {b : β} (h : B s = some (.inr b)) : iter B s = some b := iter_iff.mpr ⟨1, by rw [itN_succ, h]; rfl⟩
theorem iter_eq {σ β : Type} (B : σ → Option (σ ⊕ β)) (s : σ) : iter B s = ob (B s) fun q => Sum.elim (fun s' => iter B s') (fun b => some b) q := by
  rcases h : B s with _ | ⟨s' | b⟩
  · apply Option.ext
    intro b
    constructor
    · intro k
      obtain ⟨n, hn⟩ := iter_iff.mp k
      rcases n with _ | n
      · cases hn
      · rw [itN_succ, h] at hn
        cases hn
    · intro k
      cases k
  · rw [iter_inl h]
    rfl
  · rw [iter_inr h]
    rfl
theorem iter_rec {σ β : Type} {B : σ → Option (σ ⊕ β)} {P : σ → β → Prop} (h1 : ∀ s b, B s = some (.inr b) → P s b) (h2 : ∀ s s' b, B s = some (.inl s') → iter B s' = some b → P s' b → P s b) {s : σ} {b : β} (h : iter B s = some b) : P s b := by
  obtain ⟨n, hn⟩ := iter_iff.mp h
  clear h
  induction n generalizing s with
  | zero => cases hn
  | succ n ih =>
    rw [itN_succ] at hn
    obtain ⟨q, q1, q2⟩ := ob_some.mp hn
    rcases q with s' | b'
    · exact h2 s s' b q1 (iter_iff.mpr ⟨n, q2⟩) (ih q2)
    · cases q2
      exact h1 s _ q1
-- the statements
def dSkip {α : Type} : Sm α := fun f h => some (.inl 0, f, h)
def dBrk {α : Type} : Sm α := fun f h => some (.inl 1, f, h)
def dCnt {α : Type} : Sm α := fun f h => some (.inl 2, f, h)
def dRet {α : Type} (a : Ex α) : Sm α := fun f h => ob (a f h) fun q => some (.inr q.1, f, q.2)
def dRet0 : Sm Unit := fun f h => some (.inr (), f, h)
def dSeq {α : Type} (S T : Sm α) : Sm α := fun f h => ob (S f h) fun q => Sum.elim (fun n => if n = 0 then T q.2.1 q.2.2 else some (.inl n, q.2)) (fun v => some (.inr v, q.2)) q.1
def dIf {α : Type} (C : Cd) (S T : Sm α) : Sm α := fun f h => ob (C f h) fun q => if q.1 = true then S f q.2 else T f q.2
def dDo {α β : Type} (E : Ex β) : Sm α := fun f h => ob (E f h) fun q => some (.inl 0, f, q.2)
def lpS {α : Type} (cn : Fr → Fr) (C : Cd) (B U : Sm α) : Fr × St → Option ((Fr × St) ⊕ ((Nat ⊕ α) × Fr × St)) := fun s => ob (C s.1 s.2) fun q => if q.1 = true then ob (B s.1 q.2) fun w => Sum.elim (fun n => if n = 1 then some (.inr (.inl 0, cn w.2.1, w.2.2)) else ob (U w.2.1 w.2.2) fun z => Sum.elim (fun n' => if n' = 0 then some (.inl (cn z.2.1, z.2.2)) else none) (fun _ => none) z.1) (fun v => some (.inr (.inr v, w.2))) w.1 else some (.inr (.inl 0, s.1, q.2))
noncomputable def dLoop {α : Type} (cn : Fr → Fr) (C : Cd) (B U : Sm α) : Sm α := fun f h => iter (lpS cn C B U) (cn f, h)
def dwS {α : Type} (cn : Fr → Fr) (B : Sm α) (C : Cd) : Fr × St → Option ((Fr × St) ⊕ ((Nat ⊕ α) × Fr × St)) := fun s => ob (B s.1 s.2) fun w => Sum.elim (fun n => if n = 1 then some (.inr (.inl 0, cn w.2.1, w.2.2)) else ob (C w.2.1 w.2.2) fun q => if q.1 = true then some (.inl (cn w.2.1, q.2)) else some (.inr (.inl 0, cn w.2.1, q.2))) (fun v => some (.inr (.inr v, w.2))) w.1
noncomputable def dDoW {α : Type} (cn : Fr → Fr) (B : Sm α) (C : Cd) : Sm α := fun f h => iter (dwS cn B C) (cn f, h)
def dB (C : Cd) : Ex Int32 := fun f h => ob (C f h) fun q => some (if q.1 = true then 1 else 0, q.2)
def dT {α : Type} (C : Cd) (A B : Ex α) : Ex α := fun f h => ob (C f h) fun q => if q.1 = true then A f q.2 else B f q.2
def dNN (A : Ex Nat) : Cd := fun f h => ob (A f h) fun q => some (decide (q.1 ≠ 0), q.2)
-- where a jump lands
def LD (mi : MI) (X : List Nat) (x : Nat) : Prop := ∀ κ p l e R s m args below meth c nb sb Q, CXT mi κ p R s m args meth c → ∀ Γ f h st, (∀ y ∈ X, GO mi κ p l e R s m args below meth c nb sb Q Γ y f h st) → GO mi κ p l e R s m args below meth c nb sb Q Γ x f h st
def LDA (mi : MI) (X Y : List Nat) : Prop := ∀ y ∈ Y, LD mi X y
def gsub (Γ Γ' : Gm) : Bool := Γ'.all fun q => Γ.contains q
section
variable {mi : MI} {κ : KX} {p : Program} {l : Launch} {e : Env} {R : Room} {s : State} {m : MethodId} {args : Array Value} {below : List Frame} {meth : Method} {c : Code} {nb sb : Nat} {Q : State → Prop} {Γ Γ' : Gm} {f f' : Fr} {h : St} {st : List Value} {pc : Nat}
theorem GO.gsb (hs : gsub Γ Γ' = true) (K : GO mi κ p l e R s m args below meth c nb sb Q Γ' pc f h st) : GO mi κ p l e R s m args below meth c nb sb Q Γ pc f h st := by
  intro ls H locs a b d1 e1 e2
  refine K ls H locs ⟨a.1, a.2.1, fun q hq => ?_⟩ b d1 e1 e2
  obtain ⟨x, hx, rfl⟩ := List.mem_map.mp hq
  refine a.2.2 _ (List.mem_map.mpr ⟨x, ?_, rfl⟩)
  have h1 := List.all_eq_true.mp hs x hx
  simpa using h1
theorem GO.fr (he : Γ.map (lvv κ f') = Γ.map (lvv κ f)) (K : GO mi κ p l e R s m args below meth c nb sb Q Γ pc f' h st) : GO mi κ p l e R s m args below meth c nb sb Q Γ pc f h st := by
  intro ls H locs a b d1 e1 e2
  exact K ls H locs (by rw [he]; exact a) b d1 e1 e2
end
section
variable {α : Type} {rt : (KX → α → Option Value) × Instr} {mi : MI} {ΓL ΓH Γ Γ' Γ'' : Gm} {PB PK PB' PK' X XA XB XU Y : List Nat} {k x y pc pn pT pF pu p1 p2 p3 pe : Nat} {C D : Cd} {S T B U : Sm α} {cn : Fr → Fr}
theorem ld_in (h : X.contains x = true) : LD mi X x := fun κ p l e R s m args below meth c nb sb Q C Γ f hh st K => K x (by simpa using h)
theorem ld_goto {off : Int} (d : decode mi.2.1 x = .ok (.goto off, 3)) (ht : (x : Int) + off = (y : Int)) (h : LD mi X y) : LD mi X x := fun κ p l e R s m args below meth c nb sb Q C Γ f hh st K ls H locs a b d1 e1 e2 => lv_goto C.exec C.code d ht (h κ p l e R s m args below meth c nb sb Q C Γ f hh st K ls H locs a b d1 e1 e2)
theorem lda_nil : LDA mi X [] := fun y hy => absurd hy List.not_mem_nil
theorem lda_cons (h : LD mi X y) (t : LDA mi X Y) : LDA mi X (y :: Y) := fun z hz => by
  rcases List.mem_cons.mp hz with rfl | hz
  · exact h
  · exact t z hz
theorem tn_one (h : SS rt mi ΓL PB PK Γ Γ' p1 X S) : ∀ x ∈ [p1], SS rt mi ΓL PB PK Γ Γ' x X S := fun x hx => by
  rw [List.mem_singleton.mp hx]
  exact h
theorem tn_nil : ∀ x ∈ ([] : List Nat), SS rt mi ΓL PB PK Γ Γ' x X S := fun x hx => absurd hx List.not_mem_nil
theorem tn_cons (h : SS rt mi ΓL PB PK Γ Γ' p1 X S) (t : ∀ x ∈ Y, SS rt mi ΓL PB PK Γ Γ' x X S) : ∀ x ∈ p1 :: Y, SS rt mi ΓL PB PK Γ Γ' x X S := fun z hz => by
  rcases List.mem_cons.mp hz with rfl | hz
  · exact h
  · exact t z hz
/-- fewer locals behind it, other exits -/
theorem tn_to (h : SS rt mi ΓL PB PK Γ Γ' pc XA S) (x1 : LDA mi X XA) (hs : gsub Γ' Γ'' = true) : SS rt mi ΓL PB PK Γ Γ'' pc X S := by
  refine ⟨h.1, ?_⟩
  intro κ p l e R s m args below meth c nb sb Q C f h0 o f' h' q L K0 K1 K2 K3
  exact h.2 κ p l e R s m args below meth c nb sb Q C f h0 o f' h' q L (fun e0 x hx => GO.gsb hs (x1 x hx κ p l e R s m args below meth c nb sb Q C _ _ _ _ (K0 e0))) K1 K2 K3
theorem t_skip (x1 : LD mi X pc) (hs : gsub Γ Γ' = true) : SS rt mi ΓL PB PK Γ Γ' pc X dSkip := by
  refine ⟨fun f h o f' h' q => by cases q; exact LE.rf _, ?_⟩
  intro κ p l e R s m args below meth c nb sb Q C f h o f' h' q L K0 _ _ _
  cases q
  exact GO.gsb hs (x1 κ p l e R s m args below meth c nb sb Q C _ _ _ _ (K0 rfl))
theorem t_brk (x1 : LD mi PB pc) (hs : gsub Γ ΓL = true) : SS rt mi ΓL PB PK Γ Γ' pc X dBrk := by
  refine ⟨fun f h o f' h' q => by cases q; exact LE.rf _, ?_⟩
  intro κ p l e R s m args below meth c nb sb Q C f h o f' h' q L _ K1 _ _
  cases q
  exact GO.gsb hs (x1 κ p l e R s m args below meth c nb sb Q C _ _ _ _ (K1 rfl))
theorem t_cnt (x1 : LD mi PK pc) (hs : gsub Γ ΓL = true) : SS rt mi ΓL PB PK Γ Γ' pc X dCnt := by
  refine ⟨fun f h o f' h' q => by cases q; exact LE.rf _, ?_⟩
  intro κ p l e R s m args below meth c nb sb Q C f h o f' h' q L _ _ K2 _
  cases q
  exact GO.gsb hs (x1 κ p l e R s m args below meth c nb sb Q C _ _ _ _ (K2 rfl))
theorem go_nil {mi : MI} {κ : KX} {p : Program} {l : Launch} {e : Env} {R : Room} {s : State} {m : MethodId} {args : Array Value} {below : List Frame} {meth : Method} {c : Code} {nb sb : Nat} {Q : State → Prop} {Γ : Gm} {f : Fr} {h : St} {st : List Value} {pc : Nat} (K : GO mi κ p l e R s m args below meth c nb sb Q [] pc f h st) : GO mi κ p l e R s m args below meth c nb sb Q Γ pc f h st := GO.gsb rfl K
theorem t_ret {cv : KX → α → Value} {A : Ex α} (hrt : ∀ κ v, (rt.1 κ v).toList = [cv κ v]) (ha : SE cv mi Γ 0 pc p1 A) (d : decode mi.2.1 p1 = .ok (rt.2, 1)) : SS rt mi ΓL PB PK Γ Γ' pc X (dRet A) := by
  refine ⟨fun f h o f' h' q => ?_, ?_⟩
  · obtain ⟨⟨v, h1⟩, q1, q⟩ := ob_some.mp q
    cases q
    exact ha.1 _ _ _ _ q1
  · intro κ p l e R s m args below meth c nb sb Q C f h o f' h' q L _ _ _ K3
    obtain ⟨⟨v, h1⟩, q1, q⟩ := ob_some.mp q
    cases q
    refine ha.2 κ p l e R s m args below meth c nb sb Q C f h v h1 q1 L [] (Nat.le_refl _) ?_
    have k1 := K3 v rfl p1 f d
    rw [hrt] at k1
    exact go_nil k1
theorem t_ret0 {rt : (KX → Unit → Option Value) × Instr} (hrt : ∀ κ v, (rt.1 κ v).toList = []) (d : decode mi.2.1 pc = .ok (rt.2, 1)) : SS rt mi ΓL PB PK Γ Γ' pc X dRet0 := by
  refine ⟨fun f h o f' h' q => by cases q; exact LE.rf _, ?_⟩
  intro κ p l e R s m args below meth c nb sb Q C f h o f' h' q L _ _ _ K3
  cases q
  have k1 := K3 () rfl pc f d
  rw [hrt] at k1
  exact go_nil k1
theorem t_seq (h1 : SS rt mi ΓL PB PK Γ Γ' pc XA S) (h2 : ∀ x ∈ XA, SS rt mi ΓL PB PK Γ' Γ'' x X T) (hT : ∀ f h o f' h', T f h = some (o, f', h') → LE h h') : SS rt mi ΓL PB PK Γ Γ'' pc X (dSeq S T) := by
  refine ⟨fun f h o f' h' q => ?_, ?_⟩
  · obtain ⟨⟨o1, f1, g1⟩, q1, q⟩ := ob_some.mp q
    rcases o1 with n | v
    · dsimp only [Sum.elim_inl] at q
      split at q
      · exact (h1.1 _ _ _ _ _ q1).tr (hT _ _ _ _ _ q)
      · cases q
        exact h1.1 _ _ _ _ _ q1
    · cases q
      exact h1.1 _ _ _ _ _ q1
  · intro κ p l e R s m args below meth c nb sb Q C f h o f' h' q L K0 K1 K2 K3
    obtain ⟨⟨o1, f1, g1⟩, q1, q⟩ := ob_some.mp q
    rcases o1 with n | v
    · dsimp only [Sum.elim_inl] at q
      split at q
      · rename_i hn
        subst hn
        exact h1.2 κ p l e R s m args below meth c nb sb Q C f h _ f1 g1 q1 (L.le (hT _ _ _ _ _ q)) (fun _ x hx => (h2 x hx).2 κ p l e R s m args below meth c nb sb Q C f1 g1 o f' h' q L K0 K1 K2 K3) (fun z => by cases z) (fun z => by cases z) (fun v z => by cases z)
      · rename_i hn
        cases q
        exact h1.2 κ p l e R s m args below meth c nb sb Q C f h _ _ _ q1 L (fun z => absurd (Sum.inl.inj z) hn) K1 K2 K3
    · cases q
      exact h1.2 κ p l e R s m args below meth c nb sb Q C f h _ _ _ q1 L (fun z => by cases z) K1 K2 K3
theorem t_sq (h1 : SS rt mi ΓL PB PK Γ Γ' pc [p1] S) (h2 : SS rt mi ΓL PB PK Γ' Γ'' p1 X T) : SS rt mi ΓL PB PK Γ Γ'' pc X (dSeq S T) := t_seq h1 (tn_one h2) h2.1
theorem t_if (hc : SC mi Γ 0 pc pT pF C) (h1 : SS rt mi ΓL PB PK Γ Γ' pT XA S) (h2 : SS rt mi ΓL PB PK Γ Γ' pF XB T) (x1 : LDA mi X XA) (x2 : LDA mi X XB) : SS rt mi ΓL PB PK Γ Γ' pc X (dIf C S T) := by
  refine ⟨fun f h o f' h' q => ?_, ?_⟩
  · obtain ⟨⟨b, g1⟩, q1, q⟩ := ob_some.mp q
    dsimp only at q
    split at q
    · exact (hc.1 _ _ _ _ q1).tr (h1.1 _ _ _ _ _ q)
    · exact (hc.1 _ _ _ _ q1).tr (h2.1 _ _ _ _ _ q)
  · intro κ p l e R s m args below meth c nb sb Q C f h o f' h' q L K0 K1 K2 K3
    obtain ⟨⟨b, g1⟩, q1, q⟩ := ob_some.mp q
    dsimp only at q
    split at q
    · rename_i hb
      subst hb
      exact hc.2 κ p l e R s m args below meth c nb sb Q C f h true g1 q1 (L.le (h1.1 _ _ _ _ _ q)) [] (Nat.le_refl _) (h1.2 κ p l e R s m args below meth c nb sb Q C f g1 o f' h' q L (fun e0 x hx => x1 x hx κ p l e R s m args below meth c nb sb Q C _ _ _ _ (K0 e0)) K1 K2 K3)
    · rename_i hb
      rw [Bool.not_eq_true] at hb
      subst hb
      exact hc.2 κ p l e R s m args below meth c nb sb Q C f h false g1 q1 (L.le (h2.1 _ _ _ _ _ q)) [] (Nat.le_refl _) (h2.2 κ p l e R s m args below meth c nb sb Q C f g1 o f' h' q L (fun e0 x hx => x2 x hx κ p l e R s m args below meth c nb sb Q C _ _ _ _ (K0 e0)) K1 K2 K3)
theorem t_loop (hcn : ∀ κ f, ΓH.map (lvv κ (cn f)) = ΓH.map (lvv κ f)) (hs : gsub Γ ΓH = true) (hc : SC mi ΓH 0 pc pT pF C) (hb : SS rt mi ΓH PB' PK' ΓH ΓH pT XB B) (hu : SS rt mi [] [] [] ΓH ΓH pu XU U)
    (x1 : LDA mi [pu] XB) (x2 : LDA mi [pu] PK') (x3 : LDA mi [pc] XU) (x4 : LD mi X pF) (x5 : LDA mi X PB') : SS rt mi ΓL PB PK Γ ΓH pc X (dLoop cn C B U) := by
  have hle : ∀ s r, iter (lpS cn C B U) s = some r → LE s.2 r.2.2 := by
    intro s r hr
    refine iter_rec (P := fun s r => LE s.2 r.2.2) (fun s b hq => ?_) (fun s s' b hq _ ih => ?_) hr
    · obtain ⟨⟨b1, g1⟩, q1, q⟩ := ob_some.mp hq
      dsimp only at q
      split at q
      · obtain ⟨⟨o1, f1, g2⟩, q2, q⟩ := ob_some.mp q
        rcases o1 with n | v
        · dsimp only [Sum.elim_inl] at q
          split at q
          · cases q
            exact (hc.1 _ _ _ _ q1).tr (hb.1 _ _ _ _ _ q2)
          · obtain ⟨⟨o2, f2, g3⟩, q3, q⟩ := ob_some.mp q
            rcases o2 with n2 | v2
            · dsimp only [Sum.elim_inl] at q
              split at q <;> cases q
            · cases q
        · cases q
          exact (hc.1 _ _ _ _ q1).tr (hb.1 _ _ _ _ _ q2)
      · cases q
        exact hc.1 _ _ _ _ q1
    · obtain ⟨⟨b1, g1⟩, q1, q⟩ := ob_some.mp hq
      dsimp only at q
      split at q
      · obtain ⟨⟨o1, f1, g2⟩, q2, q⟩ := ob_some.mp q
        rcases o1 with n | v
        · dsimp only [Sum.elim_inl] at q
          split at q
          · cases q
          · obtain ⟨⟨o2, f2, g3⟩, q3, q⟩ := ob_some.mp q
            rcases o2 with n2 | v2
            · dsimp only [Sum.elim_inl] at q
              split at q
              · cases q
                exact ((hc.1 _ _ _ _ q1).tr (hb.1 _ _ _ _ _ q2)).tr ((hu.1 _ _ _ _ _ q3).tr ih)
              · cases q
            · cases q
        · cases q
      · cases q
  refine ⟨fun f h o f' h' q => hle _ _ q, ?_⟩
  intro κ p l e R s m args below meth c nb sb Q CX f h o f' h' q L K0 K1 K2 K3
  have main : ∀ z r, iter (lpS cn C B U) z = some r → r = (o, f', h') → GO mi κ p l e R s m args below meth c nb sb Q ΓH pc z.1 z.2 [] := by
    intro z r hr
    refine iter_rec (P := fun z r => r = (o, f', h') → GO mi κ p l e R s m args below meth c nb sb Q ΓH pc z.1 z.2 []) (fun z b hq er => ?_) (fun z z' b hq hit ih er => ?_) hr
    · subst er
      obtain ⟨⟨b1, g1⟩, q1, q⟩ := ob_some.mp hq
      dsimp only at q
      split at q
      · rename_i hb1
        subst hb1
        obtain ⟨⟨o1, f1, g2⟩, q2, q⟩ := ob_some.mp q
        rcases o1 with n | v
        · dsimp only [Sum.elim_inl] at q
          split at q
          · rename_i hn
            subst hn
            cases q
            refine hc.2 κ p l e R s m args below meth c nb sb Q CX z.1 z.2 true g1 q1 (L.le (hb.1 _ _ _ _ _ q2)) [] (Nat.le_refl _) ?_
            exact hb.2 κ p l e R s m args below meth c nb sb Q CX z.1 g1 _ f1 _ q2 L (fun w => by cases w) (fun _ x hx => GO.fr (hcn κ f1) (x5 x hx κ p l e R s m args below meth c nb sb Q CX _ _ _ _ (K0 rfl))) (fun w => by cases w) (fun v w => by cases w)
          · obtain ⟨⟨o2, f2, g3⟩, q3, q⟩ := ob_some.mp q
            rcases o2 with n2 | v2
            · dsimp only [Sum.elim_inl] at q
              split at q <;> cases q
            · cases q
        · cases q
          refine hc.2 κ p l e R s m args below meth c nb sb Q CX z.1 z.2 true g1 q1 (L.le (hb.1 _ _ _ _ _ q2)) [] (Nat.le_refl _) ?_
          exact hb.2 κ p l e R s m args below meth c nb sb Q CX z.1 g1 _ _ _ q2 L (fun w => by cases w) (fun w => by cases w) (fun w => by cases w) K3
      · rename_i hb1
        rw [Bool.not_eq_true] at hb1
        subst hb1
        cases q
        exact hc.2 κ p l e R s m args below meth c nb sb Q CX z.1 z.2 false _ q1 L [] (Nat.le_refl _) (x4 κ p l e R s m args below meth c nb sb Q CX _ _ _ _ (K0 rfl))
    · subst er
      have hl2 := hle _ _ hit
      obtain ⟨⟨b1, g1⟩, q1, q⟩ := ob_some.mp hq
      dsimp only at q
      split at q
      · rename_i hb1
        subst hb1
        obtain ⟨⟨o1, f1, g2⟩, q2, q⟩ := ob_some.mp q
        rcases o1 with n | v
        · dsimp only [Sum.elim_inl] at q
          split at q
          · cases q
          · rename_i hn
            obtain ⟨⟨o2, f2, g3⟩, q3, q⟩ := ob_some.mp q
            rcases o2 with n2 | v2
            · dsimp only [Sum.elim_inl] at q
              split at q
              · rename_i hn2
                subst hn2
                cases q
                have kh := GO.fr (hcn κ f2) (ih rfl)
                have ku := hu.2 κ p l e R s m args below meth c nb sb Q CX f1 g2 _ f2 g3 q3 (L.le hl2) (fun _ x hx => x3 x hx κ p l e R s m args below meth c nb sb Q CX _ _ _ _ (fun y hy => by rw [List.mem_singleton.mp hy]; exact kh)) (fun w => by cases w) (fun w => by cases w) (fun v w => by cases w)
                have ku1 : ∀ y ∈ [pu], GO mi κ p l e R s m args below meth c nb sb Q ΓH y f1 g2 [] := fun y hy => by rw [List.mem_singleton.mp hy]; exact ku
                refine hc.2 κ p l e R s m args below meth c nb sb Q CX z.1 z.2 true g1 q1 (L.le ((hb.1 _ _ _ _ _ q2).tr ((hu.1 _ _ _ _ _ q3).tr hl2))) [] (Nat.le_refl _) ?_
                exact hb.2 κ p l e R s m args below meth c nb sb Q CX z.1 g1 _ f1 g2 q2 (L.le ((hu.1 _ _ _ _ _ q3).tr hl2)) (fun _ x hx => x1 x hx κ p l e R s m args below meth c nb sb Q CX _ _ _ _ ku1) (fun w => absurd (Sum.inl.inj w) hn) (fun _ x hx => x2 x hx κ p l e R s m args below meth c nb sb Q CX _ _ _ _ ku1) (fun v w => by cases w)
              · cases q
            · cases q
        · cases q
      · cases q
  exact GO.gsb hs (GO.fr (hcn κ f) (main _ _ q rfl))
theorem t_dow (hcn : ∀ κ f, ΓH.map (lvv κ (cn f)) = ΓH.map (lvv κ f)) (hs : gsub Γ ΓH = true) (hb : SS rt mi ΓH PB' PK' ΓH ΓH pc XB B) (hc : SC mi ΓH 0 pu pc pF C)
    (x1 : LDA mi [pu] XB) (x2 : LDA mi [pu] PK') (x4 : LD mi X pF) (x5 : LDA mi X PB') : SS rt mi ΓL PB PK Γ ΓH pc X (dDoW cn B C) := by
  have hle : ∀ s r, iter (dwS cn B C) s = some r → LE s.2 r.2.2 := by
    intro s r hr
    refine iter_rec (P := fun s r => LE s.2 r.2.2) (fun s b hq => ?_) (fun s s' b hq _ ih => ?_) hr
    · obtain ⟨⟨o1, f1, g2⟩, q2, q⟩ := ob_some.mp hq
      rcases o1 with n | v
      · dsimp only [Sum.elim_inl] at q
        split at q
        · cases q
          exact hb.1 _ _ _ _ _ q2
        · obtain ⟨⟨b1, g1⟩, q1, q⟩ := ob_some.mp q
          dsimp only at q
          split at q
          · cases q
          · cases q
            exact (hb.1 _ _ _ _ _ q2).tr (hc.1 _ _ _ _ q1)
      · cases q
        exact hb.1 _ _ _ _ _ q2
    · obtain ⟨⟨o1, f1, g2⟩, q2, q⟩ := ob_some.mp hq
      rcases o1 with n | v
      · dsimp only [Sum.elim_inl] at q
        split at q
        · cases q
        · obtain ⟨⟨b1, g1⟩, q1, q⟩ := ob_some.mp q
          dsimp only at q
          split at q
          · cases q
            exact (hb.1 _ _ _ _ _ q2).tr ((hc.1 _ _ _ _ q1).tr ih)
          · cases q
      · cases q
  refine ⟨fun f h o f' h' q => hle _ _ q, ?_⟩
  intro κ p l e R s m args below meth c nb sb Q CX f h o f' h' q L K0 K1 K2 K3
  have main : ∀ z r, iter (dwS cn B C) z = some r → r = (o, f', h') → GO mi κ p l e R s m args below meth c nb sb Q ΓH pc z.1 z.2 [] := by
    intro z r hr
    refine iter_rec (P := fun z r => r = (o, f', h') → GO mi κ p l e R s m args below meth c nb sb Q ΓH pc z.1 z.2 []) (fun z b hq er => ?_) (fun z z' b hq hit ih er => ?_) hr
    · subst er
      obtain ⟨⟨o1, f1, g2⟩, q2, q⟩ := ob_some.mp hq
      rcases o1 with n | v
      · dsimp only [Sum.elim_inl] at q
        split at q
        · rename_i hn
          subst hn
          cases q
          exact hb.2 κ p l e R s m args below meth c nb sb Q CX z.1 z.2 _ f1 _ q2 L (fun w => by cases w) (fun _ x hx => GO.fr (hcn κ f1) (x5 x hx κ p l e R s m args below meth c nb sb Q CX _ _ _ _ (K0 rfl))) (fun w => by cases w) (fun v w => by cases w)
        · rename_i hn
          obtain ⟨⟨b1, g1⟩, q1, q⟩ := ob_some.mp q
          dsimp only at q
          split at q
          · cases q
          · rename_i hb1
            rw [Bool.not_eq_true] at hb1
            subst hb1
            cases q
            have kc := hc.2 κ p l e R s m args below meth c nb sb Q CX f1 g2 false _ q1 L [] (Nat.le_refl _) (GO.fr (hcn κ f1) (x4 κ p l e R s m args below meth c nb sb Q CX _ _ _ _ (K0 rfl)))
            have kc1 : ∀ y ∈ [pu], GO mi κ p l e R s m args below meth c nb sb Q ΓH y f1 g2 [] := fun y hy => by rw [List.mem_singleton.mp hy]; exact kc
            exact hb.2 κ p l e R s m args below meth c nb sb Q CX z.1 z.2 _ f1 g2 q2 (L.le (hc.1 _ _ _ _ q1)) (fun _ x hx => x1 x hx κ p l e R s m args below meth c nb sb Q CX _ _ _ _ kc1) (fun w => absurd (Sum.inl.inj w) hn) (fun _ x hx => x2 x hx κ p l e R s m args below meth c nb sb Q CX _ _ _ _ kc1) (fun v w => by cases w)
      · cases q
        exact hb.2 κ p l e R s m args below meth c nb sb Q CX z.1 z.2 _ _ _ q2 L (fun w => by cases w) (fun w => by cases w) (fun w => by cases w) K3
    · subst er
      have hl2 := hle _ _ hit
      obtain ⟨⟨o1, f1, g2⟩, q2, q⟩ := ob_some.mp hq
      rcases o1 with n | v
      · dsimp only [Sum.elim_inl] at q
        split at q
        · cases q
        · rename_i hn
          obtain ⟨⟨b1, g1⟩, q1, q⟩ := ob_some.mp q
          dsimp only at q
          split at q
          · rename_i hb1
            subst hb1
            cases q
            have kc := hc.2 κ p l e R s m args below meth c nb sb Q CX f1 g2 true _ q1 (L.le hl2) [] (Nat.le_refl _) (GO.fr (hcn κ f1) (ih rfl))
            have kc1 : ∀ y ∈ [pu], GO mi κ p l e R s m args below meth c nb sb Q ΓH y f1 g2 [] := fun y hy => by rw [List.mem_singleton.mp hy]; exact kc
            exact hb.2 κ p l e R s m args below meth c nb sb Q CX z.1 z.2 _ f1 g2 q2 (L.le ((hc.1 _ _ _ _ q1).tr hl2)) (fun _ x hx => x1 x hx κ p l e R s m args below meth c nb sb Q CX _ _ _ _ kc1) (fun w => absurd (Sum.inl.inj w) hn) (fun _ x hx => x2 x hx κ p l e R s m args below meth c nb sb Q CX _ _ _ _ kc1) (fun v w => by cases w)
          · cases q
      · cases q
  exact GO.gsb hs (GO.fr (hcn κ f) (main _ _ q rfl))
-- conditions
theorem c_nn_F {A : Ex Nat} {off : Int} (ha : SE cvR mi Γ k pc p1 A) (d : decode mi.2.1 p1 = .ok (.ifnull off, 3)) (ht : (p1 : Int) + off = (pF : Int)) : SC mi Γ k pc (p1 + 3) pF (dNN A) := by
  refine ⟨fun f h v h' q => ?_, ?_⟩
  · obtain ⟨⟨b, g1⟩, q1, q⟩ := ob_some.mp q
    cases q
    exact ha.1 _ _ _ _ q1
  · intro κ p l e R s m args below meth c nb sb Q CX f h v h' q L st hst K
    obtain ⟨⟨r, g1⟩, q1, q⟩ := ob_some.mp q
    cases q
    refine ha.2 κ p l e R s m args below meth c nb sb Q CX f h r _ q1 L st hst ?_
    intro ls H locs a b d1 e1 e2
    have k1 := K ls H locs a b d1 e1 e2
    unfold cvR rv
    by_cases hr : r = 0
    · rw [if_pos hr]
      simp only [hr, ne_eq, not_true_eq_false, decide_false, Bool.false_eq_true, if_false] at k1
      exact lv_ifnullN CX.exec CX.code d ht k1
    · rw [if_neg hr]
      simp only [hr, ne_eq, not_false_eq_true, decide_true, if_true] at k1
      exact lv_ifnull CX.exec CX.code d k1
theorem c_nn_J {A : Ex Nat} {off : Int} (ha : SE cvR mi Γ k pc p1 A) (d : decode mi.2.1 p1 = .ok (.ifnonnull off, 3)) (ht : (p1 : Int) + off = (pT : Int)) : SC mi Γ k pc pT (p1 + 3) (dNN A) := by
  refine ⟨fun f h v h' q => ?_, ?_⟩
  · obtain ⟨⟨b, g1⟩, q1, q⟩ := ob_some.mp q
    cases q
    exact ha.1 _ _ _ _ q1
  · intro κ p l e R s m args below meth c nb sb Q CX f h v h' q L st hst K
    obtain ⟨⟨r, g1⟩, q1, q⟩ := ob_some.mp q
    cases q
    refine ha.2 κ p l e R s m args below meth c nb sb Q CX f h r _ q1 L st hst ?_
    intro ls H locs a b d1 e1 e2
    have k1 := K ls H locs a b d1 e1 e2
    unfold cvR rv
    by_cases hr : r = 0
    · rw [if_pos hr]
      simp only [hr, ne_eq, not_true_eq_false, decide_false, Bool.false_eq_true, if_false] at k1
      exact lv_ifnonnullN CX.exec CX.code d k1
    · rw [if_neg hr]
      simp only [hr, ne_eq, not_false_eq_true, decide_true, if_true] at k1
      exact lv_ifnonnull CX.exec CX.code d ht k1
/-- a choice of two values -/
theorem s_T {α : Type} {cv : KX → α → Value} {A B : Ex α} (hc : SC mi Γ k pc pT pF C) (ha : SE cv mi Γ k pT p1 A) (hb : SE cv mi Γ k pF pe B) (x1 : LD mi [pe] p1) : SE cv mi Γ k pc pe (dT C A B) := by
  refine ⟨fun f h v h' q => ?_, ?_⟩
  · obtain ⟨⟨b, g1⟩, q1, q⟩ := ob_some.mp q
    dsimp only at q
    split at q
    · exact (hc.1 _ _ _ _ q1).tr (ha.1 _ _ _ _ q)
    · exact (hc.1 _ _ _ _ q1).tr (hb.1 _ _ _ _ q)
  · intro κ p l e R s m args below meth c nb sb Q CX f h v h' q L st hst K
    obtain ⟨⟨b, g1⟩, q1, q⟩ := ob_some.mp q
    dsimp only at q
    split at q
    · rename_i hb
      subst hb
      exact hc.2 κ p l e R s m args below meth c nb sb Q CX f h true _ q1 (L.le (ha.1 _ _ _ _ q)) st hst (ha.2 κ p l e R s m args below meth c nb sb Q CX f g1 v h' q L st hst (x1 κ p l e R s m args below meth c nb sb Q CX _ _ _ _ (fun y hy => by rw [List.mem_singleton.mp hy]; exact K)))
    · rename_i hb
      rw [Bool.not_eq_true] at hb
      subst hb
      exact hc.2 κ p l e R s m args below meth c nb sb Q CX f h false _ q1 (L.le (hb.1 _ _ _ _ q)) st hst (hb.2 κ p l e R s m args below meth c nb sb Q CX f g1 v h' q L st hst K)
theorem dB_eq (C : Cd) : dB C = dT C (cI 1) (cI 0) := by
  funext f h
  unfold dB dT ob
  rcases C f h with _ | ⟨b, h1⟩
  · rfl
  · cases b <;> rfl
theorem s_B {pe : Nat} {off : Int} (hc : SC mi Γ k pc pT pF C) (d1 : decode mi.2.1 pT = .ok (.iconst 1, 1)) (d2 : decode mi.2.1 (pT + 1) = .ok (.goto off, 3)) (ht : ((pT + 1 : Nat) : Int) + off = (pe : Int)) (d3 : decode mi.2.1 pF = .ok (.iconst 0, 1)) (he : pF + 1 = pe) : SE cvI mi Γ k pc pe (dB C) := by
  subst he
  rw [dB_eq]
  exact s_T hc (s_iconst d1 rfl) (s_iconst d3 rfl) (ld_goto d2 ht (ld_in (by simp)))
end
