/-! statements -/
def gok1 (Γ Γ' : Gm) (i t : Nat) : Bool := Γ'.all fun q => q == (i, t) || (Γ.contains q && !(q.1 == i) && !(q.1 + 1 == i && q.2 == 1))
def gok2 (Γ Γ' : Gm) (i : Nat) : Bool := Γ'.all fun q => q == (i, 1) || (Γ.contains q && !(q.1 == i) && !(q.1 == i + 1) && !(q.1 + 1 == i && q.2 == 1))
theorem lvv_cat (κ : KX) (f : Fr) (q : Nat × Nat) (h : (lvv κ f q).2.category = 2) : q.2 = 1 := by
  unfold lvv at h
  by_cases h0 : q.2 = 0
  · simp [h0, Value.category] at h
  · by_cases h1 : q.2 = 1
    · exact h1
    · simp only [h0, h1, if_false] at h
      rcases rv_or κ (gR f q.1) with z | ⟨x, z⟩ <;> rw [z] at h <;> cases h
theorem lv_in1 {κ : KX} {f f' : Fr} {Γ Γ' : Gm} {i t nL : Nat} {ls : Array Slot} {v : Value} (ok : gok1 Γ Γ' i t = true) (h : lv_has ls nL ((i, v) :: (Γ.map (lvv κ f)).filter (fun q => !(q.1 == i) && !(q.1 + 1 == i && q.2.category == 2)))) (hv : lvv κ f' (i, t) = (i, v)) (ho : ∀ q : Nat × Nat, q.1 ≠ i → lvv κ f' q = lvv κ f q) : lv_has ls nL (Γ'.map (lvv κ f')) := by
  refine ⟨h.1, h.2.1, fun q hq => ?_⟩
  obtain ⟨x, hx, rfl⟩ := List.mem_map.mp hq
  have h1 := List.all_eq_true.mp ok x hx
  apply h.2.2
  simp only [Bool.or_eq_true, Bool.and_eq_true, Bool.not_eq_true', beq_iff_eq, List.contains_eq_mem, decide_eq_true_eq, beq_eq_false_iff_ne] at h1
  rcases h1 with h1 | ⟨⟨h1, h2⟩, h3⟩
  · rw [h1, hv]
    exact List.mem_cons_self
  · rw [ho x h2]
    refine List.mem_cons_of_mem _ (List.mem_filter.mpr ⟨List.mem_map.mpr ⟨x, h1, rfl⟩, ?_⟩)
    simp only [Bool.and_eq_true, Bool.not_eq_true', beq_eq_false_iff_ne]
    refine ⟨h2, ?_⟩
    cases hz : ((lvv κ f x).1 + 1 == i && (lvv κ f x).2.category == 2) with
    | false => rfl
    | true =>
      simp only [Bool.and_eq_true, beq_iff_eq] at hz
      exact absurd (lvv_cat κ f x hz.2) (fun q => by
        have e : x.1 + 1 = i := hz.1
        rw [Bool.and_eq_false_iff] at h3
        rcases h3 with h3 | h3
        · rw [beq_eq_false_iff_ne] at h3
          exact h3 e
        · rw [beq_eq_false_iff_ne] at h3
          exact h3 q)
theorem lv_in2 {κ : KX} {f f' : Fr} {Γ Γ' : Gm} {i nL : Nat} {ls : Array Slot} {v : Value} (ok : gok2 Γ Γ' i = true) (h : lv_has ls nL ((i, v) :: (Γ.map (lvv κ f)).filter (fun q => !(q.1 == i) && (!(q.1 == i + 1) && !(q.1 + 1 == i && q.2.category == 2))))) (hv : lvv κ f' (i, 1) = (i, v)) (ho : ∀ q : Nat × Nat, q.1 ≠ i → lvv κ f' q = lvv κ f q) : lv_has ls nL (Γ'.map (lvv κ f')) := by
  refine ⟨h.1, h.2.1, fun q hq => ?_⟩
  obtain ⟨x, hx, rfl⟩ := List.mem_map.mp hq
  have h1 := List.all_eq_true.mp ok x hx
  apply h.2.2
  simp only [Bool.or_eq_true, Bool.and_eq_true, Bool.not_eq_true', beq_iff_eq, List.contains_eq_mem, decide_eq_true_eq, beq_eq_false_iff_ne] at h1
  rcases h1 with h1 | ⟨⟨⟨h1, h2⟩, h4⟩, h3⟩
  · rw [h1, hv]
    exact List.mem_cons_self
  · rw [ho x h2]
    refine List.mem_cons_of_mem _ (List.mem_filter.mpr ⟨List.mem_map.mpr ⟨x, h1, rfl⟩, ?_⟩)
    simp only [Bool.and_eq_true, Bool.not_eq_true', beq_eq_false_iff_ne]
    refine ⟨h2, h4, ?_⟩
    cases hz : ((lvv κ f x).1 + 1 == i && (lvv κ f x).2.category == 2) with
    | false => rfl
    | true =>
      simp only [Bool.and_eq_true, beq_iff_eq] at hz
      exact absurd (lvv_cat κ f x hz.2) (fun q => by
        have e : x.1 + 1 = i := hz.1
        rw [Bool.and_eq_false_iff] at h3
        rcases h3 with h3 | h3
        · rw [beq_eq_false_iff_ne] at h3
          exact h3 e
        · rw [beq_eq_false_iff_ne] at h3
          exact h3 q)
theorem lvv_sI (κ : KX) (f : Fr) (i : Nat) (x : Int32) (q : Nat × Nat) (h : q.1 ≠ i) : lvv κ (sI f i x) q = lvv κ f q := by
  simp [lvv, gI, gL, gR, sI, h]
theorem lvv_sL (κ : KX) (f : Fr) (i : Nat) (x : Int64) (q : Nat × Nat) (h : q.1 ≠ i) : lvv κ (sL f i x) q = lvv κ f q := by
  simp [lvv, gI, gL, gR, sL, h]
theorem lvv_sR (κ : KX) (f : Fr) (i : Nat) (x : Nat) (q : Nat × Nat) (h : q.1 ≠ i) : lvv κ (sR f i x) q = lvv κ f q := by
  simp [lvv, gI, gL, gR, sR, h]
def dSetI {α : Type} (i : Nat) (a : Ex Int32) : Sm α := fun f h => match a f h with
  | none => none
  | some (x, h1) => some (.inl 0, sI f i x, h1)
def dSetL {α : Type} (i : Nat) (a : Ex Int64) : Sm α := fun f h => match a f h with
  | none => none
  | some (x, h1) => some (.inl 0, sL f i x, h1)
def dSetR {α : Type} (i : Nat) (a : Ex Nat) : Sm α := fun f h => match a f h with
  | none => none
  | some (x, h1) => some (.inl 0, sR f i x, h1)
def dInc {α : Type} (i : Nat) (n : Int32) : Sm α := fun f h => some (.inl 0, sI f i (gI f i + n), h)
section
variable {α : Type} {rt : (KX → α → Option Value) × Instr} {mi : MI} {ΓL Γ Γ' : Gm} {PB PK : List Nat} {k pc pn p1 p2 : Nat}
/-- a value, then the instruction that takes it -/
theorem t_1 {β : Type} {ca : KX → β → Value} {A : Ex β} {S : Sm α} (g : β → Fr → St → Option (Fr × St)) (hS : ∀ f h, S f h = match A f h with | none => none | some (x, h1) => match g x f h1 with | none => none | some (f2, h2) => some (.inl 0, f2, h2))
    (hle : ∀ x f h f2 h2, g x f h = some (f2, h2) → LE h h2)
    (hu : ∀ κ p l e R s m args below meth c nb sb Q, CXT mi κ p R s m args meth c → ∀ f h x f2 h2, g x f h = some (f2, h2) → LIM R nb sb h2 → GO mi κ p l e R s m args below meth c nb sb Q Γ' pn f2 h2 [] → GO mi κ p l e R s m args below meth c nb sb Q Γ p1 f h [ca κ x])
    (ha : SE ca mi Γ 0 pc p1 A) : SS rt mi ΓL PB PK Γ Γ' pc [pn] S := by
  refine ⟨fun f h o f' h' q => ?_, ?_⟩
  · rw [hS] at q
    split at q
    · cases q
    · rename_i x h1 q1
      split at q
      · cases q
      · rename_i f2 h2 q2
        cases q
        exact (ha.1 _ _ _ _ q1).tr (hle _ _ _ _ _ q2)
  · intro κ p l e R s m args below meth c nb sb Q C f h o f' h' q L K0 _ _ _
    rw [hS] at q
    split at q
    · cases q
    · rename_i x h1 q1
      split at q
      · cases q
      · rename_i f2 h2 q2
        cases q
        exact ha.2 κ p l e R s m args below meth c nb sb Q C f h x h1 q1 (L.le (hle _ _ _ _ _ q2)) [] (Nat.le_refl _) (hu κ p l e R s m args below meth c nb sb Q C f h1 x f' h' q2 L (K0 rfl _ (List.mem_singleton.mpr rfl)))
theorem t_setI_of {i : Nat} {A : Ex Int32} (ok : gok1 Γ Γ' i 0 = true) (ha : SE cvI mi Γ 0 pc p1 A)
    (hu : ∀ {p : Program} {l : Launch} {e : Env} {R : Room} {s : State} {m : MethodId} {args : Array Value} {below : List Frame} {meth : Method} {c : Code} {H : Heap} {locs : List Loc} {cells slots : Nat} {Q : State → Prop} {ls : Array Slot} {x : Int32} {lv : List (Nat × Value)}, p.tables.exec = Jvm.exec → c.code = mi.2.1 → lv_has ls mi.2.2.1 lv → (∀ ls' : Array Slot, lv_has ls' mi.2.2.1 ((i, .int x) :: lv.filter (fun q => !(q.1 == i) && !(q.1 + 1 == i && q.2.category == 2))) → W p l e R s m args below meth c H locs cells slots Q (F0 m pn ls' [])) → W p l e R s m args below meth c H locs cells slots Q (F0 m p1 ls [.int x])) : SS rt mi ΓL PB PK Γ Γ' pc [pn] (dSetI i A) := by
  refine t_1 (fun x f h => some (sI f i x, h)) (fun f h => by unfold dSetI; rcases A f h with _ | ⟨x, h1⟩ <;> rfl) (fun x f h f2 h2 q => by cases q; exact LE.rf _) (fun κ p l e R s m args below meth c nb sb Q C f h x f2 h2 q _ K => ?_) ha
  cases q
  intro ls H locs a b d1 e1 e2
  exact hu C.exec C.code a fun ls' a' => K ls' H locs (lv_in1 ok a' (by simp [lvv, gI, sI]) (lvv_sI κ f i x)) b d1 e1 e2
theorem t_istore_n {q : Fin 4} {i : Nat} {A : Ex Int32} (ha : SE cvI mi Γ 0 pc p1 A) (d : decode mi.2.1 p1 = .ok (.istore_n q, 1)) (hi : (q : Nat) = i) (hn : Nat.blt i mi.2.2.1 = true) (ok : gok1 Γ Γ' i 0 = true) : SS rt mi ΓL PB PK Γ Γ' pc [p1 + 1] (dSetI i A) :=
  t_setI_of ok ha fun a b h K => lv_istore_n a b d hi h (by simpa using hn) rfl K
theorem t_istore {i : Nat} {A : Ex Int32} (ha : SE cvI mi Γ 0 pc p1 A) (d : decode mi.2.1 p1 = .ok (.istore i, 2)) (hn : Nat.blt i mi.2.2.1 = true) (ok : gok1 Γ Γ' i 0 = true) : SS rt mi ΓL PB PK Γ Γ' pc [p1 + 2] (dSetI i A) :=
  t_setI_of ok ha fun a b h K => lv_istore a b d h (by simpa using hn) rfl K
theorem t_setL_of {i : Nat} {A : Ex Int64} (ok : gok2 Γ Γ' i = true) (ha : SE cvL mi Γ 0 pc p1 A)
    (hu : ∀ {p : Program} {l : Launch} {e : Env} {R : Room} {s : State} {m : MethodId} {args : Array Value} {below : List Frame} {meth : Method} {c : Code} {H : Heap} {locs : List Loc} {cells slots : Nat} {Q : State → Prop} {ls : Array Slot} {x : Int64} {lv : List (Nat × Value)}, p.tables.exec = Jvm.exec → c.code = mi.2.1 → lv_has ls mi.2.2.1 lv → (∀ ls' : Array Slot, lv_has ls' mi.2.2.1 ((i, .long x) :: lv.filter (fun q => !(q.1 == i) && (!(q.1 == i + 1) && !(q.1 + 1 == i && q.2.category == 2)))) → W p l e R s m args below meth c H locs cells slots Q (F0 m pn ls' [])) → W p l e R s m args below meth c H locs cells slots Q (F0 m p1 ls [.long x])) : SS rt mi ΓL PB PK Γ Γ' pc [pn] (dSetL i A) := by
  refine t_1 (fun x f h => some (sL f i x, h)) (fun f h => by unfold dSetL; rcases A f h with _ | ⟨x, h1⟩ <;> rfl) (fun x f h f2 h2 q => by cases q; exact LE.rf _) (fun κ p l e R s m args below meth c nb sb Q C f h x f2 h2 q _ K => ?_) ha
  cases q
  intro ls H locs a b d1 e1 e2
  exact hu C.exec C.code a fun ls' a' => K ls' H locs (lv_in2 ok a' (by simp [lvv, gL, sL]) (lvv_sL κ f i x)) b d1 e1 e2
theorem t_lstore_n {q : Fin 4} {i : Nat} {A : Ex Int64} (ha : SE cvL mi Γ 0 pc p1 A) (d : decode mi.2.1 p1 = .ok (.lstore_n q, 1)) (hi : (q : Nat) = i) (hn : Nat.blt (i + 1) mi.2.2.1 = true) (ok : gok2 Γ Γ' i = true) : SS rt mi ΓL PB PK Γ Γ' pc [p1 + 1] (dSetL i A) :=
  t_setL_of ok ha fun a b h K => lv_lstore_n a b d hi h (by simpa using hn) rfl K
theorem t_lstore {i : Nat} {A : Ex Int64} (ha : SE cvL mi Γ 0 pc p1 A) (d : decode mi.2.1 p1 = .ok (.lstore i, 2)) (hn : Nat.blt (i + 1) mi.2.2.1 = true) (ok : gok2 Γ Γ' i = true) : SS rt mi ΓL PB PK Γ Γ' pc [p1 + 2] (dSetL i A) :=
  t_setL_of ok ha fun a b h K => lv_lstore a b d h (by simpa using hn) rfl K
theorem t_astore_n {q : Fin 4} {i : Nat} {A : Ex Nat} (ha : SE cvR mi Γ 0 pc p1 A) (d : decode mi.2.1 p1 = .ok (.astore_n q, 1)) (hi : (q : Nat) = i) (hn : Nat.blt i mi.2.2.1 = true) (ok : gok1 Γ Γ' i 2 = true) : SS rt mi ΓL PB PK Γ Γ' pc [p1 + 1] (dSetR i A) := by
  refine t_1 (fun x f h => some (sR f i x, h)) (fun f h => by unfold dSetR; rcases A f h with _ | ⟨x, h1⟩ <;> rfl) (fun x f h f2 h2 q => by cases q; exact LE.rf _) (fun κ p l e R s m args below meth c nb sb Q C f h x f2 h2 q _ K => ?_) ha
  cases q
  intro ls H locs a b d1 e1 e2
  have hv : lvv κ (sR f i x) (i, 2) = (i, rv κ x) := by simp [lvv, gR, sR]
  have k1 : ∀ ls', lv_has ls' mi.2.2.1 ((i, rv κ x) :: (Γ.map (lvv κ f)).filter (fun q => !(q.1 == i) && !(q.1 + 1 == i && q.2.category == 2))) → _ := fun ls' a' => K ls' H locs (lv_in1 ok a' hv (lvv_sR κ f i x)) b d1 e1 e2
  unfold cvR
  rcases rv_or κ x with z | ⟨y, z⟩ <;> rw [z] at k1 ⊢
  · exact lv_astore_nN C.exec C.code d hi a (by simpa using hn) rfl k1
  · exact lv_astore_n C.exec C.code d hi a (by simpa using hn) rfl k1
theorem t_iinc {i : Nat} {n : Int} {v : Int32} (d : decode mi.2.1 pc = .ok (.iinc i n, 3)) (hv : Int32.ofInt n = v) (hg : Γ.contains (i, 0) = true) (hn : Nat.blt i mi.2.2.1 = true) (ok : gok1 Γ Γ' i 0 = true) : SS rt mi ΓL PB PK Γ Γ' pc [pc + 3] (dInc i v) := by
  refine ⟨fun f h o f' h' q => by cases q; exact LE.rf _, ?_⟩
  intro κ p l e R s m args below meth c nb sb Q C f h o f' h' q L K0 _ _ _
  cases q
  intro ls H locs a b d1 e1 e2
  have hm : (i, 0) ∈ Γ := by simpa using hg
  obtain ⟨kk, hkk⟩ := List.getElem?_of_mem (List.mem_map.mpr ⟨(i, 0), hm, rfl⟩ : lvv κ f (i, 0) ∈ Γ.map (lvv κ f))
  exact lv_iinc C.exec C.code (k := kk) (x := gI f i) (v := gI f i + v) d a hkk (by rw [hv]) (by simpa using hn) rfl fun ls' a' => K0 rfl _ (List.mem_singleton.mpr rfl) ls' H locs (lv_in1 ok a' (by simp [lvv, gI, sI]) (lvv_sI κ f i _)) b d1 e1 e2
end
