section
variable {mi : MI} {Γ : Gm} {k pc pc' p1 p2 : Nat}
-- constants
def cI (n : Int32) : Ex Int32 := fun _ h => some (n, h)
def cL (n : Int64) : Ex Int64 := fun _ h => some (n, h)
def cR (n : Nat) : Ex Nat := fun _ h => some (n, h)
theorem s_pure {α : Type} {cv : KX → α → Value} {v : α} (hu : ∀ κ st, RUL mi pc pc' st (cv κ v :: st)) : SE cv mi Γ k pc pc' (fun _ h => some (v, h)) := by
  refine ⟨fun f h v' h' q => by cases q; exact LE.rf _, ?_⟩
  intro κ p l e R s m args below meth c nb sb Q C f h v' h' q _ st _ K
  cases q
  exact (hu κ st).go C K
theorem s_iconst {n : Int} {v : Int32} (d : decode mi.2.1 pc = .ok (.iconst n, 1)) (hv : Int32.ofInt n = v) : SE cvI mi Γ k pc (pc + 1) (cI v) := s_pure fun _ _ => rulI fun a b K => lv_iconst a b d hv K
theorem s_bipush {n : Int} {v : Int32} (d : decode mi.2.1 pc = .ok (.bipush n, 2)) (hv : (Int8.ofInt n).toInt32 = v) : SE cvI mi Γ k pc (pc + 2) (cI v) := s_pure fun _ _ => rulI fun a b K => lv_bipush a b d hv K
theorem s_sipush {n : Int} {v : Int32} (d : decode mi.2.1 pc = .ok (.sipush n, 3)) (hv : (Int16.ofInt n).toInt32 = v) : SE cvI mi Γ k pc (pc + 3) (cI v) := s_pure fun _ _ => rulI fun a b K => lv_sipush a b d hv K
theorem s_lconst {n : Fin 2} {v : Int64} (d : decode mi.2.1 pc = .ok (.lconst n, 1)) (hv : Int64.ofNat (n : Nat) = v) : SE cvL mi Γ k pc (pc + 1) (cL v) := s_pure fun _ _ => rulI fun a b K => lv_lconst a b d hv K
theorem s_ldc {i : Nat} {v : Int32} (d : decode mi.2.1 pc = .ok (.ldc i, 2)) (hw : Cond.constant mi.1 i v ∈ TB) : SE cvI mi Γ k pc (pc + 2) (cI v) := s_pure fun _ _ => fun _ _ _ _ _ _ _ _ _ _ _ _ _ _ _ _ a b t K => lv_ldc a b t.1 (t.2 _ hw) d K
theorem s_ldc2 {i : Nat} {v : Int64} (d : decode mi.2.1 pc = .ok (.ldc2_w i, 3)) (hw : Cond.constantLong mi.1 i v ∈ TB) : SE cvL mi Γ k pc (pc + 3) (cL v) := s_pure fun _ _ => fun _ _ _ _ _ _ _ _ _ _ _ _ _ _ _ _ a b t K => lv_ldc2 a b t.1 (t.2 _ hw) d K
-- locals
def vI (i : Nat) : Ex Int32 := fun f h => some (gI f i, h)
def vL (i : Nat) : Ex Int64 := fun f h => some (gL f i, h)
def vR (i : Nat) : Ex Nat := fun f h => some (gR f i, h)
theorem lv_get {ls : Array Slot} {nL : Nat} {κ : KX} {f : Fr} {i t : Nat} (hl : lv_has ls nL (Γ.map (lvv κ f))) (hg : Γ.contains (i, t) = true) : ls[i]? = some (.val (lvv κ f (i, t)).2) :=
  hl.2.2 (lvv κ f (i, t)) (List.mem_map.mpr ⟨(i, t), by simpa using hg, rfl⟩)
theorem s_iload_n {q : Fin 4} {i : Nat} (d : decode mi.2.1 pc = .ok (.iload_n q, 1)) (hi : (q : Nat) = i) (hg : Γ.contains (i, 0) = true) : SE cvI mi Γ k pc (pc + 1) (vI i) := by
  refine ⟨fun f h v' h' q => by cases q; exact LE.rf _, ?_⟩
  intro κ p l e R s m args below meth c nb sb Q C f h v' h' q _ st _ K
  cases q
  exact fun ls H locs a b d1 e1 e2 => lv_iload_n C.1 C.2.1 d hi (lv_get a hg) (K ls H locs a b d1 e1 e2)
theorem s_iload {i : Nat} (d : decode mi.2.1 pc = .ok (.iload i, 2)) (hg : Γ.contains (i, 0) = true) : SE cvI mi Γ k pc (pc + 2) (vI i) := by
  refine ⟨fun f h v' h' q => by cases q; exact LE.rf _, ?_⟩
  intro κ p l e R s m args below meth c nb sb Q C f h v' h' q _ st _ K
  cases q
  exact fun ls H locs a b d1 e1 e2 => lv_iload C.1 C.2.1 d (lv_get a hg) (K ls H locs a b d1 e1 e2)
theorem s_lload_n {q : Fin 4} {i : Nat} (d : decode mi.2.1 pc = .ok (.lload_n q, 1)) (hi : (q : Nat) = i) (hg : Γ.contains (i, 1) = true) : SE cvL mi Γ k pc (pc + 1) (vL i) := by
  refine ⟨fun f h v' h' q => by cases q; exact LE.rf _, ?_⟩
  intro κ p l e R s m args below meth c nb sb Q C f h v' h' q _ st _ K
  cases q
  exact fun ls H locs a b d1 e1 e2 => lv_lload_n C.1 C.2.1 d hi (lv_get a hg) (K ls H locs a b d1 e1 e2)
theorem s_lload {i : Nat} (d : decode mi.2.1 pc = .ok (.lload i, 2)) (hg : Γ.contains (i, 1) = true) : SE cvL mi Γ k pc (pc + 2) (vL i) := by
  refine ⟨fun f h v' h' q => by cases q; exact LE.rf _, ?_⟩
  intro κ p l e R s m args below meth c nb sb Q C f h v' h' q _ st _ K
  cases q
  exact fun ls H locs a b d1 e1 e2 => lv_lload C.1 C.2.1 d (lv_get a hg) (K ls H locs a b d1 e1 e2)
theorem rv_or (κ : KX) (q : Nat) : rv κ q = .null ∨ ∃ a, rv κ q = .ref a := by
  unfold rv
  by_cases h : q = 0
  · exact Or.inl (if_pos h)
  · exact Or.inr ⟨_, if_neg h⟩
theorem s_aload_n {q : Fin 4} {i : Nat} (d : decode mi.2.1 pc = .ok (.aload_n q, 1)) (hi : (q : Nat) = i) (hg : Γ.contains (i, 2) = true) : SE cvR mi Γ k pc (pc + 1) (vR i) := by
  refine ⟨fun f h v' h' q => by cases q; exact LE.rf _, ?_⟩
  intro κ p l e R s m args below meth c nb sb Q C f h v' h' q _ st _ K
  cases q
  intro ls H locs a b d1 e1 e2
  have g : ls[i]? = some (.val (rv κ (gR f i))) := lv_get a hg
  have k1 := K ls H locs a b d1 e1 e2
  unfold cvR at k1
  rcases rv_or κ (gR f i) with z | ⟨x, z⟩ <;> rw [z] at g k1
  · exact lv_aload_nN C.1 C.2.1 d hi g k1
  · exact lv_aload_n C.1 C.2.1 d hi g k1
theorem s_aload {i : Nat} (d : decode mi.2.1 pc = .ok (.aload i, 2)) (hg : Γ.contains (i, 2) = true) : SE cvR mi Γ k pc (pc + 2) (vR i) := by
  refine ⟨fun f h v' h' q => by cases q; exact LE.rf _, ?_⟩
  intro κ p l e R s m args below meth c nb sb Q C f h v' h' q _ st _ K
  cases q
  intro ls H locs a b d1 e1 e2
  have g : ls[i]? = some (.val (rv κ (gR f i))) := lv_get a hg
  have k1 := K ls H locs a b d1 e1 e2
  unfold cvR at k1
  rcases rv_or κ (gR f i) with z | ⟨x, z⟩ <;> rw [z] at g k1
  · exact lv_aloadN C.1 C.2.1 d g k1
  · exact lv_aload C.1 C.2.1 d g k1
-- two values to one, one to one
def d2 {α β γ : Type} (g : α → β → γ) (a : Ex α) (b : Ex β) : Ex γ := fun f h => match a f h with
  | none => none
  | some (x, h1) => match b f h1 with
    | none => none
    | some (y, h2) => some (g x y, h2)
/-- likewise, where the second isn't nought -/
def d2z {α : Type} [Zero α] [DecidableEq α] (g : α → α → α) (a b : Ex α) : Ex α := fun f h => match a f h with
  | none => none
  | some (x, h1) => match b f h1 with
    | none => none
    | some (y, h2) => if y = 0 then none else some (g x y, h2)
def d1 {α β : Type} (g : α → β) (a : Ex α) : Ex β := fun f h => match a f h with
  | none => none
  | some (x, h1) => some (g x, h1)
theorem s_d2 {α β γ : Type} {ca : KX → α → Value} {cb : KX → β → Value} {cg : KX → γ → Value} {g : α → β → γ} {A : Ex α} {B : Ex β} (n : Nat) (hn : ∀ κ x, (ca κ x).category ≤ n) (hu : ∀ κ x y st, RUL mi p2 pc' (cb κ y :: ca κ x :: st) (cg κ (g x y) :: st)) (ha : SE ca mi Γ k pc p1 A) (hb : SE cb mi Γ (k + n) p1 p2 B) : SE cg mi Γ k pc pc' (d2 g A B) := by
  refine ⟨fun f h v h' q => ?_, ?_⟩
  · unfold d2 at q
    split at q
    · cases q
    · rename_i x h1 q1
      split at q
      · cases q
      · rename_i y h2 q2
        cases q
        exact (ha.1 _ _ _ _ q1).tr (hb.1 _ _ _ _ q2)
  · intro κ p l e R s m args below meth c nb sb Q C f h v h' q L st hst K
    unfold d2 at q
    split at q
    · cases q
    · rename_i x h1 q1
      split at q
      · cases q
      · rename_i y h2 q2
        cases q
        refine ha.2 κ p l e R s m args below meth c nb sb Q C f h x h1 q1 (L.le (hb.1 _ _ _ _ q2)) st hst ?_
        refine hb.2 κ p l e R s m args below meth c nb sb Q C f h1 y h' q2 L _ ?_ ((hu κ x y st).go C K)
        have := hn κ x
        simp only [List.map_cons, List.sum_cons]
        omega
theorem s_d2z {α : Type} [Zero α] [DecidableEq α] {ca : KX → α → Value} {g : α → α → α} {A B : Ex α} (n : Nat) (hn : ∀ κ x, (ca κ x).category ≤ n) (hu : ∀ κ x y st, ¬ y = 0 → RUL mi p2 pc' (ca κ y :: ca κ x :: st) (ca κ (g x y) :: st)) (ha : SE ca mi Γ k pc p1 A) (hb : SE ca mi Γ (k + n) p1 p2 B) : SE ca mi Γ k pc pc' (d2z g A B) := by
  refine ⟨fun f h v h' q => ?_, ?_⟩
  · unfold d2z at q
    split at q
    · cases q
    · rename_i x h1 q1
      split at q
      · cases q
      · rename_i y h2 q2
        split at q
        · cases q
        · cases q
          exact (ha.1 _ _ _ _ q1).tr (hb.1 _ _ _ _ q2)
  · intro κ p l e R s m args below meth c nb sb Q C f h v h' q L st hst K
    unfold d2z at q
    split at q
    · cases q
    · rename_i x h1 q1
      split at q
      · cases q
      · rename_i y h2 q2
        split at q
        · cases q
        · rename_i hy
          cases q
          refine ha.2 κ p l e R s m args below meth c nb sb Q C f h x h1 q1 (L.le (hb.1 _ _ _ _ q2)) st hst ?_
          refine hb.2 κ p l e R s m args below meth c nb sb Q C f h1 y h' q2 L _ ?_ ((hu κ x y st hy).go C K)
          have := hn κ x
          simp only [List.map_cons, List.sum_cons]
          omega
theorem s_d1 {α β : Type} {ca : KX → α → Value} {cb : KX → β → Value} {g : α → β} {A : Ex α} (hu : ∀ κ x st, RUL mi p1 pc' (ca κ x :: st) (cb κ (g x) :: st)) (ha : SE ca mi Γ k pc p1 A) : SE cb mi Γ k pc pc' (d1 g A) := by
  refine ⟨fun f h v h' q => ?_, ?_⟩
  · unfold d1 at q
    split at q
    · cases q
    · rename_i x h1 q1
      cases q
      exact ha.1 _ _ _ _ q1
  · intro κ p l e R s m args below meth c nb sb Q C f h v h' q L st hst K
    unfold d1 at q
    split at q
    · cases q
    · rename_i x h1 q1
      cases q
      exact ha.2 κ p l e R s m args below meth c nb sb Q C f h x h' q1 L st hst ((hu κ x st).go C K)
theorem catI (κ : KX) (x : Int32) : (cvI κ x).category ≤ 1 := Nat.le_refl _
theorem catL (κ : KX) (x : Int64) : (cvL κ x).category ≤ 2 := Nat.le_refl _
theorem catR (κ : KX) (x : Nat) : (cvR κ x).category ≤ 1 := by
  unfold cvR
  rcases rv_or κ x with z | ⟨y, z⟩ <;> rw [z] <;> exact Nat.le_refl _
def o_iadd (x y : Int32) : Int32 := x + y
theorem s_iadd {A B : Ex Int32} (ha : SE cvI mi Γ k pc p1 A) (hb : SE cvI mi Γ (k + 1) p1 p2 B) (d : decode mi.2.1 p2 = .ok (.iadd, 1)) : SE cvI mi Γ k pc (p2 + 1) (d2 o_iadd A B) := s_d2 1 catI (fun _ _ _ _ => rulI fun a b K => lv_iadd a b d K) ha hb
def o_isub (x y : Int32) : Int32 := x - y
theorem s_isub {A B : Ex Int32} (ha : SE cvI mi Γ k pc p1 A) (hb : SE cvI mi Γ (k + 1) p1 p2 B) (d : decode mi.2.1 p2 = .ok (.isub, 1)) : SE cvI mi Γ k pc (p2 + 1) (d2 o_isub A B) := s_d2 1 catI (fun _ _ _ _ => rulI fun a b K => lv_isub a b d K) ha hb
def o_imul (x y : Int32) : Int32 := x * y
theorem s_imul {A B : Ex Int32} (ha : SE cvI mi Γ k pc p1 A) (hb : SE cvI mi Γ (k + 1) p1 p2 B) (d : decode mi.2.1 p2 = .ok (.imul, 1)) : SE cvI mi Γ k pc (p2 + 1) (d2 o_imul A B) := s_d2 1 catI (fun _ _ _ _ => rulI fun a b K => lv_imul a b d K) ha hb
def o_iand (x y : Int32) : Int32 := x &&& y
theorem s_iand {A B : Ex Int32} (ha : SE cvI mi Γ k pc p1 A) (hb : SE cvI mi Γ (k + 1) p1 p2 B) (d : decode mi.2.1 p2 = .ok (.iand, 1)) : SE cvI mi Γ k pc (p2 + 1) (d2 o_iand A B) := s_d2 1 catI (fun _ _ _ _ => rulI fun a b K => lv_iand a b d K) ha hb
def o_ior (x y : Int32) : Int32 := x ||| y
theorem s_ior {A B : Ex Int32} (ha : SE cvI mi Γ k pc p1 A) (hb : SE cvI mi Γ (k + 1) p1 p2 B) (d : decode mi.2.1 p2 = .ok (.ior, 1)) : SE cvI mi Γ k pc (p2 + 1) (d2 o_ior A B) := s_d2 1 catI (fun _ _ _ _ => rulI fun a b K => lv_ior a b d K) ha hb
def o_ixor (x y : Int32) : Int32 := x ^^^ y
theorem s_ixor {A B : Ex Int32} (ha : SE cvI mi Γ k pc p1 A) (hb : SE cvI mi Γ (k + 1) p1 p2 B) (d : decode mi.2.1 p2 = .ok (.ixor, 1)) : SE cvI mi Γ k pc (p2 + 1) (d2 o_ixor A B) := s_d2 1 catI (fun _ _ _ _ => rulI fun a b K => lv_ixor a b d K) ha hb
def o_ladd (x y : Int64) : Int64 := x + y
theorem s_ladd {A B : Ex Int64} (ha : SE cvL mi Γ k pc p1 A) (hb : SE cvL mi Γ (k + 2) p1 p2 B) (d : decode mi.2.1 p2 = .ok (.ladd, 1)) : SE cvL mi Γ k pc (p2 + 1) (d2 o_ladd A B) := s_d2 2 catL (fun _ _ _ _ => rulI fun a b K => lv_ladd a b d K) ha hb
def o_lsub (x y : Int64) : Int64 := x - y
theorem s_lsub {A B : Ex Int64} (ha : SE cvL mi Γ k pc p1 A) (hb : SE cvL mi Γ (k + 2) p1 p2 B) (d : decode mi.2.1 p2 = .ok (.lsub, 1)) : SE cvL mi Γ k pc (p2 + 1) (d2 o_lsub A B) := s_d2 2 catL (fun _ _ _ _ => rulI fun a b K => lv_lsub a b d K) ha hb
def o_lmul (x y : Int64) : Int64 := x * y
theorem s_lmul {A B : Ex Int64} (ha : SE cvL mi Γ k pc p1 A) (hb : SE cvL mi Γ (k + 2) p1 p2 B) (d : decode mi.2.1 p2 = .ok (.lmul, 1)) : SE cvL mi Γ k pc (p2 + 1) (d2 o_lmul A B) := s_d2 2 catL (fun _ _ _ _ => rulI fun a b K => lv_lmul a b d K) ha hb
def o_land (x y : Int64) : Int64 := x &&& y
theorem s_land {A B : Ex Int64} (ha : SE cvL mi Γ k pc p1 A) (hb : SE cvL mi Γ (k + 2) p1 p2 B) (d : decode mi.2.1 p2 = .ok (.land, 1)) : SE cvL mi Γ k pc (p2 + 1) (d2 o_land A B) := s_d2 2 catL (fun _ _ _ _ => rulI fun a b K => lv_land a b d K) ha hb
def o_lor (x y : Int64) : Int64 := x ||| y
theorem s_lor {A B : Ex Int64} (ha : SE cvL mi Γ k pc p1 A) (hb : SE cvL mi Γ (k + 2) p1 p2 B) (d : decode mi.2.1 p2 = .ok (.lor, 1)) : SE cvL mi Γ k pc (p2 + 1) (d2 o_lor A B) := s_d2 2 catL (fun _ _ _ _ => rulI fun a b K => lv_lor a b d K) ha hb
def o_idiv (x y : Int32) : Int32 := x / y
theorem s_idiv {A B : Ex Int32} (ha : SE cvI mi Γ k pc p1 A) (hb : SE cvI mi Γ (k + 1) p1 p2 B) (d : decode mi.2.1 p2 = .ok (.idiv, 1)) : SE cvI mi Γ k pc (p2 + 1) (d2z o_idiv A B) := s_d2z 1 catI (fun _ _ _ _ hy => rulI fun a b K => lv_idiv a b d hy K) ha hb
def o_irem (x y : Int32) : Int32 := x - x / y * y
theorem s_irem {A B : Ex Int32} (ha : SE cvI mi Γ k pc p1 A) (hb : SE cvI mi Γ (k + 1) p1 p2 B) (d : decode mi.2.1 p2 = .ok (.irem, 1)) : SE cvI mi Γ k pc (p2 + 1) (d2z o_irem A B) := s_d2z 1 catI (fun _ _ _ _ hy => rulI fun a b K => lv_irem a b d hy K) ha hb
def o_ldiv (x y : Int64) : Int64 := x / y
theorem s_ldiv {A B : Ex Int64} (ha : SE cvL mi Γ k pc p1 A) (hb : SE cvL mi Γ (k + 2) p1 p2 B) (d : decode mi.2.1 p2 = .ok (.ldiv, 1)) : SE cvL mi Γ k pc (p2 + 1) (d2z o_ldiv A B) := s_d2z 2 catL (fun _ _ _ _ hy => rulI fun a b K => lv_ldiv a b d hy K) ha hb
def o_lrem (x y : Int64) : Int64 := x - x / y * y
theorem s_lrem {A B : Ex Int64} (ha : SE cvL mi Γ k pc p1 A) (hb : SE cvL mi Γ (k + 2) p1 p2 B) (d : decode mi.2.1 p2 = .ok (.lrem, 1)) : SE cvL mi Γ k pc (p2 + 1) (d2z o_lrem A B) := s_d2z 2 catL (fun _ _ _ _ hy => rulI fun a b K => lv_lrem a b d hy K) ha hb
def o_ishl (x y : Int32) : Int32 := x <<< (y &&& 31)
theorem s_ishl {A B : Ex Int32} (ha : SE cvI mi Γ k pc p1 A) (hb : SE cvI mi Γ (k + 1) p1 p2 B) (d : decode mi.2.1 p2 = .ok (.ishl, 1)) : SE cvI mi Γ k pc (p2 + 1) (d2 o_ishl A B) := s_d2 1 catI (fun _ _ _ _ => rulI fun a b K => lv_ishl a b d K) ha hb
def o_ishr (x y : Int32) : Int32 := x >>> (y &&& 31)
theorem s_ishr {A B : Ex Int32} (ha : SE cvI mi Γ k pc p1 A) (hb : SE cvI mi Γ (k + 1) p1 p2 B) (d : decode mi.2.1 p2 = .ok (.ishr, 1)) : SE cvI mi Γ k pc (p2 + 1) (d2 o_ishr A B) := s_d2 1 catI (fun _ _ _ _ => rulI fun a b K => lv_ishr a b d K) ha hb
def o_iushr (x y : Int32) : Int32 := (x.toUInt32 >>> (y.toUInt32 &&& Int32.toUInt32 31)).toInt32
theorem s_iushr {A B : Ex Int32} (ha : SE cvI mi Γ k pc p1 A) (hb : SE cvI mi Γ (k + 1) p1 p2 B) (d : decode mi.2.1 p2 = .ok (.iushr, 1)) : SE cvI mi Γ k pc (p2 + 1) (d2 o_iushr A B) := s_d2 1 catI (fun _ _ _ _ => rulI fun a b K => lv_iushr a b d rfl K) ha hb
def o_lshl (x : Int64) (y : Int32) : Int64 := x <<< (y.toInt64 &&& 63)
theorem s_lshl {A : Ex Int64} {B : Ex Int32} (ha : SE cvL mi Γ k pc p1 A) (hb : SE cvI mi Γ (k + 2) p1 p2 B) (d : decode mi.2.1 p2 = .ok (.lshl, 1)) : SE cvL mi Γ k pc (p2 + 1) (d2 o_lshl A B) := s_d2 2 catL (fun _ _ _ _ => rulI fun a b K => lv_lshl a b d rfl K) ha hb
def o_lcmp (x y : Int64) : Int32 := lg_cmp x y
theorem s_lcmp {A B : Ex Int64} (ha : SE cvL mi Γ k pc p1 A) (hb : SE cvL mi Γ (k + 2) p1 p2 B) (d : decode mi.2.1 p2 = .ok (.lcmp, 1)) : SE cvI mi Γ k pc (p2 + 1) (d2 o_lcmp A B) := s_d2 2 catL (fun _ _ _ _ => rulI fun a b K => W.lcmp a b d K) ha hb
def o_i2l (x : Int32) : Int64 := x.toInt64
theorem s_i2l {A : Ex Int32} (ha : SE cvI mi Γ k pc p1 A) (d : decode mi.2.1 p1 = .ok (.i2l, 1)) : SE cvL mi Γ k pc (p1 + 1) (d1 o_i2l A) := s_d1 (fun _ _ _ => rulI fun a b K => lv_i2l a b d rfl K) ha
def o_l2i (x : Int64) : Int32 := x.toInt32
theorem s_l2i {A : Ex Int64} (ha : SE cvL mi Γ k pc p1 A) (d : decode mi.2.1 p1 = .ok (.l2i, 1)) : SE cvI mi Γ k pc (p1 + 1) (d1 o_l2i A) := s_d1 (fun _ _ _ => rulI fun a b K => lv_l2i a b d rfl K) ha
def o_i2b (x : Int32) : Int32 := x.toInt8.toInt32
theorem s_i2b {A : Ex Int32} (ha : SE cvI mi Γ k pc p1 A) (d : decode mi.2.1 p1 = .ok (.i2b, 1)) : SE cvI mi Γ k pc (p1 + 1) (d1 o_i2b A) := s_d1 (fun _ _ _ => rulI fun a b K => lv_i2b a b d rfl K) ha
def o_i2s (x : Int32) : Int32 := x.toInt16.toInt32
theorem s_i2s {A : Ex Int32} (ha : SE cvI mi Γ k pc p1 A) (d : decode mi.2.1 p1 = .ok (.i2s, 1)) : SE cvI mi Γ k pc (p1 + 1) (d1 o_i2s A) := s_d1 (fun _ _ _ => rulI fun a b K => lv_i2s a b d rfl K) ha
def o_ineg (x : Int32) : Int32 := -x
theorem s_ineg {A : Ex Int32} (ha : SE cvI mi Γ k pc p1 A) (d : decode mi.2.1 p1 = .ok (.ineg, 1)) : SE cvI mi Γ k pc (p1 + 1) (d1 o_ineg A) := s_d1 (fun _ _ _ => rulI fun a b K => lv_ineg a b d K) ha
def o_lneg (x : Int64) : Int64 := -x
theorem s_lneg {A : Ex Int64} (ha : SE cvL mi Γ k pc p1 A) (d : decode mi.2.1 p1 = .ok (.lneg, 1)) : SE cvL mi Γ k pc (p1 + 1) (d1 o_lneg A) := s_d1 (fun _ _ _ => rulI fun a b K => lv_lneg a b d K) ha
end
