/-! THE ENGINE: a pure reading of the bytecode: expressions, conditions, statements as functions over the locals and a heap of numbered objects; each with the walk that takes the machine through its instructions -/
-- locals: ints, longs, references (0 is null)
abbrev Fr : Type := (Nat → Int32) × (Nat → Int64) × (Nat → Nat)
def gI (f : Fr) (k : Nat) : Int32 := f.1 k
def gL (f : Fr) (k : Nat) : Int64 := f.2.1 k
def gR (f : Fr) (k : Nat) : Nat := f.2.2 k
def sI (f : Fr) (k : Nat) (v : Int32) : Fr := (fun j => if j = k then v else f.1 j, f.2.1, f.2.2)
def sL (f : Fr) (k : Nat) (v : Int64) : Fr := (f.1, fun j => if j = k then v else f.2.1 j, f.2.2)
def sR (f : Fr) (k : Nat) (v : Nat) : Fr := (f.1, f.2.1, fun j => if j = k then v else f.2.2 j)
def fr0 : Fr := (fun _ => 0, fun _ => 0, fun _ => 0)
theorem gI_sI (f : Fr) (j k : Nat) (v : Int32) : gI (sI f k v) j = if j = k then v else gI f j := rfl
theorem gL_sL (f : Fr) (j k : Nat) (v : Int64) : gL (sL f k v) j = if j = k then v else gL f j := rfl
theorem gR_sR (f : Fr) (j k : Nat) (v : Nat) : gR (sR f k v) j = if j = k then v else gR f j := rfl
theorem gI_sL (f : Fr) (j k : Nat) (v : Int64) : gI (sL f k v) j = gI f j := rfl
theorem gI_sR (f : Fr) (j k : Nat) (v : Nat) : gI (sR f k v) j = gI f j := rfl
theorem gL_sI (f : Fr) (j k : Nat) (v : Int32) : gL (sI f k v) j = gL f j := rfl
theorem gL_sR (f : Fr) (j k : Nat) (v : Nat) : gL (sR f k v) j = gL f j := rfl
theorem gR_sI (f : Fr) (j k : Nat) (v : Int32) : gR (sI f k v) j = gR f j := rfl
theorem gR_sL (f : Fr) (j k : Nat) (v : Int64) : gR (sL f k v) j = gR f j := rfl
-- the heap: what objects hold at their places (int, long, reference), of which kind and length an object is, how many there are, how many slots they have
abbrev St : Type := (Nat → Nat → Int32) × (Nat → Nat → Int64) × (Nat → Nat → Nat) × (Nat → Nat × Nat) × Nat × Nat
def hi (h : St) (r k : Nat) : Int32 := h.1 r k
def hl (h : St) (r k : Nat) : Int64 := h.2.1 r k
def hr (h : St) (r k : Nat) : Nat := h.2.2.1 r k
def hk (h : St) (r : Nat) : Nat × Nat := h.2.2.2.1 r
def hn (h : St) : Nat := h.2.2.2.2.1
def hs (h : St) : Nat := h.2.2.2.2.2
def wI (h : St) (r k : Nat) (v : Int32) : St := (fun q j => if q = r ∧ j = k then v else h.1 q j, h.2.1, h.2.2.1, h.2.2.2.1, h.2.2.2.2.1, h.2.2.2.2.2)
def wL (h : St) (r k : Nat) (v : Int64) : St := (h.1, fun q j => if q = r ∧ j = k then v else h.2.1 q j, h.2.2.1, h.2.2.2.1, h.2.2.2.2.1, h.2.2.2.2.2)
def wR (h : St) (r k : Nat) (v : Nat) : St := (h.1, h.2.1, fun q j => if q = r ∧ j = k then v else h.2.2.1 q j, h.2.2.2.1, h.2.2.2.2.1, h.2.2.2.2.2)
/-- a new object, all nought -/
def wN (h : St) (kd : Nat × Nat) (n : Nat) : St := (fun q j => if q = hn h then 0 else h.1 q j, fun q j => if q = hn h then 0 else h.2.1 q j, fun q j => if q = hn h then 0 else h.2.2.1 q j, fun q => if q = hn h then kd else h.2.2.2.1 q, h.2.2.2.2.1 + 1, h.2.2.2.2.2 + n)
-- kinds: 0 .. 12 objects of the classes, 13 int[], 14 byte[], 15 boolean[], 16 long[], 17 SlateHands$Port[]; of before: 18 int[], 19 a text, 20 byte[] of a text; 98 not told; 99 none
-- numbers of before: 0 null, 1 the script, 2 FACTORIALS, 3 .. 16 texts, 17 .. 30 their bytes
def n0 : Nat := 31
abbrev KX : Type := (Nat → ClassId) × (Nat → Nat → Nat) × (Nat → ClassId) × (Nat → Nat) × Nat × (Nat → Int32) × Nat
def kD (κ : KX) : va_G := (κ.1, κ.2.1)
def kA (κ : KX) : Nat → ClassId := κ.2.2.1
def kpre (κ : KX) : Nat → Nat := κ.2.2.2.1
def ksz (κ : KX) : Nat := κ.2.2.2.2.1
def kxs (κ : KX) : Nat → Int32 := κ.2.2.2.2.2.1
def kL (κ : KX) : Nat := κ.2.2.2.2.2.2
def al (κ : KX) (i : Nat) : Nat := if i < n0 then kpre κ i else ksz κ + (i - n0)
def rv (κ : KX) (q : Nat) : Value := if q = 0 then .null else .ref (al κ q)
abbrev classes : List vw_C := [(RX0, TX0, 17), (RX1, TX1, 9), (RX2, TX2, 15), (RX3, TX3, 7), (RX4, TX4, 1), (RX5, TX5, 17), (RX6, TX6, 2), (RX7, TX7, 2), (RX8, TX8, 3), (RX9, TX9, 6), (RX10, TX10, 4), (RX11, TX11, 14)]
def kT (κ : KX) : List (ClassId × FieldType) := [(kA κ 0, .int), (kA κ 1, .byte), (kA κ 2, .int), (kA κ 3, .long), (kA κ 4, .object "SlateHands$Port")]
def clN (c : Nat) : Nat := match c with
  | 0 => 17 | 1 => 9 | 2 => 15 | 3 => 7 | 4 => 1 | 5 => 17 | 6 => 2 | 7 => 2 | 8 => 3 | 9 => 6 | 10 => 4 | 11 => 14 | _ => 55
def clTy (c : Nat) : Nat → FieldType := match c with
  | 0 => tyX0 | 1 => tyX1 | 2 => tyX2 | 3 => tyX3 | 4 => tyX4 | 5 => tyX5 | 6 => tyX6 | 7 => tyX7 | 8 => tyX8 | 9 => tyX9 | 10 => tyX10 | 11 => tyX11 | _ => tyX12
def ftag (t : FieldType) : Nat := match t with
  | .int => 0 | .boolean => 0 | .long => 1 | _ => 2
def fvl (κ : KX) (h : St) (r k t : Nat) : Value := if t = 0 then .int (hi h r k) else if t = 1 then .long (hl h r k) else rv κ (hr h r k)
def flds (κ : KX) (h : St) (r c : Nat) : List Value := (List.range (clN c)).map fun k => fvl κ h r k (ftag (clTy c k))
def cellOf (κ : KX) (h : St) (r : Nat) : va_E := if (hk h r).1 < 13 then .inr ((hk h r).1, flds κ h r (hk h r).1)
  else if (hk h r).1 < 16 then .inl (kA κ ((hk h r).1 - 13), (hk h r).2, .inl (hi h r))
  else if (hk h r).1 = 16 then .inl (kA κ 3, (hk h r).2, .inr (.inl (hl h r)))
  else .inl (kA κ 4, (hk h r).2, .inr (.inr (.inr (.inr fun j => if hr h r j = 0 then none else some (al κ (hr h r j))))))
/-- a class's words and tables -/
def ClOK (c : Nat) (C : String) (T : u_T) (N : Nat) (ty : Nat → FieldType) : Prop := c < 13 ∧ classes[c]? = some (C, T, N) ∧ (∀ w ∈ u_ws C T N, w ∈ TB) ∧ (∀ k, k < N → parseFieldDescriptor (T k).2.2.1 = some (ty k)) ∧ (∀ a, a < N → ∀ b, b < N → a ≠ b → (T a).2.1 ≠ (T b).2.1) ∧ clN c = N ∧ clTy c = ty
theorem ck0 : ClOK 0 RX0 TX0 17 tyX0 := ⟨by decide, rfl, cw_0, tyX0_ok, nmX0, rfl, rfl⟩
theorem ck1 : ClOK 1 RX1 TX1 9 tyX1 := ⟨by decide, rfl, cw_1, tyX1_ok, nmX1, rfl, rfl⟩
theorem ck2 : ClOK 2 RX2 TX2 15 tyX2 := ⟨by decide, rfl, cw_2, tyX2_ok, nmX2, rfl, rfl⟩
theorem ck3 : ClOK 3 RX3 TX3 7 tyX3 := ⟨by decide, rfl, cw_3, tyX3_ok, nmX3, rfl, rfl⟩
theorem ck4 : ClOK 4 RX4 TX4 1 tyX4 := ⟨by decide, rfl, cw_4, tyX4_ok, nmX4, rfl, rfl⟩
theorem ck5 : ClOK 5 RX5 TX5 17 tyX5 := ⟨by decide, rfl, cw_5, tyX5_ok, nmX5, rfl, rfl⟩
theorem ck6 : ClOK 6 RX6 TX6 2 tyX6 := ⟨by decide, rfl, cw_6, tyX6_ok, nmX6, rfl, rfl⟩
theorem ck7 : ClOK 7 RX7 TX7 2 tyX7 := ⟨by decide, rfl, cw_7, tyX7_ok, nmX7, rfl, rfl⟩
theorem ck8 : ClOK 8 RX8 TX8 3 tyX8 := ⟨by decide, rfl, cw_8, tyX8_ok, nmX8, rfl, rfl⟩
theorem ck9 : ClOK 9 RX9 TX9 6 tyX9 := ⟨by decide, rfl, cw_9, tyX9_ok, nmX9, rfl, rfl⟩
theorem ck10 : ClOK 10 RX10 TX10 4 tyX10 := ⟨by decide, rfl, cw_10, tyX10_ok, nmX10, rfl, rfl⟩
theorem ck11 : ClOK 11 RX11 TX11 14 tyX11 := ⟨by decide, rfl, cw_11, tyX11_ok, nmX11, rfl, rfl⟩
-- what was there before the law began
def txt (j : Nat) : List Int32 := match j with
  | 0 => [112, 111, 114, 116] | 1 => [100, 97, 121, 115] | 2 => [108, 97, 119] | 3 => [111, 100, 100, 115] | 4 => [104, 111, 117, 115, 101] | 5 => [104, 105, 103, 104] | 6 => [119, 97, 121]
  | 7 => [99, 97, 114, 114, 105, 101, 114] | 8 => [97, 116] | 9 => [115, 116, 114, 111, 110, 103] | 10 => [115, 108, 97, 116, 101] | 11 => [119, 111, 114, 100] | 12 => [99, 97, 114, 114, 121] | _ => [116, 111]
def fct : List Int32 := [1, 1, 2, 6, 24, 120]
def pK (κ : KX) (i : Nat) : Nat × Nat := if i = 0 then (99, 0) else if i = 1 then (18, kL κ) else if i = 2 then (99, 0) else if i < 17 then (19, 0) else (20, (txt (i - 17)).length)
def pI (κ : KX) (i k : Nat) : Int32 := if i = 1 then kxs κ k else if i = 2 then fct.getD k 0 else if i < 17 then 0 else (txt (i - 17)).getD k 0
/-- what the law's objects may change: all from here on -/
def AQ (κ : KX) : Nat → Prop := fun q => ksz κ ≤ q
/-- the heap holds the picture -/
def Rep (κ : KX) (h : St) (H : Heap) : Prop :=
  n0 ≤ hn h ∧ H.size = ksz κ + (hn h - n0) ∧ (∀ i, n0 ≤ i → i < hn h → (hk h i).1 < 18 ∧ va_at (kD κ) classes (al κ i, cellOf κ h i) H) ∧ (∀ i, i < n0 → hk h i = pK κ i ∧ ∀ k, hi h i k = pI κ i k) ∧ (∀ i, hn h ≤ i → (hk h i).1 = 99)
-- a method of the claim: its class, code, locals, rank (how deep its calls go), is it a constructor
abbrev MI : Type := String × ByteArray × Nat × Nat × Bool
/-- what stays all through a method: the machine, the tables, the classes' numbers, what was there before, the room -/
def tByt : List (List Int32) := [txt 0, txt 1, txt 2, txt 3, txt 4, txt 5, txt 6, txt 7, txt 8, txt 9, txt 10, txt 11, txt 12, txt 13]
def tLen : List Nat := [4, 4, 3, 4, 5, 4, 3, 7, 2, 6, 5, 4, 5, 2]
def tIdx (j : Nat) : Nat := [109, 115, 123, 127, 60, 135, 76, 84, 156, 161, 92, 165, 100, 173].getD j 0
def tTx (j : Nat) : String := ["port", "days", "law", "odds", "house", "high", "way", "carrier", "at", "strong", "slate", "word", "carry", "to"].getD j ""
def PREK (κ : KX) (s : State) : Prop :=
  (∀ i, i < n0 → (pK κ i).1 = 18 → va_T .int (kpre κ i) (pK κ i).2 (fun k => .int (pI κ i k)) (AQ κ) s s.heap) ∧
  (∀ i, i < n0 → (pK κ i).1 = 20 → va_T .byte (kpre κ i) (pK κ i).2 (fun k => .int (pI κ i k)) (AQ κ) s s.heap) ∧
  True ∧
  (∀ j, j < 14 → vk_R RX6 (tIdx j) (tTx j) (kpre κ (3 + j)) s) ∧
  vk_S 14 tLen tByt (fun i => kpre κ (3 + i)) (fun i => kpre κ (17 + i)) (AQ κ) s s.heap ∧
  va_Z "java/lang/String" "COMPACT_STRINGS" "Z" (.int 1) (AQ κ) s s.heap ∧
  va_Zq "jdk/internal/util/Preconditions" "SIOOBE_FORMATTER" "Ljava/util/function/BiFunction;" (AQ κ) s s.heap ∧
  va_AO "SlateHands$Port" s
/-- it is the same in a state behind, where nothing of before has changed -/
theorem PREK.to {κ : KX} {s U : State} (h : PREK κ s) (hW : s.WarmedH U.vm) (hq : ∀ a : Nat, a < s.heap.size → ¬ AQ κ a → U.heap[a]? = s.heap[a]?) : PREK κ U := by
  obtain ⟨h1, h2, h3, h4, h5, h6, h7, h8⟩ := h
  have hv := hW.alike
  exact ⟨fun i a b => ((h1 i a b).kept hq).moved hv, fun i a b => ((h2 i a b).kept hq).moved hv, trivial, fun j a => (h4 j a).warm hW, (h5.kept hq).moved hv, (h6.kept hq).moved hv, (h7.kept hq).moved hv, h8.moved hv⟩
def CXT (mi : MI) (κ : KX) (p : Program) (R : Room) (s : State) (m : MethodId) (args : Array Value) (meth : Method) (c : Code) : Prop :=
  p.tables.exec = Jvm.exec ∧ c.code = mi.2.1 ∧ c.maxLocals = mi.2.2.1 ∧ s.vm.findClass mi.1 = some m.cls ∧ (∀ w ∈ TB, w.before args s = true) ∧ va_K (kD κ) classes (kT κ) s ∧ (∀ w ∈ NB, va_Nw w s) ∧ PREK κ s ∧ mi.2.2.2.1 ≤ R.frames ∧ 42 * mi.2.2.2.1 ≤ R.locals ∧ (mi.2.2.2.2 = true → meth.name = "<init>")
abbrev Gm : Type := List (Nat × Nat)
def lvv (κ : KX) (f : Fr) (q : Nat × Nat) : Nat × Value := (q.1, if q.2 = 0 then .int (gI f q.1) else if q.2 = 1 then .long (gL f q.1) else rv κ (gR f q.1))
/-- the machine goes on well from here -/
def GO (mi : MI) (κ : KX) (p : Program) (l : Launch) (e : Env) (R : Room) (s : State) (m : MethodId) (args : Array Value) (below : List Frame) (meth : Method) (c : Code) (nb sb : Nat) (Q : State → Prop) (Γ : Gm) (pc : Nat) (f : Fr) (h : St) (st : List Value) : Prop :=
  ∀ (ls : Array Slot) (H : Heap) (locs : List Loc), lv_has ls mi.2.2.1 (Γ.map (lvv κ f)) → Rep κ h H → va_S (AQ κ) s.heap H locs → nb ≤ hn h → sb ≤ hs h → W p l e R s m args below meth c H locs (hn h - nb) (hs h - sb) Q (F0 m pc ls st)
def LIM (R : Room) (nb sb : Nat) (h : St) : Prop := hn h - nb ≤ R.cells ∧ hs h - sb ≤ R.slots
def LE (h h' : St) : Prop := hn h ≤ hn h' ∧ hs h ≤ hs h'
theorem LE.rf (h : St) : LE h h := ⟨Nat.le_refl _, Nat.le_refl _⟩
theorem LE.tr {a b c : St} (h : LE a b) (k : LE b c) : LE a c := ⟨Nat.le_trans h.1 k.1, Nat.le_trans h.2 k.2⟩
theorem LIM.le {R : Room} {nb sb : Nat} {a b : St} (h : LE a b) (k : LIM R nb sb b) : LIM R nb sb a := ⟨by have := h.1; have := k.1; omega, by have := h.2; have := k.2; omega⟩
abbrev Ex (α : Type) : Type := Fr → St → Option (α × St)
abbrev Cd : Type := Fr → St → Option (Bool × St)
abbrev Sm (α : Type) : Type := Fr → St → Option ((Nat ⊕ α) × Fr × St)
/-- an expression: from pc to pc' its value comes on the stack, of which k words are taken -/
def SE {α : Type} (cv : KX → α → Value) (mi : MI) (Γ : Gm) (k pc pc' : Nat) (E : Ex α) : Prop :=
  (∀ f h v h', E f h = some (v, h') → LE h h') ∧
  ∀ κ p l e R s m args below meth c nb sb Q, CXT mi κ p R s m args meth c → ∀ f h v h', E f h = some (v, h') → LIM R nb sb h' → ∀ st, (st.map fun v => v.category).sum ≤ k → GO mi κ p l e R s m args below meth c nb sb Q Γ pc' f h' (cv κ v :: st) → GO mi κ p l e R s m args below meth c nb sb Q Γ pc f h st
/-- a condition: from pc to pcT or pcF -/
def SC (mi : MI) (Γ : Gm) (k pc pcT pcF : Nat) (E : Cd) : Prop :=
  (∀ f h v h', E f h = some (v, h') → LE h h') ∧
  ∀ κ p l e R s m args below meth c nb sb Q, CXT mi κ p R s m args meth c → ∀ f h v h', E f h = some (v, h') → LIM R nb sb h' → ∀ st, (st.map fun v => v.category).sum ≤ k → GO mi κ p l e R s m args below meth c nb sb Q Γ (if v then pcT else pcF) f h' st → GO mi κ p l e R s m args below meth c nb sb Q Γ pc f h st
/-- what a return of v must come to: from any return instruction -/
def RET {α : Type} (rt : (KX → α → Option Value) × Instr) (mi : MI) (κ : KX) (p : Program) (l : Launch) (e : Env) (R : Room) (s : State) (m : MethodId) (args : Array Value) (below : List Frame) (meth : Method) (c : Code) (nb sb : Nat) (Q : State → Prop) (v : α) (h : St) : Prop :=
  ∀ pc f, decode mi.2.1 pc = .ok (rt.2, 1) → GO mi κ p l e R s m args below meth c nb sb Q [] pc f h (rt.1 κ v).toList
/-- a statement: from pc to each of X; its breaks go to each of PB, its continues to each of PK, there with the locals of ΓL -/
def SS {α : Type} (rt : (KX → α → Option Value) × Instr) (mi : MI) (ΓL : Gm) (PB PK : List Nat) (Γ Γ' : Gm) (pc : Nat) (X : List Nat) (S : Sm α) : Prop :=
  (∀ f h o f' h', S f h = some (o, f', h') → LE h h') ∧
  ∀ κ p l e R s m args below meth c nb sb Q, CXT mi κ p R s m args meth c → ∀ f h o f' h', S f h = some (o, f', h') → LIM R nb sb h' →
    (o = .inl 0 → ∀ x ∈ X, GO mi κ p l e R s m args below meth c nb sb Q Γ' x f' h' []) → (o = .inl 1 → ∀ x ∈ PB, GO mi κ p l e R s m args below meth c nb sb Q ΓL x f' h' []) → (o = .inl 2 → ∀ x ∈ PK, GO mi κ p l e R s m args below meth c nb sb Q ΓL x f' h' []) →
    (∀ v, o = .inr v → RET rt mi κ p l e R s m args below meth c nb sb Q v h') → GO mi κ p l e R s m args below meth c nb sb Q Γ pc f h []
def cvI (_ : KX) (v : Int32) : Value := .int v
def cvL (_ : KX) (v : Int64) : Value := .long v
def cvR (κ : KX) (v : Nat) : Value := rv κ v
-- instructions that touch the stack alone
def RUL (mi : MI) (pc pc' : Nat) (st st' : List Value) : Prop := ∀ (p : Program) (l : Launch) (e : Env) (R : Room) (s : State) (m : MethodId) (args : Array Value) (below : List Frame) (meth : Method) (c : Code) (H : Heap) (locs : List Loc) (cells slots : Nat) (Q : State → Prop) (ls : Array Slot), p.tables.exec = Jvm.exec → c.code = mi.2.1 → (s.vm.findClass mi.1 = some m.cls ∧ ∀ w ∈ TB, w.before args s = true) → W p l e R s m args below meth c H locs cells slots Q (F0 m pc' ls st') → W p l e R s m args below meth c H locs cells slots Q (F0 m pc ls st)
theorem RUL.go {mi : MI} {pc pc' : Nat} {st st' : List Value} (hru : RUL mi pc pc' st st') {κ : KX} {p : Program} {l : Launch} {e : Env} {R : Room} {s : State} {m : MethodId} {args : Array Value} {below : List Frame} {meth : Method} {c : Code} {nb sb : Nat} {Q : State → Prop} (C : CXT mi κ p R s m args meth c) {Γ : Gm} {f : Fr} {h : St} (K : GO mi κ p l e R s m args below meth c nb sb Q Γ pc' f h st') : GO mi κ p l e R s m args below meth c nb sb Q Γ pc f h st :=
  fun ls H locs a b d e1 e2 => hru p l e R s m args below meth c H locs _ _ Q ls C.1 C.2.1 ⟨C.2.2.2.1, C.2.2.2.2.1⟩ (K ls H locs a b d e1 e2)
theorem GO.sub {mi : MI} {κ : KX} {p : Program} {l : Launch} {e : Env} {R : Room} {s : State} {m : MethodId} {args : Array Value} {below : List Frame} {meth : Method} {c : Code} {nb sb : Nat} {Q : State → Prop} {Γ Γ' : Gm} {pc : Nat} {f : Fr} {h : St} {st : List Value} (hΓ : ∀ q ∈ Γ', q ∈ Γ) (K : GO mi κ p l e R s m args below meth c nb sb Q Γ' pc f h st) : GO mi κ p l e R s m args below meth c nb sb Q Γ pc f h st :=
  fun ls H locs a b d e1 e2 => K ls H locs ⟨a.1, a.2.1, fun q hq => by obtain ⟨x, hx, rfl⟩ := List.mem_map.mp hq; exact a.2.2 _ (List.mem_map.mpr ⟨x, hΓ x hx, rfl⟩)⟩ b d e1 e2
theorem GO.eqf {mi : MI} {κ : KX} {p : Program} {l : Launch} {e : Env} {R : Room} {s : State} {m : MethodId} {args : Array Value} {below : List Frame} {meth : Method} {c : Code} {nb sb : Nat} {Q : State → Prop} {Γ : Gm} {pc : Nat} {f f' : Fr} {h : St} {st : List Value} (hf : ∀ q ∈ Γ, lvv κ f q = lvv κ f' q) (K : GO mi κ p l e R s m args below meth c nb sb Q Γ pc f' h st) : GO mi κ p l e R s m args below meth c nb sb Q Γ pc f h st :=
  fun ls H locs a b d e1 e2 => K ls H locs ⟨a.1, a.2.1, fun q hq => by obtain ⟨x, hx, rfl⟩ := List.mem_map.mp hq; rw [← hf x hx]; exact a.2.2 _ (List.mem_map.mpr ⟨x, hx, rfl⟩)⟩ b d e1 e2
theorem rulI {mi : MI} {pc pc' : Nat} {st st' : List Value} (h : ∀ {p : Program} {l : Launch} {e : Env} {R : Room} {s : State} {m : MethodId} {args : Array Value} {below : List Frame} {meth : Method} {c : Code} {H : Heap} {locs : List Loc} {cells slots : Nat} {Q : State → Prop} {ls : Array Slot}, p.tables.exec = Jvm.exec → c.code = mi.2.1 → W p l e R s m args below meth c H locs cells slots Q (F0 m pc' ls st') → W p l e R s m args below meth c H locs cells slots Q (F0 m pc ls st)) : RUL mi pc pc' st st' :=
  fun _ _ _ _ _ _ _ _ _ _ _ _ _ _ _ _ a b _ d => h a b d
