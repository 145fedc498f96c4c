/-! THE CLAIM OUT OF ONE WALK OF THE LAW'S BODY. Your part is whole_start (and what it stands on); all else here is the same for every law, but numbers. -/
def R_law : String := "SlateHandsLaw"
def lw_P (b : Addr) (xs : List Int32) (args : Array Value) (s : State) : Prop := args = #[.ref b] ∧ s.IntsAt b xs ∧ xs.length ≤ 260 ∧ (Jvm.Cond.and given_1 narrow_1).before args s = true
def lw_Q (_ : Array Value) (s : State) (o : Outcome) (t : State) : Prop := o = .returned (some (.int 1)) ∧ Framed s o t [] room_1.cells room_1.slots
def lw_Z (below : List Frame) (a : Array Value) (s : State) : State → Prop := fun t => ∃ o, t.status = .running ∧ Ended t below o ∧ lw_Q a s o t
/-- the law's own end, with 1 on the stack, nothing written that was there before, its room as the claim has it -/
theorem lw_ret {p : Program} {l : Launch} {e : Env} {s : State} {m : MethodId} {below : List Frame} {meth : Method} {c : Code} {b : Nat} (hx : p.tables.exec = Jvm.exec) (hb : c.code = code) (hr : meth.sig.returnType = ret) (hlocks : meth.locks = false) {pc : Nat} {H : Heap} {ls : Array Slot} (hdg : decode code pc = .ok (.ireturn, 1)) : W p l e room_1 s m #[Value.ref b] below meth c H [] room_1.cells room_1.slots (lw_Z below #[Value.ref b] s) (F0 m pc ls [.int 1]) := by
  intro T hT X
  obtain ⟨fs, hret, hrun, hended, hW, hframe⟩ := X.leave (v := some (.int 1)) (hlocks := hlocks) (fun h => by rw [hr] at h; cases h)
  have hmeth' : T.vm.method? m = some meth := X.method'
  refine ⟨T.setFrames fs, ?_, .returned (some (.int 1)), hrun, hended, rfl, ⟨_, rfl⟩, hW, hframe⟩
  jvm_step X.here [X.here.top, hx, hb, hdg, hmeth', hr, ret, narrow_b1]
  (try refine ⟨rfl, ?_⟩); (try refine ⟨rfl, ?_⟩)
  first | (intro acts; rw [hret _ acts rfl rfl rfl]) | rw [hret _ _ rfl rfl rfl]
  exact Steps.refl _
/-- what holds at the law's entry: the machine, the code, the tables' words (any of lw_tbl by 'hts w (by decide +kernel)'), the script of L ints xs at the cell b, what the Statement gives of the start (any of its parts by flat_of_before) -/
def lw_At (p : Program) (s : State) (m : MethodId) (meth : Method) (c : Code) (b L : Nat) (xs : Nat → Int32) : Prop :=
  p.tables.exec = Jvm.exec ∧ c.code = code ∧ meth.sig.returnType = ret ∧ c.maxLocals = 28 ∧ s.vm.findClass R_law = some m.cls ∧ (∀ w ∈ lw_tbl, w.before #[Value.ref b] s = true) ∧ va_X b L xs s s.heap ∧ b < s.heap.size ∧ meth.locks = false ∧ (Jvm.Cond.and given_1 narrow_1).before #[Value.ref b] s = true

/-! from the law's own reading to its walk -/
def pK0 (L i : Nat) : Nat × Nat := if i = 0 then (99, 0) else if i = 1 then (18, L) else if i = 2 then (99, 0) else if i < 17 then (19, 0) else (20, (txt (i - 17)).length)
def pI0 (xs : Nat → Int32) (i k : Nat) : Int32 := if i = 1 then xs k else if i = 2 then fct.getD k 0 else if i < 17 then 0 else (txt (i - 17)).getD k 0
def St0 (L : Nat) (xs : Nat → Int32) : St := (fun i k => if i < 31 then pI0 xs i k else 0, fun _ _ => 0, fun _ _ => 0, fun i => if i < 31 then pK0 L i else (99, 0), 31, 0)
def tTm (j : Nat) : Term := .string RX6 (tIdx j)
def nwF : List Cond := flatC (Jvm.Cond.and given_1 narrow_1)
def nwL0 : List Cond := [(Jvm.Cond.count (1 : Nat)), (Jvm.Cond.isRef (Jvm.Term.arg (0 : Nat))), (Jvm.Cond.arrayOf (Jvm.Term.arg (0 : Nat)) Jvm.ClassFile.FieldType.int), (Jvm.Cond.le (Jvm.Term.length (Jvm.Term.arg (0 : Nat))) (Jvm.Term.int (260 : Int32))), (Jvm.Cond.eq (Jvm.Term.static "java/lang/String" "COMPACT_STRINGS" "Z") (Jvm.Term.int (1 : Int32))), (Jvm.Cond.isRef (Jvm.Term.static "jdk/internal/util/Preconditions" "SIOOBE_FORMATTER" "Ljava/util/function/BiFunction;")), (Jvm.Cond.eq (Jvm.Term.static "java/lang/StringUTF16" "$assertionsDisabled" "Z") (Jvm.Term.int (1 : Int32))), (Jvm.Cond.eq (Jvm.Term.static "java/lang/StringUTF16" "HI_BYTE_SHIFT" "I") (Jvm.Term.int (0 : Int32))), (Jvm.Cond.eq (Jvm.Term.static "java/lang/StringUTF16" "LO_BYTE_SHIFT" "I") (Jvm.Term.int (8 : Int32))), (Jvm.Cond.exactly (Jvm.Term.string "SlateHands$Reader" (109 : Nat)) "java/lang/String"), (Jvm.Cond.eq (Jvm.Term.field (Jvm.Term.string "SlateHands$Reader" (109 : Nat)) "java/lang/String" "coder" "B") (Jvm.Term.int (0 : Int32))), (Jvm.Cond.arrayOf (Jvm.Term.field (Jvm.Term.string "SlateHands$Reader" (109 : Nat)) "java/lang/String" "value" "[B") Jvm.ClassFile.FieldType.byte), (Jvm.Cond.eq (Jvm.Term.length (Jvm.Term.field (Jvm.Term.string "SlateHands$Reader" (109 : Nat)) "java/lang/String" "value" "[B")) (Jvm.Term.int (4 : Int32))), (Jvm.Cond.eq (Jvm.Term.elem (Jvm.Term.field (Jvm.Term.string "SlateHands$Reader" (109 : Nat)) "java/lang/String" "value" "[B") (Jvm.Term.int (0 : Int32))) (Jvm.Term.int (112 : Int32))), (Jvm.Cond.eq (Jvm.Term.elem (Jvm.Term.field (Jvm.Term.string "SlateHands$Reader" (109 : Nat)) "java/lang/String" "value" "[B") (Jvm.Term.int (1 : Int32))) (Jvm.Term.int (111 : Int32))), (Jvm.Cond.eq (Jvm.Term.elem (Jvm.Term.field (Jvm.Term.string "SlateHands$Reader" (109 : Nat)) "java/lang/String" "value" "[B") (Jvm.Term.int (2 : Int32))) (Jvm.Term.int (114 : Int32))), (Jvm.Cond.eq (Jvm.Term.elem (Jvm.Term.field (Jvm.Term.string "SlateHands$Reader" (109 : Nat)) "java/lang/String" "value" "[B") (Jvm.Term.int (3 : Int32))) (Jvm.Term.int (116 : Int32))), (Jvm.Cond.exactly (Jvm.Term.string "SlateHands$Reader" (115 : Nat)) "java/lang/String"), (Jvm.Cond.eq (Jvm.Term.field (Jvm.Term.string "SlateHands$Reader" (115 : Nat)) "java/lang/String" "coder" "B") (Jvm.Term.int (0 : Int32))), (Jvm.Cond.arrayOf (Jvm.Term.field (Jvm.Term.string "SlateHands$Reader" (115 : Nat)) "java/lang/String" "value" "[B") Jvm.ClassFile.FieldType.byte), (Jvm.Cond.eq (Jvm.Term.length (Jvm.Term.field (Jvm.Term.string "SlateHands$Reader" (115 : Nat)) "java/lang/String" "value" "[B")) (Jvm.Term.int (4 : Int32))), (Jvm.Cond.eq (Jvm.Term.elem (Jvm.Term.field (Jvm.Term.string "SlateHands$Reader" (115 : Nat)) "java/lang/String" "value" "[B") (Jvm.Term.int (0 : Int32))) (Jvm.Term.int (100 : Int32))), (Jvm.Cond.eq (Jvm.Term.elem (Jvm.Term.field (Jvm.Term.string "SlateHands$Reader" (115 : Nat)) "java/lang/String" "value" "[B") (Jvm.Term.int (1 : Int32))) (Jvm.Term.int (97 : Int32))), (Jvm.Cond.eq (Jvm.Term.elem (Jvm.Term.field (Jvm.Term.string "SlateHands$Reader" (115 : Nat)) "java/lang/String" "value" "[B") (Jvm.Term.int (2 : Int32))) (Jvm.Term.int (121 : Int32))), (Jvm.Cond.eq (Jvm.Term.elem (Jvm.Term.field (Jvm.Term.string "SlateHands$Reader" (115 : Nat)) "java/lang/String" "value" "[B") (Jvm.Term.int (3 : Int32))) (Jvm.Term.int (115 : Int32))), (Jvm.Cond.not (Jvm.Cond.eq (Jvm.Term.string "SlateHands$Reader" (109 : Nat)) (Jvm.Term.string "SlateHands$Reader" (115 : Nat)))), (Jvm.Cond.exactly (Jvm.Term.string "SlateHands$Reader" (123 : Nat)) "java/lang/String"), (Jvm.Cond.eq (Jvm.Term.field (Jvm.Term.string "SlateHands$Reader" (123 : Nat)) "java/lang/String" "coder" "B") (Jvm.Term.int (0 : Int32))), (Jvm.Cond.arrayOf (Jvm.Term.field (Jvm.Term.string "SlateHands$Reader" (123 : Nat)) "java/lang/String" "value" "[B") Jvm.ClassFile.FieldType.byte), (Jvm.Cond.eq (Jvm.Term.length (Jvm.Term.field (Jvm.Term.string "SlateHands$Reader" (123 : Nat)) "java/lang/String" "value" "[B")) (Jvm.Term.int (3 : Int32))), (Jvm.Cond.eq (Jvm.Term.elem (Jvm.Term.field (Jvm.Term.string "SlateHands$Reader" (123 : Nat)) "java/lang/String" "value" "[B") (Jvm.Term.int (0 : Int32))) (Jvm.Term.int (108 : Int32))), (Jvm.Cond.eq (Jvm.Term.elem (Jvm.Term.field (Jvm.Term.string "SlateHands$Reader" (123 : Nat)) "java/lang/String" "value" "[B") (Jvm.Term.int (1 : Int32))) (Jvm.Term.int (97 : Int32))), (Jvm.Cond.eq (Jvm.Term.elem (Jvm.Term.field (Jvm.Term.string "SlateHands$Reader" (123 : Nat)) "java/lang/String" "value" "[B") (Jvm.Term.int (2 : Int32))) (Jvm.Term.int (119 : Int32))), (Jvm.Cond.not (Jvm.Cond.eq (Jvm.Term.string "SlateHands$Reader" (109 : Nat)) (Jvm.Term.string "SlateHands$Reader" (123 : Nat)))), (Jvm.Cond.not (Jvm.Cond.eq (Jvm.Term.string "SlateHands$Reader" (115 : Nat)) (Jvm.Term.string "SlateHands$Reader" (123 : Nat)))), (Jvm.Cond.exactly (Jvm.Term.string "SlateHands$Reader" (127 : Nat)) "java/lang/String"), (Jvm.Cond.eq (Jvm.Term.field (Jvm.Term.string "SlateHands$Reader" (127 : Nat)) "java/lang/String" "coder" "B") (Jvm.Term.int (0 : Int32))), (Jvm.Cond.arrayOf (Jvm.Term.field (Jvm.Term.string "SlateHands$Reader" (127 : Nat)) "java/lang/String" "value" "[B") Jvm.ClassFile.FieldType.byte), (Jvm.Cond.eq (Jvm.Term.length (Jvm.Term.field (Jvm.Term.string "SlateHands$Reader" (127 : Nat)) "java/lang/String" "value" "[B")) (Jvm.Term.int (4 : Int32))), (Jvm.Cond.eq (Jvm.Term.elem (Jvm.Term.field (Jvm.Term.string "SlateHands$Reader" (127 : Nat)) "java/lang/String" "value" "[B") (Jvm.Term.int (0 : Int32))) (Jvm.Term.int (111 : Int32))), (Jvm.Cond.eq (Jvm.Term.elem (Jvm.Term.field (Jvm.Term.string "SlateHands$Reader" (127 : Nat)) "java/lang/String" "value" "[B") (Jvm.Term.int (1 : Int32))) (Jvm.Term.int (100 : Int32))), (Jvm.Cond.eq (Jvm.Term.elem (Jvm.Term.field (Jvm.Term.string "SlateHands$Reader" (127 : Nat)) "java/lang/String" "value" "[B") (Jvm.Term.int (2 : Int32))) (Jvm.Term.int (100 : Int32))), (Jvm.Cond.eq (Jvm.Term.elem (Jvm.Term.field (Jvm.Term.string "SlateHands$Reader" (127 : Nat)) "java/lang/String" "value" "[B") (Jvm.Term.int (3 : Int32))) (Jvm.Term.int (115 : Int32))), (Jvm.Cond.not (Jvm.Cond.eq (Jvm.Term.string "SlateHands$Reader" (109 : Nat)) (Jvm.Term.string "SlateHands$Reader" (127 : Nat)))), (Jvm.Cond.not (Jvm.Cond.eq (Jvm.Term.string "SlateHands$Reader" (115 : Nat)) (Jvm.Term.string "SlateHands$Reader" (127 : Nat)))), (Jvm.Cond.not (Jvm.Cond.eq (Jvm.Term.string "SlateHands$Reader" (123 : Nat)) (Jvm.Term.string "SlateHands$Reader" (127 : Nat)))), (Jvm.Cond.exactly (Jvm.Term.string "SlateHands$Reader" (60 : Nat)) "java/lang/String"), (Jvm.Cond.eq (Jvm.Term.field (Jvm.Term.string "SlateHands$Reader" (60 : Nat)) "java/lang/String" "coder" "B") (Jvm.Term.int (0 : Int32))), (Jvm.Cond.arrayOf (Jvm.Term.field (Jvm.Term.string "SlateHands$Reader" (60 : Nat)) "java/lang/String" "value" "[B") Jvm.ClassFile.FieldType.byte), (Jvm.Cond.eq (Jvm.Term.length (Jvm.Term.field (Jvm.Term.string "SlateHands$Reader" (60 : Nat)) "java/lang/String" "value" "[B")) (Jvm.Term.int (5 : Int32))), (Jvm.Cond.eq (Jvm.Term.elem (Jvm.Term.field (Jvm.Term.string "SlateHands$Reader" (60 : Nat)) "java/lang/String" "value" "[B") (Jvm.Term.int (0 : Int32))) (Jvm.Term.int (104 : Int32))), (Jvm.Cond.eq (Jvm.Term.elem (Jvm.Term.field (Jvm.Term.string "SlateHands$Reader" (60 : Nat)) "java/lang/String" "value" "[B") (Jvm.Term.int (1 : Int32))) (Jvm.Term.int (111 : Int32))), (Jvm.Cond.eq (Jvm.Term.elem (Jvm.Term.field (Jvm.Term.string "SlateHands$Reader" (60 : Nat)) "java/lang/String" "value" "[B") (Jvm.Term.int (2 : Int32))) (Jvm.Term.int (117 : Int32))), (Jvm.Cond.eq (Jvm.Term.elem (Jvm.Term.field (Jvm.Term.string "SlateHands$Reader" (60 : Nat)) "java/lang/String" "value" "[B") (Jvm.Term.int (3 : Int32))) (Jvm.Term.int (115 : Int32))), (Jvm.Cond.eq (Jvm.Term.elem (Jvm.Term.field (Jvm.Term.string "SlateHands$Reader" (60 : Nat)) "java/lang/String" "value" "[B") (Jvm.Term.int (4 : Int32))) (Jvm.Term.int (101 : Int32))), (Jvm.Cond.not (Jvm.Cond.eq (Jvm.Term.string "SlateHands$Reader" (109 : Nat)) (Jvm.Term.string "SlateHands$Reader" (60 : Nat)))), (Jvm.Cond.not (Jvm.Cond.eq (Jvm.Term.string "SlateHands$Reader" (115 : Nat)) (Jvm.Term.string "SlateHands$Reader" (60 : Nat)))), (Jvm.Cond.not (Jvm.Cond.eq (Jvm.Term.string "SlateHands$Reader" (123 : Nat)) (Jvm.Term.string "SlateHands$Reader" (60 : Nat)))), (Jvm.Cond.not (Jvm.Cond.eq (Jvm.Term.string "SlateHands$Reader" (127 : Nat)) (Jvm.Term.string "SlateHands$Reader" (60 : Nat)))), (Jvm.Cond.exactly (Jvm.Term.string "SlateHands$Reader" (135 : Nat)) "java/lang/String"), (Jvm.Cond.eq (Jvm.Term.field (Jvm.Term.string "SlateHands$Reader" (135 : Nat)) "java/lang/String" "coder" "B") (Jvm.Term.int (0 : Int32))), (Jvm.Cond.arrayOf (Jvm.Term.field (Jvm.Term.string "SlateHands$Reader" (135 : Nat)) "java/lang/String" "value" "[B") Jvm.ClassFile.FieldType.byte), (Jvm.Cond.eq (Jvm.Term.length (Jvm.Term.field (Jvm.Term.string "SlateHands$Reader" (135 : Nat)) "java/lang/String" "value" "[B")) (Jvm.Term.int (4 : Int32))), (Jvm.Cond.eq (Jvm.Term.elem (Jvm.Term.field (Jvm.Term.string "SlateHands$Reader" (135 : Nat)) "java/lang/String" "value" "[B") (Jvm.Term.int (0 : Int32))) (Jvm.Term.int (104 : Int32))), (Jvm.Cond.eq (Jvm.Term.elem (Jvm.Term.field (Jvm.Term.string "SlateHands$Reader" (135 : Nat)) "java/lang/String" "value" "[B") (Jvm.Term.int (1 : Int32))) (Jvm.Term.int (105 : Int32))), (Jvm.Cond.eq (Jvm.Term.elem (Jvm.Term.field (Jvm.Term.string "SlateHands$Reader" (135 : Nat)) "java/lang/String" "value" "[B") (Jvm.Term.int (2 : Int32))) (Jvm.Term.int (103 : Int32))), (Jvm.Cond.eq (Jvm.Term.elem (Jvm.Term.field (Jvm.Term.string "SlateHands$Reader" (135 : Nat)) "java/lang/String" "value" "[B") (Jvm.Term.int (3 : Int32))) (Jvm.Term.int (104 : Int32))), (Jvm.Cond.not (Jvm.Cond.eq (Jvm.Term.string "SlateHands$Reader" (109 : Nat)) (Jvm.Term.string "SlateHands$Reader" (135 : Nat)))), (Jvm.Cond.not (Jvm.Cond.eq (Jvm.Term.string "SlateHands$Reader" (115 : Nat)) (Jvm.Term.string "SlateHands$Reader" (135 : Nat)))), (Jvm.Cond.not (Jvm.Cond.eq (Jvm.Term.string "SlateHands$Reader" (123 : Nat)) (Jvm.Term.string "SlateHands$Reader" (135 : Nat)))), (Jvm.Cond.not (Jvm.Cond.eq (Jvm.Term.string "SlateHands$Reader" (127 : Nat)) (Jvm.Term.string "SlateHands$Reader" (135 : Nat)))), (Jvm.Cond.not (Jvm.Cond.eq (Jvm.Term.string "SlateHands$Reader" (60 : Nat)) (Jvm.Term.string "SlateHands$Reader" (135 : Nat)))), (Jvm.Cond.exactly (Jvm.Term.string "SlateHands$Reader" (76 : Nat)) "java/lang/String"), (Jvm.Cond.eq (Jvm.Term.field (Jvm.Term.string "SlateHands$Reader" (76 : Nat)) "java/lang/String" "coder" "B") (Jvm.Term.int (0 : Int32))), (Jvm.Cond.arrayOf (Jvm.Term.field (Jvm.Term.string "SlateHands$Reader" (76 : Nat)) "java/lang/String" "value" "[B") Jvm.ClassFile.FieldType.byte), (Jvm.Cond.eq (Jvm.Term.length (Jvm.Term.field (Jvm.Term.string "SlateHands$Reader" (76 : Nat)) "java/lang/String" "value" "[B")) (Jvm.Term.int (3 : Int32))), (Jvm.Cond.eq (Jvm.Term.elem (Jvm.Term.field (Jvm.Term.string "SlateHands$Reader" (76 : Nat)) "java/lang/String" "value" "[B") (Jvm.Term.int (0 : Int32))) (Jvm.Term.int (119 : Int32))), (Jvm.Cond.eq (Jvm.Term.elem (Jvm.Term.field (Jvm.Term.string "SlateHands$Reader" (76 : Nat)) "java/lang/String" "value" "[B") (Jvm.Term.int (1 : Int32))) (Jvm.Term.int (97 : Int32))), (Jvm.Cond.eq (Jvm.Term.elem (Jvm.Term.field (Jvm.Term.string "SlateHands$Reader" (76 : Nat)) "java/lang/String" "value" "[B") (Jvm.Term.int (2 : Int32))) (Jvm.Term.int (121 : Int32))), (Jvm.Cond.not (Jvm.Cond.eq (Jvm.Term.string "SlateHands$Reader" (109 : Nat)) (Jvm.Term.string "SlateHands$Reader" (76 : Nat))))]
def nwL1 : List Cond := [(Jvm.Cond.not (Jvm.Cond.eq (Jvm.Term.string "SlateHands$Reader" (115 : Nat)) (Jvm.Term.string "SlateHands$Reader" (76 : Nat)))), (Jvm.Cond.not (Jvm.Cond.eq (Jvm.Term.string "SlateHands$Reader" (123 : Nat)) (Jvm.Term.string "SlateHands$Reader" (76 : Nat)))), (Jvm.Cond.not (Jvm.Cond.eq (Jvm.Term.string "SlateHands$Reader" (127 : Nat)) (Jvm.Term.string "SlateHands$Reader" (76 : Nat)))), (Jvm.Cond.not (Jvm.Cond.eq (Jvm.Term.string "SlateHands$Reader" (60 : Nat)) (Jvm.Term.string "SlateHands$Reader" (76 : Nat)))), (Jvm.Cond.not (Jvm.Cond.eq (Jvm.Term.string "SlateHands$Reader" (135 : Nat)) (Jvm.Term.string "SlateHands$Reader" (76 : Nat)))), (Jvm.Cond.exactly (Jvm.Term.string "SlateHands$Reader" (84 : Nat)) "java/lang/String"), (Jvm.Cond.eq (Jvm.Term.field (Jvm.Term.string "SlateHands$Reader" (84 : Nat)) "java/lang/String" "coder" "B") (Jvm.Term.int (0 : Int32))), (Jvm.Cond.arrayOf (Jvm.Term.field (Jvm.Term.string "SlateHands$Reader" (84 : Nat)) "java/lang/String" "value" "[B") Jvm.ClassFile.FieldType.byte), (Jvm.Cond.eq (Jvm.Term.length (Jvm.Term.field (Jvm.Term.string "SlateHands$Reader" (84 : Nat)) "java/lang/String" "value" "[B")) (Jvm.Term.int (7 : Int32))), (Jvm.Cond.eq (Jvm.Term.elem (Jvm.Term.field (Jvm.Term.string "SlateHands$Reader" (84 : Nat)) "java/lang/String" "value" "[B") (Jvm.Term.int (0 : Int32))) (Jvm.Term.int (99 : Int32))), (Jvm.Cond.eq (Jvm.Term.elem (Jvm.Term.field (Jvm.Term.string "SlateHands$Reader" (84 : Nat)) "java/lang/String" "value" "[B") (Jvm.Term.int (1 : Int32))) (Jvm.Term.int (97 : Int32))), (Jvm.Cond.eq (Jvm.Term.elem (Jvm.Term.field (Jvm.Term.string "SlateHands$Reader" (84 : Nat)) "java/lang/String" "value" "[B") (Jvm.Term.int (2 : Int32))) (Jvm.Term.int (114 : Int32))), (Jvm.Cond.eq (Jvm.Term.elem (Jvm.Term.field (Jvm.Term.string "SlateHands$Reader" (84 : Nat)) "java/lang/String" "value" "[B") (Jvm.Term.int (3 : Int32))) (Jvm.Term.int (114 : Int32))), (Jvm.Cond.eq (Jvm.Term.elem (Jvm.Term.field (Jvm.Term.string "SlateHands$Reader" (84 : Nat)) "java/lang/String" "value" "[B") (Jvm.Term.int (4 : Int32))) (Jvm.Term.int (105 : Int32))), (Jvm.Cond.eq (Jvm.Term.elem (Jvm.Term.field (Jvm.Term.string "SlateHands$Reader" (84 : Nat)) "java/lang/String" "value" "[B") (Jvm.Term.int (5 : Int32))) (Jvm.Term.int (101 : Int32))), (Jvm.Cond.eq (Jvm.Term.elem (Jvm.Term.field (Jvm.Term.string "SlateHands$Reader" (84 : Nat)) "java/lang/String" "value" "[B") (Jvm.Term.int (6 : Int32))) (Jvm.Term.int (114 : Int32))), (Jvm.Cond.not (Jvm.Cond.eq (Jvm.Term.string "SlateHands$Reader" (109 : Nat)) (Jvm.Term.string "SlateHands$Reader" (84 : Nat)))), (Jvm.Cond.not (Jvm.Cond.eq (Jvm.Term.string "SlateHands$Reader" (115 : Nat)) (Jvm.Term.string "SlateHands$Reader" (84 : Nat)))), (Jvm.Cond.not (Jvm.Cond.eq (Jvm.Term.string "SlateHands$Reader" (123 : Nat)) (Jvm.Term.string "SlateHands$Reader" (84 : Nat)))), (Jvm.Cond.not (Jvm.Cond.eq (Jvm.Term.string "SlateHands$Reader" (127 : Nat)) (Jvm.Term.string "SlateHands$Reader" (84 : Nat)))), (Jvm.Cond.not (Jvm.Cond.eq (Jvm.Term.string "SlateHands$Reader" (60 : Nat)) (Jvm.Term.string "SlateHands$Reader" (84 : Nat)))), (Jvm.Cond.not (Jvm.Cond.eq (Jvm.Term.string "SlateHands$Reader" (135 : Nat)) (Jvm.Term.string "SlateHands$Reader" (84 : Nat)))), (Jvm.Cond.not (Jvm.Cond.eq (Jvm.Term.string "SlateHands$Reader" (76 : Nat)) (Jvm.Term.string "SlateHands$Reader" (84 : Nat)))), (Jvm.Cond.exactly (Jvm.Term.string "SlateHands$Reader" (156 : Nat)) "java/lang/String"), (Jvm.Cond.eq (Jvm.Term.field (Jvm.Term.string "SlateHands$Reader" (156 : Nat)) "java/lang/String" "coder" "B") (Jvm.Term.int (0 : Int32))), (Jvm.Cond.arrayOf (Jvm.Term.field (Jvm.Term.string "SlateHands$Reader" (156 : Nat)) "java/lang/String" "value" "[B") Jvm.ClassFile.FieldType.byte), (Jvm.Cond.eq (Jvm.Term.length (Jvm.Term.field (Jvm.Term.string "SlateHands$Reader" (156 : Nat)) "java/lang/String" "value" "[B")) (Jvm.Term.int (2 : Int32))), (Jvm.Cond.eq (Jvm.Term.elem (Jvm.Term.field (Jvm.Term.string "SlateHands$Reader" (156 : Nat)) "java/lang/String" "value" "[B") (Jvm.Term.int (0 : Int32))) (Jvm.Term.int (97 : Int32))), (Jvm.Cond.eq (Jvm.Term.elem (Jvm.Term.field (Jvm.Term.string "SlateHands$Reader" (156 : Nat)) "java/lang/String" "value" "[B") (Jvm.Term.int (1 : Int32))) (Jvm.Term.int (116 : Int32))), (Jvm.Cond.not (Jvm.Cond.eq (Jvm.Term.string "SlateHands$Reader" (109 : Nat)) (Jvm.Term.string "SlateHands$Reader" (156 : Nat)))), (Jvm.Cond.not (Jvm.Cond.eq (Jvm.Term.string "SlateHands$Reader" (115 : Nat)) (Jvm.Term.string "SlateHands$Reader" (156 : Nat)))), (Jvm.Cond.not (Jvm.Cond.eq (Jvm.Term.string "SlateHands$Reader" (123 : Nat)) (Jvm.Term.string "SlateHands$Reader" (156 : Nat)))), (Jvm.Cond.not (Jvm.Cond.eq (Jvm.Term.string "SlateHands$Reader" (127 : Nat)) (Jvm.Term.string "SlateHands$Reader" (156 : Nat)))), (Jvm.Cond.not (Jvm.Cond.eq (Jvm.Term.string "SlateHands$Reader" (60 : Nat)) (Jvm.Term.string "SlateHands$Reader" (156 : Nat)))), (Jvm.Cond.not (Jvm.Cond.eq (Jvm.Term.string "SlateHands$Reader" (135 : Nat)) (Jvm.Term.string "SlateHands$Reader" (156 : Nat)))), (Jvm.Cond.not (Jvm.Cond.eq (Jvm.Term.string "SlateHands$Reader" (76 : Nat)) (Jvm.Term.string "SlateHands$Reader" (156 : Nat)))), (Jvm.Cond.not (Jvm.Cond.eq (Jvm.Term.string "SlateHands$Reader" (84 : Nat)) (Jvm.Term.string "SlateHands$Reader" (156 : Nat)))), (Jvm.Cond.exactly (Jvm.Term.string "SlateHands$Reader" (161 : Nat)) "java/lang/String"), (Jvm.Cond.eq (Jvm.Term.field (Jvm.Term.string "SlateHands$Reader" (161 : Nat)) "java/lang/String" "coder" "B") (Jvm.Term.int (0 : Int32))), (Jvm.Cond.arrayOf (Jvm.Term.field (Jvm.Term.string "SlateHands$Reader" (161 : Nat)) "java/lang/String" "value" "[B") Jvm.ClassFile.FieldType.byte), (Jvm.Cond.eq (Jvm.Term.length (Jvm.Term.field (Jvm.Term.string "SlateHands$Reader" (161 : Nat)) "java/lang/String" "value" "[B")) (Jvm.Term.int (6 : Int32))), (Jvm.Cond.eq (Jvm.Term.elem (Jvm.Term.field (Jvm.Term.string "SlateHands$Reader" (161 : Nat)) "java/lang/String" "value" "[B") (Jvm.Term.int (0 : Int32))) (Jvm.Term.int (115 : Int32))), (Jvm.Cond.eq (Jvm.Term.elem (Jvm.Term.field (Jvm.Term.string "SlateHands$Reader" (161 : Nat)) "java/lang/String" "value" "[B") (Jvm.Term.int (1 : Int32))) (Jvm.Term.int (116 : Int32))), (Jvm.Cond.eq (Jvm.Term.elem (Jvm.Term.field (Jvm.Term.string "SlateHands$Reader" (161 : Nat)) "java/lang/String" "value" "[B") (Jvm.Term.int (2 : Int32))) (Jvm.Term.int (114 : Int32))), (Jvm.Cond.eq (Jvm.Term.elem (Jvm.Term.field (Jvm.Term.string "SlateHands$Reader" (161 : Nat)) "java/lang/String" "value" "[B") (Jvm.Term.int (3 : Int32))) (Jvm.Term.int (111 : Int32))), (Jvm.Cond.eq (Jvm.Term.elem (Jvm.Term.field (Jvm.Term.string "SlateHands$Reader" (161 : Nat)) "java/lang/String" "value" "[B") (Jvm.Term.int (4 : Int32))) (Jvm.Term.int (110 : Int32))), (Jvm.Cond.eq (Jvm.Term.elem (Jvm.Term.field (Jvm.Term.string "SlateHands$Reader" (161 : Nat)) "java/lang/String" "value" "[B") (Jvm.Term.int (5 : Int32))) (Jvm.Term.int (103 : Int32))), (Jvm.Cond.not (Jvm.Cond.eq (Jvm.Term.string "SlateHands$Reader" (109 : Nat)) (Jvm.Term.string "SlateHands$Reader" (161 : Nat)))), (Jvm.Cond.not (Jvm.Cond.eq (Jvm.Term.string "SlateHands$Reader" (115 : Nat)) (Jvm.Term.string "SlateHands$Reader" (161 : Nat)))), (Jvm.Cond.not (Jvm.Cond.eq (Jvm.Term.string "SlateHands$Reader" (123 : Nat)) (Jvm.Term.string "SlateHands$Reader" (161 : Nat)))), (Jvm.Cond.not (Jvm.Cond.eq (Jvm.Term.string "SlateHands$Reader" (127 : Nat)) (Jvm.Term.string "SlateHands$Reader" (161 : Nat)))), (Jvm.Cond.not (Jvm.Cond.eq (Jvm.Term.string "SlateHands$Reader" (60 : Nat)) (Jvm.Term.string "SlateHands$Reader" (161 : Nat)))), (Jvm.Cond.not (Jvm.Cond.eq (Jvm.Term.string "SlateHands$Reader" (135 : Nat)) (Jvm.Term.string "SlateHands$Reader" (161 : Nat)))), (Jvm.Cond.not (Jvm.Cond.eq (Jvm.Term.string "SlateHands$Reader" (76 : Nat)) (Jvm.Term.string "SlateHands$Reader" (161 : Nat)))), (Jvm.Cond.not (Jvm.Cond.eq (Jvm.Term.string "SlateHands$Reader" (84 : Nat)) (Jvm.Term.string "SlateHands$Reader" (161 : Nat)))), (Jvm.Cond.not (Jvm.Cond.eq (Jvm.Term.string "SlateHands$Reader" (156 : Nat)) (Jvm.Term.string "SlateHands$Reader" (161 : Nat)))), (Jvm.Cond.exactly (Jvm.Term.string "SlateHands$Reader" (92 : Nat)) "java/lang/String"), (Jvm.Cond.eq (Jvm.Term.field (Jvm.Term.string "SlateHands$Reader" (92 : Nat)) "java/lang/String" "coder" "B") (Jvm.Term.int (0 : Int32))), (Jvm.Cond.arrayOf (Jvm.Term.field (Jvm.Term.string "SlateHands$Reader" (92 : Nat)) "java/lang/String" "value" "[B") Jvm.ClassFile.FieldType.byte), (Jvm.Cond.eq (Jvm.Term.length (Jvm.Term.field (Jvm.Term.string "SlateHands$Reader" (92 : Nat)) "java/lang/String" "value" "[B")) (Jvm.Term.int (5 : Int32))), (Jvm.Cond.eq (Jvm.Term.elem (Jvm.Term.field (Jvm.Term.string "SlateHands$Reader" (92 : Nat)) "java/lang/String" "value" "[B") (Jvm.Term.int (0 : Int32))) (Jvm.Term.int (115 : Int32))), (Jvm.Cond.eq (Jvm.Term.elem (Jvm.Term.field (Jvm.Term.string "SlateHands$Reader" (92 : Nat)) "java/lang/String" "value" "[B") (Jvm.Term.int (1 : Int32))) (Jvm.Term.int (108 : Int32))), (Jvm.Cond.eq (Jvm.Term.elem (Jvm.Term.field (Jvm.Term.string "SlateHands$Reader" (92 : Nat)) "java/lang/String" "value" "[B") (Jvm.Term.int (2 : Int32))) (Jvm.Term.int (97 : Int32))), (Jvm.Cond.eq (Jvm.Term.elem (Jvm.Term.field (Jvm.Term.string "SlateHands$Reader" (92 : Nat)) "java/lang/String" "value" "[B") (Jvm.Term.int (3 : Int32))) (Jvm.Term.int (116 : Int32))), (Jvm.Cond.eq (Jvm.Term.elem (Jvm.Term.field (Jvm.Term.string "SlateHands$Reader" (92 : Nat)) "java/lang/String" "value" "[B") (Jvm.Term.int (4 : Int32))) (Jvm.Term.int (101 : Int32))), (Jvm.Cond.not (Jvm.Cond.eq (Jvm.Term.string "SlateHands$Reader" (109 : Nat)) (Jvm.Term.string "SlateHands$Reader" (92 : Nat)))), (Jvm.Cond.not (Jvm.Cond.eq (Jvm.Term.string "SlateHands$Reader" (115 : Nat)) (Jvm.Term.string "SlateHands$Reader" (92 : Nat)))), (Jvm.Cond.not (Jvm.Cond.eq (Jvm.Term.string "SlateHands$Reader" (123 : Nat)) (Jvm.Term.string "SlateHands$Reader" (92 : Nat)))), (Jvm.Cond.not (Jvm.Cond.eq (Jvm.Term.string "SlateHands$Reader" (127 : Nat)) (Jvm.Term.string "SlateHands$Reader" (92 : Nat)))), (Jvm.Cond.not (Jvm.Cond.eq (Jvm.Term.string "SlateHands$Reader" (60 : Nat)) (Jvm.Term.string "SlateHands$Reader" (92 : Nat)))), (Jvm.Cond.not (Jvm.Cond.eq (Jvm.Term.string "SlateHands$Reader" (135 : Nat)) (Jvm.Term.string "SlateHands$Reader" (92 : Nat)))), (Jvm.Cond.not (Jvm.Cond.eq (Jvm.Term.string "SlateHands$Reader" (76 : Nat)) (Jvm.Term.string "SlateHands$Reader" (92 : Nat)))), (Jvm.Cond.not (Jvm.Cond.eq (Jvm.Term.string "SlateHands$Reader" (84 : Nat)) (Jvm.Term.string "SlateHands$Reader" (92 : Nat)))), (Jvm.Cond.not (Jvm.Cond.eq (Jvm.Term.string "SlateHands$Reader" (156 : Nat)) (Jvm.Term.string "SlateHands$Reader" (92 : Nat)))), (Jvm.Cond.not (Jvm.Cond.eq (Jvm.Term.string "SlateHands$Reader" (161 : Nat)) (Jvm.Term.string "SlateHands$Reader" (92 : Nat)))), (Jvm.Cond.exactly (Jvm.Term.string "SlateHands$Reader" (165 : Nat)) "java/lang/String"), (Jvm.Cond.eq (Jvm.Term.field (Jvm.Term.string "SlateHands$Reader" (165 : Nat)) "java/lang/String" "coder" "B") (Jvm.Term.int (0 : Int32))), (Jvm.Cond.arrayOf (Jvm.Term.field (Jvm.Term.string "SlateHands$Reader" (165 : Nat)) "java/lang/String" "value" "[B") Jvm.ClassFile.FieldType.byte), (Jvm.Cond.eq (Jvm.Term.length (Jvm.Term.field (Jvm.Term.string "SlateHands$Reader" (165 : Nat)) "java/lang/String" "value" "[B")) (Jvm.Term.int (4 : Int32))), (Jvm.Cond.eq (Jvm.Term.elem (Jvm.Term.field (Jvm.Term.string "SlateHands$Reader" (165 : Nat)) "java/lang/String" "value" "[B") (Jvm.Term.int (0 : Int32))) (Jvm.Term.int (119 : Int32)))]
def nwL2 : List Cond := [(Jvm.Cond.eq (Jvm.Term.elem (Jvm.Term.field (Jvm.Term.string "SlateHands$Reader" (165 : Nat)) "java/lang/String" "value" "[B") (Jvm.Term.int (1 : Int32))) (Jvm.Term.int (111 : Int32))), (Jvm.Cond.eq (Jvm.Term.elem (Jvm.Term.field (Jvm.Term.string "SlateHands$Reader" (165 : Nat)) "java/lang/String" "value" "[B") (Jvm.Term.int (2 : Int32))) (Jvm.Term.int (114 : Int32))), (Jvm.Cond.eq (Jvm.Term.elem (Jvm.Term.field (Jvm.Term.string "SlateHands$Reader" (165 : Nat)) "java/lang/String" "value" "[B") (Jvm.Term.int (3 : Int32))) (Jvm.Term.int (100 : Int32))), (Jvm.Cond.not (Jvm.Cond.eq (Jvm.Term.string "SlateHands$Reader" (109 : Nat)) (Jvm.Term.string "SlateHands$Reader" (165 : Nat)))), (Jvm.Cond.not (Jvm.Cond.eq (Jvm.Term.string "SlateHands$Reader" (115 : Nat)) (Jvm.Term.string "SlateHands$Reader" (165 : Nat)))), (Jvm.Cond.not (Jvm.Cond.eq (Jvm.Term.string "SlateHands$Reader" (123 : Nat)) (Jvm.Term.string "SlateHands$Reader" (165 : Nat)))), (Jvm.Cond.not (Jvm.Cond.eq (Jvm.Term.string "SlateHands$Reader" (127 : Nat)) (Jvm.Term.string "SlateHands$Reader" (165 : Nat)))), (Jvm.Cond.not (Jvm.Cond.eq (Jvm.Term.string "SlateHands$Reader" (60 : Nat)) (Jvm.Term.string "SlateHands$Reader" (165 : Nat)))), (Jvm.Cond.not (Jvm.Cond.eq (Jvm.Term.string "SlateHands$Reader" (135 : Nat)) (Jvm.Term.string "SlateHands$Reader" (165 : Nat)))), (Jvm.Cond.not (Jvm.Cond.eq (Jvm.Term.string "SlateHands$Reader" (76 : Nat)) (Jvm.Term.string "SlateHands$Reader" (165 : Nat)))), (Jvm.Cond.not (Jvm.Cond.eq (Jvm.Term.string "SlateHands$Reader" (84 : Nat)) (Jvm.Term.string "SlateHands$Reader" (165 : Nat)))), (Jvm.Cond.not (Jvm.Cond.eq (Jvm.Term.string "SlateHands$Reader" (156 : Nat)) (Jvm.Term.string "SlateHands$Reader" (165 : Nat)))), (Jvm.Cond.not (Jvm.Cond.eq (Jvm.Term.string "SlateHands$Reader" (161 : Nat)) (Jvm.Term.string "SlateHands$Reader" (165 : Nat)))), (Jvm.Cond.not (Jvm.Cond.eq (Jvm.Term.string "SlateHands$Reader" (92 : Nat)) (Jvm.Term.string "SlateHands$Reader" (165 : Nat)))), (Jvm.Cond.exactly (Jvm.Term.string "SlateHands$Reader" (100 : Nat)) "java/lang/String"), (Jvm.Cond.eq (Jvm.Term.field (Jvm.Term.string "SlateHands$Reader" (100 : Nat)) "java/lang/String" "coder" "B") (Jvm.Term.int (0 : Int32))), (Jvm.Cond.arrayOf (Jvm.Term.field (Jvm.Term.string "SlateHands$Reader" (100 : Nat)) "java/lang/String" "value" "[B") Jvm.ClassFile.FieldType.byte), (Jvm.Cond.eq (Jvm.Term.length (Jvm.Term.field (Jvm.Term.string "SlateHands$Reader" (100 : Nat)) "java/lang/String" "value" "[B")) (Jvm.Term.int (5 : Int32))), (Jvm.Cond.eq (Jvm.Term.elem (Jvm.Term.field (Jvm.Term.string "SlateHands$Reader" (100 : Nat)) "java/lang/String" "value" "[B") (Jvm.Term.int (0 : Int32))) (Jvm.Term.int (99 : Int32))), (Jvm.Cond.eq (Jvm.Term.elem (Jvm.Term.field (Jvm.Term.string "SlateHands$Reader" (100 : Nat)) "java/lang/String" "value" "[B") (Jvm.Term.int (1 : Int32))) (Jvm.Term.int (97 : Int32))), (Jvm.Cond.eq (Jvm.Term.elem (Jvm.Term.field (Jvm.Term.string "SlateHands$Reader" (100 : Nat)) "java/lang/String" "value" "[B") (Jvm.Term.int (2 : Int32))) (Jvm.Term.int (114 : Int32))), (Jvm.Cond.eq (Jvm.Term.elem (Jvm.Term.field (Jvm.Term.string "SlateHands$Reader" (100 : Nat)) "java/lang/String" "value" "[B") (Jvm.Term.int (3 : Int32))) (Jvm.Term.int (114 : Int32))), (Jvm.Cond.eq (Jvm.Term.elem (Jvm.Term.field (Jvm.Term.string "SlateHands$Reader" (100 : Nat)) "java/lang/String" "value" "[B") (Jvm.Term.int (4 : Int32))) (Jvm.Term.int (121 : Int32))), (Jvm.Cond.not (Jvm.Cond.eq (Jvm.Term.string "SlateHands$Reader" (109 : Nat)) (Jvm.Term.string "SlateHands$Reader" (100 : Nat)))), (Jvm.Cond.not (Jvm.Cond.eq (Jvm.Term.string "SlateHands$Reader" (115 : Nat)) (Jvm.Term.string "SlateHands$Reader" (100 : Nat)))), (Jvm.Cond.not (Jvm.Cond.eq (Jvm.Term.string "SlateHands$Reader" (123 : Nat)) (Jvm.Term.string "SlateHands$Reader" (100 : Nat)))), (Jvm.Cond.not (Jvm.Cond.eq (Jvm.Term.string "SlateHands$Reader" (127 : Nat)) (Jvm.Term.string "SlateHands$Reader" (100 : Nat)))), (Jvm.Cond.not (Jvm.Cond.eq (Jvm.Term.string "SlateHands$Reader" (60 : Nat)) (Jvm.Term.string "SlateHands$Reader" (100 : Nat)))), (Jvm.Cond.not (Jvm.Cond.eq (Jvm.Term.string "SlateHands$Reader" (135 : Nat)) (Jvm.Term.string "SlateHands$Reader" (100 : Nat)))), (Jvm.Cond.not (Jvm.Cond.eq (Jvm.Term.string "SlateHands$Reader" (76 : Nat)) (Jvm.Term.string "SlateHands$Reader" (100 : Nat)))), (Jvm.Cond.not (Jvm.Cond.eq (Jvm.Term.string "SlateHands$Reader" (84 : Nat)) (Jvm.Term.string "SlateHands$Reader" (100 : Nat)))), (Jvm.Cond.not (Jvm.Cond.eq (Jvm.Term.string "SlateHands$Reader" (156 : Nat)) (Jvm.Term.string "SlateHands$Reader" (100 : Nat)))), (Jvm.Cond.not (Jvm.Cond.eq (Jvm.Term.string "SlateHands$Reader" (161 : Nat)) (Jvm.Term.string "SlateHands$Reader" (100 : Nat)))), (Jvm.Cond.not (Jvm.Cond.eq (Jvm.Term.string "SlateHands$Reader" (92 : Nat)) (Jvm.Term.string "SlateHands$Reader" (100 : Nat)))), (Jvm.Cond.not (Jvm.Cond.eq (Jvm.Term.string "SlateHands$Reader" (165 : Nat)) (Jvm.Term.string "SlateHands$Reader" (100 : Nat)))), (Jvm.Cond.exactly (Jvm.Term.string "SlateHands$Reader" (173 : Nat)) "java/lang/String"), (Jvm.Cond.eq (Jvm.Term.field (Jvm.Term.string "SlateHands$Reader" (173 : Nat)) "java/lang/String" "coder" "B") (Jvm.Term.int (0 : Int32))), (Jvm.Cond.arrayOf (Jvm.Term.field (Jvm.Term.string "SlateHands$Reader" (173 : Nat)) "java/lang/String" "value" "[B") Jvm.ClassFile.FieldType.byte), (Jvm.Cond.eq (Jvm.Term.length (Jvm.Term.field (Jvm.Term.string "SlateHands$Reader" (173 : Nat)) "java/lang/String" "value" "[B")) (Jvm.Term.int (2 : Int32))), (Jvm.Cond.eq (Jvm.Term.elem (Jvm.Term.field (Jvm.Term.string "SlateHands$Reader" (173 : Nat)) "java/lang/String" "value" "[B") (Jvm.Term.int (0 : Int32))) (Jvm.Term.int (116 : Int32))), (Jvm.Cond.eq (Jvm.Term.elem (Jvm.Term.field (Jvm.Term.string "SlateHands$Reader" (173 : Nat)) "java/lang/String" "value" "[B") (Jvm.Term.int (1 : Int32))) (Jvm.Term.int (111 : Int32))), (Jvm.Cond.not (Jvm.Cond.eq (Jvm.Term.string "SlateHands$Reader" (109 : Nat)) (Jvm.Term.string "SlateHands$Reader" (173 : Nat)))), (Jvm.Cond.not (Jvm.Cond.eq (Jvm.Term.string "SlateHands$Reader" (115 : Nat)) (Jvm.Term.string "SlateHands$Reader" (173 : Nat)))), (Jvm.Cond.not (Jvm.Cond.eq (Jvm.Term.string "SlateHands$Reader" (123 : Nat)) (Jvm.Term.string "SlateHands$Reader" (173 : Nat)))), (Jvm.Cond.not (Jvm.Cond.eq (Jvm.Term.string "SlateHands$Reader" (127 : Nat)) (Jvm.Term.string "SlateHands$Reader" (173 : Nat)))), (Jvm.Cond.not (Jvm.Cond.eq (Jvm.Term.string "SlateHands$Reader" (60 : Nat)) (Jvm.Term.string "SlateHands$Reader" (173 : Nat)))), (Jvm.Cond.not (Jvm.Cond.eq (Jvm.Term.string "SlateHands$Reader" (135 : Nat)) (Jvm.Term.string "SlateHands$Reader" (173 : Nat)))), (Jvm.Cond.not (Jvm.Cond.eq (Jvm.Term.string "SlateHands$Reader" (76 : Nat)) (Jvm.Term.string "SlateHands$Reader" (173 : Nat)))), (Jvm.Cond.not (Jvm.Cond.eq (Jvm.Term.string "SlateHands$Reader" (84 : Nat)) (Jvm.Term.string "SlateHands$Reader" (173 : Nat)))), (Jvm.Cond.not (Jvm.Cond.eq (Jvm.Term.string "SlateHands$Reader" (156 : Nat)) (Jvm.Term.string "SlateHands$Reader" (173 : Nat)))), (Jvm.Cond.not (Jvm.Cond.eq (Jvm.Term.string "SlateHands$Reader" (161 : Nat)) (Jvm.Term.string "SlateHands$Reader" (173 : Nat)))), (Jvm.Cond.not (Jvm.Cond.eq (Jvm.Term.string "SlateHands$Reader" (92 : Nat)) (Jvm.Term.string "SlateHands$Reader" (173 : Nat)))), (Jvm.Cond.not (Jvm.Cond.eq (Jvm.Term.string "SlateHands$Reader" (165 : Nat)) (Jvm.Term.string "SlateHands$Reader" (173 : Nat)))), (Jvm.Cond.not (Jvm.Cond.eq (Jvm.Term.string "SlateHands$Reader" (100 : Nat)) (Jvm.Term.string "SlateHands$Reader" (173 : Nat))))]
theorem nw_eq : nwF = nwL0 ++ (nwL1 ++ (nwL2)) := by decide +kernel
theorem nw0 {w : Cond} (i : Nat) (h : nwL0[i]? = some w) : w ∈ nwF := by
  rw [nw_eq]
  exact List.mem_append_left _ (List.mem_of_getElem? (i := i) h)
theorem nw1 {w : Cond} (i : Nat) (h : nwL1[i]? = some w) : w ∈ nwF := by
  rw [nw_eq]
  exact List.mem_append_right _ (List.mem_append_left _ (List.mem_of_getElem? (i := i) h))
theorem nw2 {w : Cond} (i : Nat) (h : nwL2[i]? = some w) : w ∈ nwF := by
  rw [nw_eq]
  exact List.mem_append_right _ (List.mem_append_right _ (List.mem_of_getElem? (i := i) h))
theorem ndf0 : ∀ j, j < 14 → Cond.exactly (tTm j) "java/lang/String" ∈ nwF
  | 0, _ => nw0 9 rfl
  | 1, _ => nw0 17 rfl
  | 2, _ => nw0 26 rfl
  | 3, _ => nw0 35 rfl
  | 4, _ => nw0 46 rfl
  | 5, _ => nw0 59 rfl
  | 6, _ => nw0 72 rfl
  | 7, _ => nw1 5 rfl
  | 8, _ => nw1 23 rfl
  | 9, _ => nw1 37 rfl
  | 10, _ => nw1 56 rfl
  | 11, _ => nw1 75 rfl
  | 12, _ => nw2 14 rfl
  | 13, _ => nw2 35 rfl
  | j + 14, hj => absurd hj (by omega)
theorem ndf1 : ∀ j, j < 14 → Cond.eq (.field (tTm j) "java/lang/String" "coder" "B") (.int 0) ∈ nwF
  | 0, _ => nw0 10 rfl
  | 1, _ => nw0 18 rfl
  | 2, _ => nw0 27 rfl
  | 3, _ => nw0 36 rfl
  | 4, _ => nw0 47 rfl
  | 5, _ => nw0 60 rfl
  | 6, _ => nw0 73 rfl
  | 7, _ => nw1 6 rfl
  | 8, _ => nw1 24 rfl
  | 9, _ => nw1 38 rfl
  | 10, _ => nw1 57 rfl
  | 11, _ => nw1 76 rfl
  | 12, _ => nw2 15 rfl
  | 13, _ => nw2 36 rfl
  | j + 14, hj => absurd hj (by omega)
theorem ndf2 : ∀ j, j < 14 → Cond.arrayOf (.field (tTm j) "java/lang/String" "value" "[B") .byte ∈ nwF
  | 0, _ => nw0 11 rfl
  | 1, _ => nw0 19 rfl
  | 2, _ => nw0 28 rfl
  | 3, _ => nw0 37 rfl
  | 4, _ => nw0 48 rfl
  | 5, _ => nw0 61 rfl
  | 6, _ => nw0 74 rfl
  | 7, _ => nw1 7 rfl
  | 8, _ => nw1 25 rfl
  | 9, _ => nw1 39 rfl
  | 10, _ => nw1 58 rfl
  | 11, _ => nw1 77 rfl
  | 12, _ => nw2 16 rfl
  | 13, _ => nw2 37 rfl
  | j + 14, hj => absurd hj (by omega)
theorem ndf3 : ∀ j, j < 14 → Cond.eq (.length (.field (tTm j) "java/lang/String" "value" "[B")) (.int (Int32.ofNat (tLen.getD j 0))) ∈ nwF
  | 0, _ => nw0 12 rfl
  | 1, _ => nw0 20 rfl
  | 2, _ => nw0 29 rfl
  | 3, _ => nw0 38 rfl
  | 4, _ => nw0 49 rfl
  | 5, _ => nw0 62 rfl
  | 6, _ => nw0 75 rfl
  | 7, _ => nw1 8 rfl
  | 8, _ => nw1 26 rfl
  | 9, _ => nw1 40 rfl
  | 10, _ => nw1 59 rfl
  | 11, _ => nw1 78 rfl
  | 12, _ => nw2 17 rfl
  | 13, _ => nw2 38 rfl
  | j + 14, hj => absurd hj (by omega)
theorem nde : ∀ j k, j < 14 → k < tLen.getD j 0 → Cond.eq (.elem (.field (tTm j) "java/lang/String" "value" "[B") (.int (Int32.ofNat k))) (.int ((tByt.getD j []).getD k 0)) ∈ nwF
  | 0, 0, _, _ => nw0 13 rfl
  | 0, 1, _, _ => nw0 14 rfl
  | 0, 2, _, _ => nw0 15 rfl
  | 0, 3, _, _ => nw0 16 rfl
  | 0, k + 4, _, hk => absurd hk (by show ¬ k + 4 < 4; omega)
  | 1, 0, _, _ => nw0 21 rfl
  | 1, 1, _, _ => nw0 22 rfl
  | 1, 2, _, _ => nw0 23 rfl
  | 1, 3, _, _ => nw0 24 rfl
  | 1, k + 4, _, hk => absurd hk (by show ¬ k + 4 < 4; omega)
  | 2, 0, _, _ => nw0 30 rfl
  | 2, 1, _, _ => nw0 31 rfl
  | 2, 2, _, _ => nw0 32 rfl
  | 2, k + 3, _, hk => absurd hk (by show ¬ k + 3 < 3; omega)
  | 3, 0, _, _ => nw0 39 rfl
  | 3, 1, _, _ => nw0 40 rfl
  | 3, 2, _, _ => nw0 41 rfl
  | 3, 3, _, _ => nw0 42 rfl
  | 3, k + 4, _, hk => absurd hk (by show ¬ k + 4 < 4; omega)
  | 4, 0, _, _ => nw0 50 rfl
  | 4, 1, _, _ => nw0 51 rfl
  | 4, 2, _, _ => nw0 52 rfl
  | 4, 3, _, _ => nw0 53 rfl
  | 4, 4, _, _ => nw0 54 rfl
  | 4, k + 5, _, hk => absurd hk (by show ¬ k + 5 < 5; omega)
  | 5, 0, _, _ => nw0 63 rfl
  | 5, 1, _, _ => nw0 64 rfl
  | 5, 2, _, _ => nw0 65 rfl
  | 5, 3, _, _ => nw0 66 rfl
  | 5, k + 4, _, hk => absurd hk (by show ¬ k + 4 < 4; omega)
  | 6, 0, _, _ => nw0 76 rfl
  | 6, 1, _, _ => nw0 77 rfl
  | 6, 2, _, _ => nw0 78 rfl
  | 6, k + 3, _, hk => absurd hk (by show ¬ k + 3 < 3; omega)
  | 7, 0, _, _ => nw1 9 rfl
  | 7, 1, _, _ => nw1 10 rfl
  | 7, 2, _, _ => nw1 11 rfl
  | 7, 3, _, _ => nw1 12 rfl
  | 7, 4, _, _ => nw1 13 rfl
  | 7, 5, _, _ => nw1 14 rfl
  | 7, 6, _, _ => nw1 15 rfl
  | 7, k + 7, _, hk => absurd hk (by show ¬ k + 7 < 7; omega)
  | 8, 0, _, _ => nw1 27 rfl
  | 8, 1, _, _ => nw1 28 rfl
  | 8, k + 2, _, hk => absurd hk (by show ¬ k + 2 < 2; omega)
  | 9, 0, _, _ => nw1 41 rfl
  | 9, 1, _, _ => nw1 42 rfl
  | 9, 2, _, _ => nw1 43 rfl
  | 9, 3, _, _ => nw1 44 rfl
  | 9, 4, _, _ => nw1 45 rfl
  | 9, 5, _, _ => nw1 46 rfl
  | 9, k + 6, _, hk => absurd hk (by show ¬ k + 6 < 6; omega)
  | 10, 0, _, _ => nw1 60 rfl
  | 10, 1, _, _ => nw1 61 rfl
  | 10, 2, _, _ => nw1 62 rfl
  | 10, 3, _, _ => nw1 63 rfl
  | 10, 4, _, _ => nw1 64 rfl
  | 10, k + 5, _, hk => absurd hk (by show ¬ k + 5 < 5; omega)
  | 11, 0, _, _ => nw1 79 rfl
  | 11, 1, _, _ => nw2 0 rfl
  | 11, 2, _, _ => nw2 1 rfl
  | 11, 3, _, _ => nw2 2 rfl
  | 11, k + 4, _, hk => absurd hk (by show ¬ k + 4 < 4; omega)
  | 12, 0, _, _ => nw2 18 rfl
  | 12, 1, _, _ => nw2 19 rfl
  | 12, 2, _, _ => nw2 20 rfl
  | 12, 3, _, _ => nw2 21 rfl
  | 12, 4, _, _ => nw2 22 rfl
  | 12, k + 5, _, hk => absurd hk (by show ¬ k + 5 < 5; omega)
  | 13, 0, _, _ => nw2 39 rfl
  | 13, 1, _, _ => nw2 40 rfl
  | 13, k + 2, _, hk => absurd hk (by show ¬ k + 2 < 2; omega)
  | j + 14, _, hj, _ => absurd hj (by omega)
theorem ndn : ∀ i j, i < 14 → j < 14 → i ≠ j → Cond.not (Cond.eq (tTm i) (tTm j)) ∈ nwF ∨ Cond.not (Cond.eq (tTm j) (tTm i)) ∈ nwF
  | 0, 0, _, _, h => absurd rfl h
  | 0, 1, _, _, _ => Or.inl (nw0 25 rfl)
  | 0, 2, _, _, _ => Or.inl (nw0 33 rfl)
  | 0, 3, _, _, _ => Or.inl (nw0 43 rfl)
  | 0, 4, _, _, _ => Or.inl (nw0 55 rfl)
  | 0, 5, _, _, _ => Or.inl (nw0 67 rfl)
  | 0, 6, _, _, _ => Or.inl (nw0 79 rfl)
  | 0, 7, _, _, _ => Or.inl (nw1 16 rfl)
  | 0, 8, _, _, _ => Or.inl (nw1 29 rfl)
  | 0, 9, _, _, _ => Or.inl (nw1 47 rfl)
  | 0, 10, _, _, _ => Or.inl (nw1 65 rfl)
  | 0, 11, _, _, _ => Or.inl (nw2 3 rfl)
  | 0, 12, _, _, _ => Or.inl (nw2 23 rfl)
  | 0, 13, _, _, _ => Or.inl (nw2 41 rfl)
  | 0, j + 14, _, hj, _ => absurd hj (by omega)
  | 1, 0, _, _, _ => Or.inr (nw0 25 rfl)
  | 1, 1, _, _, h => absurd rfl h
  | 1, 2, _, _, _ => Or.inl (nw0 34 rfl)
  | 1, 3, _, _, _ => Or.inl (nw0 44 rfl)
  | 1, 4, _, _, _ => Or.inl (nw0 56 rfl)
  | 1, 5, _, _, _ => Or.inl (nw0 68 rfl)
  | 1, 6, _, _, _ => Or.inl (nw1 0 rfl)
  | 1, 7, _, _, _ => Or.inl (nw1 17 rfl)
  | 1, 8, _, _, _ => Or.inl (nw1 30 rfl)
  | 1, 9, _, _, _ => Or.inl (nw1 48 rfl)
  | 1, 10, _, _, _ => Or.inl (nw1 66 rfl)
  | 1, 11, _, _, _ => Or.inl (nw2 4 rfl)
  | 1, 12, _, _, _ => Or.inl (nw2 24 rfl)
  | 1, 13, _, _, _ => Or.inl (nw2 42 rfl)
  | 1, j + 14, _, hj, _ => absurd hj (by omega)
  | 2, 0, _, _, _ => Or.inr (nw0 33 rfl)
  | 2, 1, _, _, _ => Or.inr (nw0 34 rfl)
  | 2, 2, _, _, h => absurd rfl h
  | 2, 3, _, _, _ => Or.inl (nw0 45 rfl)
  | 2, 4, _, _, _ => Or.inl (nw0 57 rfl)
  | 2, 5, _, _, _ => Or.inl (nw0 69 rfl)
  | 2, 6, _, _, _ => Or.inl (nw1 1 rfl)
  | 2, 7, _, _, _ => Or.inl (nw1 18 rfl)
  | 2, 8, _, _, _ => Or.inl (nw1 31 rfl)
  | 2, 9, _, _, _ => Or.inl (nw1 49 rfl)
  | 2, 10, _, _, _ => Or.inl (nw1 67 rfl)
  | 2, 11, _, _, _ => Or.inl (nw2 5 rfl)
  | 2, 12, _, _, _ => Or.inl (nw2 25 rfl)
  | 2, 13, _, _, _ => Or.inl (nw2 43 rfl)
  | 2, j + 14, _, hj, _ => absurd hj (by omega)
  | 3, 0, _, _, _ => Or.inr (nw0 43 rfl)
  | 3, 1, _, _, _ => Or.inr (nw0 44 rfl)
  | 3, 2, _, _, _ => Or.inr (nw0 45 rfl)
  | 3, 3, _, _, h => absurd rfl h
  | 3, 4, _, _, _ => Or.inl (nw0 58 rfl)
  | 3, 5, _, _, _ => Or.inl (nw0 70 rfl)
  | 3, 6, _, _, _ => Or.inl (nw1 2 rfl)
  | 3, 7, _, _, _ => Or.inl (nw1 19 rfl)
  | 3, 8, _, _, _ => Or.inl (nw1 32 rfl)
  | 3, 9, _, _, _ => Or.inl (nw1 50 rfl)
  | 3, 10, _, _, _ => Or.inl (nw1 68 rfl)
  | 3, 11, _, _, _ => Or.inl (nw2 6 rfl)
  | 3, 12, _, _, _ => Or.inl (nw2 26 rfl)
  | 3, 13, _, _, _ => Or.inl (nw2 44 rfl)
  | 3, j + 14, _, hj, _ => absurd hj (by omega)
  | 4, 0, _, _, _ => Or.inr (nw0 55 rfl)
  | 4, 1, _, _, _ => Or.inr (nw0 56 rfl)
  | 4, 2, _, _, _ => Or.inr (nw0 57 rfl)
  | 4, 3, _, _, _ => Or.inr (nw0 58 rfl)
  | 4, 4, _, _, h => absurd rfl h
  | 4, 5, _, _, _ => Or.inl (nw0 71 rfl)
  | 4, 6, _, _, _ => Or.inl (nw1 3 rfl)
  | 4, 7, _, _, _ => Or.inl (nw1 20 rfl)
  | 4, 8, _, _, _ => Or.inl (nw1 33 rfl)
  | 4, 9, _, _, _ => Or.inl (nw1 51 rfl)
  | 4, 10, _, _, _ => Or.inl (nw1 69 rfl)
  | 4, 11, _, _, _ => Or.inl (nw2 7 rfl)
  | 4, 12, _, _, _ => Or.inl (nw2 27 rfl)
  | 4, 13, _, _, _ => Or.inl (nw2 45 rfl)
  | 4, j + 14, _, hj, _ => absurd hj (by omega)
  | 5, 0, _, _, _ => Or.inr (nw0 67 rfl)
  | 5, 1, _, _, _ => Or.inr (nw0 68 rfl)
  | 5, 2, _, _, _ => Or.inr (nw0 69 rfl)
  | 5, 3, _, _, _ => Or.inr (nw0 70 rfl)
  | 5, 4, _, _, _ => Or.inr (nw0 71 rfl)
  | 5, 5, _, _, h => absurd rfl h
  | 5, 6, _, _, _ => Or.inl (nw1 4 rfl)
  | 5, 7, _, _, _ => Or.inl (nw1 21 rfl)
  | 5, 8, _, _, _ => Or.inl (nw1 34 rfl)
  | 5, 9, _, _, _ => Or.inl (nw1 52 rfl)
  | 5, 10, _, _, _ => Or.inl (nw1 70 rfl)
  | 5, 11, _, _, _ => Or.inl (nw2 8 rfl)
  | 5, 12, _, _, _ => Or.inl (nw2 28 rfl)
  | 5, 13, _, _, _ => Or.inl (nw2 46 rfl)
  | 5, j + 14, _, hj, _ => absurd hj (by omega)
  | 6, 0, _, _, _ => Or.inr (nw0 79 rfl)
  | 6, 1, _, _, _ => Or.inr (nw1 0 rfl)
  | 6, 2, _, _, _ => Or.inr (nw1 1 rfl)
  | 6, 3, _, _, _ => Or.inr (nw1 2 rfl)
  | 6, 4, _, _, _ => Or.inr (nw1 3 rfl)
  | 6, 5, _, _, _ => Or.inr (nw1 4 rfl)
  | 6, 6, _, _, h => absurd rfl h
  | 6, 7, _, _, _ => Or.inl (nw1 22 rfl)
  | 6, 8, _, _, _ => Or.inl (nw1 35 rfl)
  | 6, 9, _, _, _ => Or.inl (nw1 53 rfl)
  | 6, 10, _, _, _ => Or.inl (nw1 71 rfl)
  | 6, 11, _, _, _ => Or.inl (nw2 9 rfl)
  | 6, 12, _, _, _ => Or.inl (nw2 29 rfl)
  | 6, 13, _, _, _ => Or.inl (nw2 47 rfl)
  | 6, j + 14, _, hj, _ => absurd hj (by omega)
  | 7, 0, _, _, _ => Or.inr (nw1 16 rfl)
  | 7, 1, _, _, _ => Or.inr (nw1 17 rfl)
  | 7, 2, _, _, _ => Or.inr (nw1 18 rfl)
  | 7, 3, _, _, _ => Or.inr (nw1 19 rfl)
  | 7, 4, _, _, _ => Or.inr (nw1 20 rfl)
  | 7, 5, _, _, _ => Or.inr (nw1 21 rfl)
  | 7, 6, _, _, _ => Or.inr (nw1 22 rfl)
  | 7, 7, _, _, h => absurd rfl h
  | 7, 8, _, _, _ => Or.inl (nw1 36 rfl)
  | 7, 9, _, _, _ => Or.inl (nw1 54 rfl)
  | 7, 10, _, _, _ => Or.inl (nw1 72 rfl)
  | 7, 11, _, _, _ => Or.inl (nw2 10 rfl)
  | 7, 12, _, _, _ => Or.inl (nw2 30 rfl)
  | 7, 13, _, _, _ => Or.inl (nw2 48 rfl)
  | 7, j + 14, _, hj, _ => absurd hj (by omega)
  | 8, 0, _, _, _ => Or.inr (nw1 29 rfl)
  | 8, 1, _, _, _ => Or.inr (nw1 30 rfl)
  | 8, 2, _, _, _ => Or.inr (nw1 31 rfl)
  | 8, 3, _, _, _ => Or.inr (nw1 32 rfl)
  | 8, 4, _, _, _ => Or.inr (nw1 33 rfl)
  | 8, 5, _, _, _ => Or.inr (nw1 34 rfl)
  | 8, 6, _, _, _ => Or.inr (nw1 35 rfl)
  | 8, 7, _, _, _ => Or.inr (nw1 36 rfl)
  | 8, 8, _, _, h => absurd rfl h
  | 8, 9, _, _, _ => Or.inl (nw1 55 rfl)
  | 8, 10, _, _, _ => Or.inl (nw1 73 rfl)
  | 8, 11, _, _, _ => Or.inl (nw2 11 rfl)
  | 8, 12, _, _, _ => Or.inl (nw2 31 rfl)
  | 8, 13, _, _, _ => Or.inl (nw2 49 rfl)
  | 8, j + 14, _, hj, _ => absurd hj (by omega)
  | 9, 0, _, _, _ => Or.inr (nw1 47 rfl)
  | 9, 1, _, _, _ => Or.inr (nw1 48 rfl)
  | 9, 2, _, _, _ => Or.inr (nw1 49 rfl)
  | 9, 3, _, _, _ => Or.inr (nw1 50 rfl)
  | 9, 4, _, _, _ => Or.inr (nw1 51 rfl)
  | 9, 5, _, _, _ => Or.inr (nw1 52 rfl)
  | 9, 6, _, _, _ => Or.inr (nw1 53 rfl)
  | 9, 7, _, _, _ => Or.inr (nw1 54 rfl)
  | 9, 8, _, _, _ => Or.inr (nw1 55 rfl)
  | 9, 9, _, _, h => absurd rfl h
  | 9, 10, _, _, _ => Or.inl (nw1 74 rfl)
  | 9, 11, _, _, _ => Or.inl (nw2 12 rfl)
  | 9, 12, _, _, _ => Or.inl (nw2 32 rfl)
  | 9, 13, _, _, _ => Or.inl (nw2 50 rfl)
  | 9, j + 14, _, hj, _ => absurd hj (by omega)
  | 10, 0, _, _, _ => Or.inr (nw1 65 rfl)
  | 10, 1, _, _, _ => Or.inr (nw1 66 rfl)
  | 10, 2, _, _, _ => Or.inr (nw1 67 rfl)
  | 10, 3, _, _, _ => Or.inr (nw1 68 rfl)
  | 10, 4, _, _, _ => Or.inr (nw1 69 rfl)
  | 10, 5, _, _, _ => Or.inr (nw1 70 rfl)
  | 10, 6, _, _, _ => Or.inr (nw1 71 rfl)
  | 10, 7, _, _, _ => Or.inr (nw1 72 rfl)
  | 10, 8, _, _, _ => Or.inr (nw1 73 rfl)
  | 10, 9, _, _, _ => Or.inr (nw1 74 rfl)
  | 10, 10, _, _, h => absurd rfl h
  | 10, 11, _, _, _ => Or.inl (nw2 13 rfl)
  | 10, 12, _, _, _ => Or.inl (nw2 33 rfl)
  | 10, 13, _, _, _ => Or.inl (nw2 51 rfl)
  | 10, j + 14, _, hj, _ => absurd hj (by omega)
  | 11, 0, _, _, _ => Or.inr (nw2 3 rfl)
  | 11, 1, _, _, _ => Or.inr (nw2 4 rfl)
  | 11, 2, _, _, _ => Or.inr (nw2 5 rfl)
  | 11, 3, _, _, _ => Or.inr (nw2 6 rfl)
  | 11, 4, _, _, _ => Or.inr (nw2 7 rfl)
  | 11, 5, _, _, _ => Or.inr (nw2 8 rfl)
  | 11, 6, _, _, _ => Or.inr (nw2 9 rfl)
  | 11, 7, _, _, _ => Or.inr (nw2 10 rfl)
  | 11, 8, _, _, _ => Or.inr (nw2 11 rfl)
  | 11, 9, _, _, _ => Or.inr (nw2 12 rfl)
  | 11, 10, _, _, _ => Or.inr (nw2 13 rfl)
  | 11, 11, _, _, h => absurd rfl h
  | 11, 12, _, _, _ => Or.inl (nw2 34 rfl)
  | 11, 13, _, _, _ => Or.inl (nw2 52 rfl)
  | 11, j + 14, _, hj, _ => absurd hj (by omega)
  | 12, 0, _, _, _ => Or.inr (nw2 23 rfl)
  | 12, 1, _, _, _ => Or.inr (nw2 24 rfl)
  | 12, 2, _, _, _ => Or.inr (nw2 25 rfl)
  | 12, 3, _, _, _ => Or.inr (nw2 26 rfl)
  | 12, 4, _, _, _ => Or.inr (nw2 27 rfl)
  | 12, 5, _, _, _ => Or.inr (nw2 28 rfl)
  | 12, 6, _, _, _ => Or.inr (nw2 29 rfl)
  | 12, 7, _, _, _ => Or.inr (nw2 30 rfl)
  | 12, 8, _, _, _ => Or.inr (nw2 31 rfl)
  | 12, 9, _, _, _ => Or.inr (nw2 32 rfl)
  | 12, 10, _, _, _ => Or.inr (nw2 33 rfl)
  | 12, 11, _, _, _ => Or.inr (nw2 34 rfl)
  | 12, 12, _, _, h => absurd rfl h
  | 12, 13, _, _, _ => Or.inl (nw2 53 rfl)
  | 12, j + 14, _, hj, _ => absurd hj (by omega)
  | 13, 0, _, _, _ => Or.inr (nw2 41 rfl)
  | 13, 1, _, _, _ => Or.inr (nw2 42 rfl)
  | 13, 2, _, _, _ => Or.inr (nw2 43 rfl)
  | 13, 3, _, _, _ => Or.inr (nw2 44 rfl)
  | 13, 4, _, _, _ => Or.inr (nw2 45 rfl)
  | 13, 5, _, _, _ => Or.inr (nw2 46 rfl)
  | 13, 6, _, _, _ => Or.inr (nw2 47 rfl)
  | 13, 7, _, _, _ => Or.inr (nw2 48 rfl)
  | 13, 8, _, _, _ => Or.inr (nw2 49 rfl)
  | 13, 9, _, _, _ => Or.inr (nw2 50 rfl)
  | 13, 10, _, _, _ => Or.inr (nw2 51 rfl)
  | 13, 11, _, _, _ => Or.inr (nw2 52 rfl)
  | 13, 12, _, _, _ => Or.inr (nw2 53 rfl)
  | 13, 13, _, _, h => absurd rfl h
  | 13, j + 14, _, hj, _ => absurd hj (by omega)
  | i + 14, _, hi, _, _ => absurd hi (by omega)
theorem str_in : ∀ j, j < 14 → Cond.stringRef RX6 (tIdx j) (tTx j) ∈ lw_tbl
  | 0, _ => tr5 131 rfl
  | 1, _ => tr5 192 rfl
  | 2, _ => tr5 201 rfl
  | 3, _ => tr5 202 rfl
  | 4, _ => tr5 203 rfl
  | 5, _ => tr5 212 rfl
  | 6, _ => tr5 214 rfl
  | 7, _ => tr5 219 rfl
  | 8, _ => tr5 224 rfl
  | 9, _ => tr5 225 rfl
  | 10, _ => tr5 226 rfl
  | 11, _ => tr5 231 rfl
  | 12, _ => tr5 232 rfl
  | 13, _ => tr5 237 rfl
  | j + 14, hj => absurd hj (by omega)
theorem arr_ex {s : State} {args : Array Value} {t : FieldType} (h : (Cond.arrayClass t).before args s = true) (ht : ∀ C, t ≠ .object C) : ∃ cA, ArrOfT s cA t ∧ va_RA s cA t := by
  obtain ⟨c, k, comp, h1, h2, h3⟩ := Cond.arrayClass_spec h
  refine ⟨c, fun n z => ⟨fun k h => (by cases h), k, h2, comp, h3⟩, ?_⟩
  cases t with
  | object C => exact absurd rfl (ht C)
  | _ => exact h1
theorem arr_exQ {s : State} {args : Array Value} {C : String} (h : (Cond.arrayOver (.object C)).before args s = true) : ∃ cA, ArrOfT s cA (.object C) ∧ va_RA s cA (.object C) := by
  obtain ⟨comp, c, k, h1, h2, h3, h4, h5⟩ := Cond.arrayOver_spec h
  exact ⟨c, fun n z => ⟨fun k h => (by cases h), k, h3, comp, h4⟩, k, comp, h3, h4, h1, h5⟩
theorem choose12 {P : Nat → ClassId × (Nat → Nat) → Prop} (h : ∀ k, k < 12 → ∃ x, P k x) : ∃ f : Nat → ClassId × (Nat → Nat), ∀ k, k < 12 → P k (f k) := by
  have h1 : ∀ k, ∃ x, k < 12 → P k x := fun k => by
    by_cases hk : k < 12
    · obtain ⟨x, hx⟩ := h k hk
      exact ⟨x, fun _ => hx⟩
    · exact ⟨(0, fun _ => 0), fun z => absurd z hk⟩
  obtain ⟨f, hf⟩ := Classical.axiomOfChoice h1
  exact ⟨f, hf⟩
theorem tl_eq : ∀ j, j < 14 → tLen.getD j 0 = (txt j).length ∧ tByt.getD j [] = txt j ∧ tLen.getD j 0 < 2 ^ 31
  | 0, _ => ⟨rfl, rfl, by decide⟩
  | 1, _ => ⟨rfl, rfl, by decide⟩
  | 2, _ => ⟨rfl, rfl, by decide⟩
  | 3, _ => ⟨rfl, rfl, by decide⟩
  | 4, _ => ⟨rfl, rfl, by decide⟩
  | 5, _ => ⟨rfl, rfl, by decide⟩
  | 6, _ => ⟨rfl, rfl, by decide⟩
  | 7, _ => ⟨rfl, rfl, by decide⟩
  | 8, _ => ⟨rfl, rfl, by decide⟩
  | 9, _ => ⟨rfl, rfl, by decide⟩
  | 10, _ => ⟨rfl, rfl, by decide⟩
  | 11, _ => ⟨rfl, rfl, by decide⟩
  | 12, _ => ⟨rfl, rfl, by decide⟩
  | 13, _ => ⟨rfl, rfl, by decide⟩
  | j + 14, hj => absurd hj (by omega)
theorem mk_k (dC : Nat → ClassId) (dI : Nat → Nat → Nat) (fA : Nat → ClassId) (kp : Nat → Nat) (z : Nat) (xs : Nat → Int32) (L : Nat) : ∃ κ : KX, kD κ = (dC, dI) ∧ kA κ = fA ∧ kpre κ = kp ∧ ksz κ = z ∧ kxs κ = xs ∧ kL κ = L := ⟨(dC, dI, fA, kp, z, xs, L), rfl, rfl, rfl, rfl, rfl, rfl⟩
theorem mk_kp (b : Nat) (adK adV : Nat → Nat) : ∃ kp : Nat → Nat, kp 1 = b ∧ (∀ j, j < 14 → kp (3 + j) = adK j) ∧ ∀ j, j < 14 → kp (17 + j) = adV j := by
  refine ⟨fun i => if i = 1 then b else if i = 2 then 0 else if i < 17 then adK (i - 3) else adV (i - 17), rfl, fun j hj => ?_, fun j hj => ?_⟩
  · dsimp only
    rw [if_neg (by omega), if_neg (by omega), if_pos (by omega), show 3 + j - 3 = j by omega]
  · dsimp only
    rw [if_neg (by omega), if_neg (by omega), if_neg (by omega), show 17 + j - 17 = j by omega]
theorem mk_fA (a0 a1 a2 a3 a4 : ClassId) : ∃ fA : Nat → ClassId, fA 0 = a0 ∧ fA 1 = a1 ∧ fA 2 = a2 ∧ fA 3 = a3 ∧ fA 4 = a4 := ⟨fun t => if t = 0 then a0 else if t = 1 then a1 else if t = 2 then a2 else if t = 3 then a3 else a4, rfl, rfl, rfl, rfl, rfl⟩
theorem kinds_k {s : State} {args : Array Value} (hTB : ∀ w ∈ TB, w.before args s = true) : ∃ dd : Nat → ClassId × (Nat → Nat), ∀ k, k < 12 → ∀ q, classes[k]? = some q → u_Kn s q.1 q.2.1 q.2.2 (dd k).1 (dd k).2 := by
  refine choose12 (P := fun k x => ∀ q, classes[k]? = some q → u_Kn s q.1 q.2.1 q.2.2 x.1 x.2) ?_
  intro k hk
  have key : ∀ (C : String) (T : u_T) (N : Nat), (∀ w ∈ u_ws C T N, w ∈ TB) → Cond.instantiable C N ∈ TB → ∃ x : ClassId × (Nat → Nat), u_Kn s C T N x.1 x.2 := fun C T N h1 h2 => by
    obtain ⟨cC, iS, h3⟩ := u_known (C := C) (T := T) (N := N) (n := N) hTB h1 (hTB _ h2)
    exact ⟨(cC, iS), h3⟩
  have one : ∀ (C : String) (T : u_T) (N : Nat), classes[k]? = some (C, T, N) → (∀ w ∈ u_ws C T N, w ∈ TB) → Cond.instantiable C N ∈ TB → ∃ x : ClassId × (Nat → Nat), ∀ q, classes[k]? = some q → u_Kn s q.1 q.2.1 q.2.2 x.1 x.2 := fun C T N h0 h1 h2 => by
    obtain ⟨x, hx⟩ := key C T N h1 h2
    refine ⟨x, fun q hq => ?_⟩
    rw [h0] at hq
    cases hq
    exact hx
  match k, hk, one with
  | 0, hk, one => exact one RX0 TX0 17 rfl cw_0 w2_104
  | 1, hk, one => exact one RX1 TX1 9 rfl cw_1 w1_79
  | 2, hk, one => exact one RX2 TX2 15 rfl cw_2 w2_6
  | 3, hk, one => exact one RX3 TX3 7 rfl cw_3 w2_0
  | 4, hk, one => exact one RX4 TX4 1 rfl cw_4 w2_94
  | 5, hk, one => exact one RX5 TX5 17 rfl cw_5 w1_73
  | 6, hk, one => exact one RX6 TX6 2 rfl cw_6 w1_60
  | 7, hk, one => exact one RX7 TX7 2 rfl cw_7 w2_183
  | 8, hk, one => exact one RX8 TX8 3 rfl cw_8 w1_223
  | 9, hk, one => exact one RX9 TX9 6 rfl cw_9 w1_30
  | 10, hk, one => exact one RX10 TX10 4 rfl cw_10 w2_165
  | 11, hk, one => exact one RX11 TX11 14 rfl cw_11 w1_22
  | k + 12, hk, _ => exact absurd hk (by omega)
theorem prek_of {s : State} {args : Array Value} {κ : KX} {b L : Nat} {xs : Nat → Int32} {adK adV : Nat → Nat} (k3a : kpre κ 1 = b) (k3c : ∀ j, j < 14 → kpre κ (3 + j) = adK j) (k3d : ∀ j, j < 14 → kpre κ (17 + j) = adV j) (k4 : ksz κ = s.heap.size) (k5 : kxs κ = xs) (k6 : kL κ = L) (hX : va_X b L xs s s.heap) (hbl : b < s.heap.size)
    (hE : vk_S 14 tLen tByt adK adV (AQ κ) s s.heap) (hR : ∀ j, j < 14 → vk_R RX6 (tIdx j) (tTx j) (adK j) s)
    (hCS : va_Z "java/lang/String" "COMPACT_STRINGS" "Z" (.int 1) (AQ κ) s s.heap) (hSI : va_Zq "jdk/internal/util/Preconditions" "SIOOBE_FORMATTER" "Ljava/util/function/BiFunction;" (AQ κ) s s.heap) (hAO : va_AO "SlateHands$Port" s) : PREK κ s := by
  refine ⟨fun i hi1 hk1 => ?_, fun i hi1 hk1 => ?_, trivial, fun j hj => by rw [k3c j hj]; exact hR j hj, ?_, hCS, hSI, hAO⟩
  · have hi2 : i = 1 := by
      refine Classical.byContradiction fun h1 => ?_
      unfold pK at hk1
      rw [if_neg h1] at hk1
      split at hk1
      · cases hk1
      split at hk1
      · cases hk1
      split at hk1 <;> cases hk1
    subst hi2
    · obtain ⟨scr, g1, g2, g3, g4, g5⟩ := hX
      have e1 : (pK κ 1).2 = L := k6
      have e2 : (fun k => Value.int (pI κ 1 k)) = fun k => .int (xs k) := by rw [← k5]; rfl
      rw [e1, e2, k3a]
      exact ⟨scr, g1, g2, g3, Nat.le_of_eq g4.symm, by rw [g4], g5, fun z => absurd hbl (Nat.not_lt.mpr (by rw [← k4]; exact z))⟩
  · have hi2 : 17 ≤ i := by
      unfold pK at hk1
      split at hk1
      · cases hk1
      split at hk1
      · cases hk1
      split at hk1
      · cases hk1
      split at hk1
      · cases hk1
      · omega
    have hi3 : i < 31 := hi1
    obtain ⟨j, rfl⟩ : ∃ j, i = 17 + j := ⟨i - 17, by omega⟩
    have hj : j < 14 := by omega
    have hTT := (hE.1 j hj).2.2.2
    obtain ⟨e3, e4, -⟩ := tl_eq j hj
    have e6 : (pK κ (17 + j)).2 = tLen.getD j 0 := by
      unfold pK
      rw [if_neg (by omega), if_neg (by omega), if_neg (by omega), if_neg (by omega), show 17 + j - 17 = j by omega, e3]
    have e7 : (fun k => Value.int (pI κ (17 + j) k)) = fun k => .int ((tByt.getD j []).getD k 0) := by
      funext k
      unfold pI
      rw [if_neg (by omega), if_neg (by omega), if_neg (by omega), show 17 + j - 17 = j by omega, e4]
    rw [e6, e7, k3d j hj]
    exact hTT
  · refine ⟨fun i hi => ?_, fun i j hi hj hij => ?_⟩
    · dsimp only
      rw [k3c i hi, k3d i hi]
      exact hE.1 i hi
    · dsimp only at hij
      rw [k3c i hi, k3c j hj] at hij
      exact hE.2 i j hi hj hij
theorem start_of {p : Program} {e : Env} {s : State} {m : MethodId} {below : List Frame} {meth : Method} {c : Code} (l : Launch) {b L : Nat} {xs : Nat → Int32} (hL : L ≤ 260) (C0 : lw_At p s m meth c b L xs) {f' : Fr} {h' : St} (hB : Blaw (sR fr0 0 1) (St0 L xs) = some (.inr 1, f', h')) (hn1 : hn h' ≤ 31 + room_1.cells) (hs1 : hs h' ≤ room_1.slots) : W p l e room_1 s m #[Value.ref b] below meth c s.heap [] 0 0 (lw_Z below #[Value.ref b] s) (entryFrame m ([Value.ref b] : List Value).toArray 28) := by
  obtain ⟨hx, hb, hr, hml, hown, hts, hX, hbl, hlocks, hgv⟩ := C0
  have hTB : ∀ w ∈ TB, w.before #[Value.ref b] s = true := fun w hw => hts w (tb_sub hw)
  have hfl : ∀ w ∈ nwF, w.before #[Value.ref b] s = true := flat_of_before _ hgv
  have hAQ : ∀ a : Nat, a < s.heap.size → ¬ (fun q : Nat => s.heap.size ≤ q) a := fun a h z => absurd h (Nat.not_lt.mpr z)
  obtain ⟨dd, hdd⟩ := kinds_k hTB
  obtain ⟨a0, ha0⟩ := arr_ex (hTB _ w1_123) (fun C h => by cases h)
  obtain ⟨a1, ha1⟩ := arr_ex (hTB _ w1_58) (fun C h => by cases h)
  obtain ⟨a3, ha3⟩ := arr_ex (hTB _ w1_238) (fun C h => by cases h)
  have hover : (Cond.arrayOver (.object "SlateHands$Port")).before #[Value.ref b] s = true := hts _ (tr1 221 rfl)
  obtain ⟨a4, ha4⟩ := arr_exQ hover
  obtain ⟨adK, adV, hE, hT⟩ := vk_Sof (args := #[Value.ref b]) (s := s) (N := 14) (tm := tTm) (len := tLen) (byt := tByt) (A := fun q : Nat => s.heap.size ≤ q) (fun i hi => (tl_eq i hi).2.2)
    (fun i hi => hfl _ (ndf0 i hi)) (fun i hi => hfl _ (ndf1 i hi)) (fun i hi => hfl _ (ndf2 i hi)) (fun i hi => hfl _ (ndf3 i hi)) (fun i hi j hj => hfl _ (nde i j hi hj))
    (fun i j hi hj hij => (ndn i j hi hj hij).elim (fun h => Or.inl (hfl _ h)) (fun h => Or.inr (hfl _ h))) hAQ
  have hCS : va_Z "java/lang/String" "COMPACT_STRINGS" "Z" (.int 1) (fun q : Nat => s.heap.size ≤ q) s s.heap := va_Zof (hts _ (tr5 149 rfl)) (hTB _ w1_14) (va_eqt (hfl _ (nw0 4 rfl))) hAQ
  have hSI : va_Zq "jdk/internal/util/Preconditions" "SIOOBE_FORMATTER" "Ljava/util/function/BiFunction;" (fun q : Nat => s.heap.size ≤ q) s s.heap := va_Zqof (hts _ (tr5 165 rfl)) (hTB _ w1_16) (hfl _ (nw0 5 rfl)) hAQ
  obtain ⟨kp, p1, p3, p4⟩ := mk_kp b adK adV
  obtain ⟨fA, f0, f1, f2, f3, f4⟩ := mk_fA a0 a1 a0 a3 a4
  obtain ⟨κ, k1, k2, k3, k4, k5, k6⟩ := mk_k (fun k => (dd k).1) (fun k => (dd k).2) fA kp s.heap.size xs L
  have hAe : AQ κ = fun q : Nat => s.heap.size ≤ q := by
    funext q
    unfold AQ
    rw [k4]
  have hK : va_K (kD κ) classes (kT κ) s := by
    refine ⟨fun k q hq => ?_, fun k q hq => ?_⟩
    · have hk : k < 12 := (List.getElem?_eq_some_iff.mp hq).1
      rw [k1]
      exact hdd k hk q hq
    · unfold kT at hq
      rw [k2, f0, f1, f2, f3, f4] at hq
      match k, hq with
      | 0, hq => cases hq; exact ha0
      | 1, hq => cases hq; exact ha1
      | 2, hq => cases hq; exact ha0
      | 3, hq => cases hq; exact ha3
      | 4, hq => cases hq; exact ha4
      | k + 5, hq => simp at hq
  have hRep : Rep κ (St0 L xs) s.heap := by
    refine ⟨Nat.le_refl _, by rw [k4]; rfl, fun i h1 h2 => absurd h2 (Nat.not_lt.mpr h1), fun i hi1 => ⟨?_, fun k => ?_⟩, fun i hi1 => ?_⟩
    · have hi2 : i < 31 := hi1
      have e1 : hk (St0 L xs) i = pK0 L i := if_pos hi2
      rw [e1, ← k6]
      rfl
    · have hi2 : i < 31 := hi1
      have e1 : hi (St0 L xs) i k = pI0 xs i k := if_pos hi2
      rw [e1, ← k5]
      rfl
    · have hi2 : ¬ i < 31 := Nat.not_lt.mpr hi1
      have e1 : hk (St0 L xs) i = (99, 0) := if_neg hi2
      rw [e1]
  have hPK : PREK κ s := by
    rw [← hAe] at hE hCS hSI
    exact prek_of (args := #[Value.ref b]) (by rw [k3, p1]) (fun j hj => by rw [k3, p3 j hj]) (fun j hj => by rw [k3, p4 j hj]) k4 k5 k6 hX hbl hE (fun j hj => vk_R.of (A := #[Value.ref b]) (hts _ (str_in j hj)) (hT j hj)) hCS hSI (va_AO.of hover)
  have C : CXT milaw κ p room_1 s m #[Value.ref b] meth c := ⟨hx, hb, hml, hown, hTB, hK, fun w hw => by
      obtain ⟨a, i, x, hh, rfl⟩ := nb_nest w hw
      exact va_Nw.of rfl (hts _ (nb_in _ hw)), hPK, by decide, by decide, fun z => by cases z⟩
  have hl := lv_entry ([.ref b]) (n := 28) (Nat.le_of_ble_eq_true rfl)
  rw [lg_entry_eq]
  generalize (lg_sl ([.ref b]) ++ List.replicate (28 - (lg_sl ([.ref b])).length) Slot.unset).toArray = ls at hl ⊢
  have hk := sBlaw.2 κ p l e room_1 s m #[Value.ref b] below meth c 31 0 (lw_Z below #[Value.ref b] s) C (sR fr0 0 1) (St0 L xs) (.inr 1) f' h' hB ⟨by show hn h' - 31 ≤ room_1.cells; omega, by show hs h' - 0 ≤ room_1.slots; omega⟩ (fun z => by cases z) (fun z => by cases z) (fun z => by cases z) (fun v z => by
    cases z
    intro pc f hd ls1 H1 locs1 g1 g2 g3 g4 g5
    refine va_forget (fun q hq => ?_) (W.widen (k := room_1.cells) (n := room_1.slots) (by omega) (by omega) ?_)
    · have h9 := g3.2.2 q hq
      rw [hAe] at h9
      exact h9
    · exact lw_ret hx hb hr hlocks hd)
  have hrv : rv κ 1 = .ref b := by
    have h9 : rv κ 1 = .ref (kpre κ 1) := rfl
    rw [h9, k3, p1]
  have hl2 : lv_has ls 28 (([(0, 2)] : Gm).map (lvv κ (sR fr0 0 1))) := by
    show lv_has ls 28 [(0, rv κ 1)]
    rw [hrv]
    exact hl
  exact hk ls s.heap [] hl2 hRep va_S.rf (Nat.le_refl _) (Nat.le_refl _)
