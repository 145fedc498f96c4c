/-! what the walks need beside: words across the nest, what new objects hold -/
theorem nb0 : (Jvm.Cond.methodLinkNest "SlateHands" (11 : Nat) ({ cls := "SlateHands$Tape", name := "<init>", desc := "()V" } : Jvm.MethodName) "SlateHands") ∈ NB := List.mem_of_getElem? (i := 0) rfl
theorem nb1 : (Jvm.Cond.methodLinkNest "SlateHands" (18 : Nat) ({ cls := "SlateHands$Reader", name := "<init>", desc := "()V" } : Jvm.MethodName) "SlateHands") ∈ NB := List.mem_of_getElem? (i := 1) rfl
theorem nb2 : (Jvm.Cond.methodLinkNest "SlateHands" (25 : Nat) ({ cls := "SlateHands$Port", name := "<init>", desc := "()V" } : Jvm.MethodName) "SlateHands") ∈ NB := List.mem_of_getElem? (i := 2) rfl
theorem nb3 : (Jvm.Cond.methodLinkNest "SlateHands$Port" (38 : Nat) ({ cls := "SlateHands$Carries", name := "<init>", desc := "()V" } : Jvm.MethodName) "SlateHands") ∈ NB := List.mem_of_getElem? (i := 3) rfl
theorem nb4 : (Jvm.Cond.methodLinkNest "SlateHands" (39 : Nat) ({ cls := "SlateHands$Slots", name := "<init>", desc := "()V" } : Jvm.MethodName) "SlateHands") ∈ NB := List.mem_of_getElem? (i := 4) rfl
theorem nb5 : (Jvm.Cond.methodLinkNest "SlateHands" (46 : Nat) ({ cls := "SlateHands$Diary", name := "<init>", desc := "()V" } : Jvm.MethodName) "SlateHands") ∈ NB := List.mem_of_getElem? (i := 5) rfl
theorem nb6 : (Jvm.Cond.methodLinkNest "SlateHands$Diary" (11 : Nat) ({ cls := "SlateHands$Course", name := "<init>", desc := "()V" } : Jvm.MethodName) "SlateHands") ∈ NB := List.mem_of_getElem? (i := 6) rfl
theorem nb7 : (Jvm.Cond.methodLinkNest "SlateHands" (56 : Nat) ({ cls := "SlateHands$Paths", name := "<init>", desc := "()V" } : Jvm.MethodName) "SlateHands") ∈ NB := List.mem_of_getElem? (i := 7) rfl
theorem nb8 : (Jvm.Cond.methodLinkNest "SlateHands" (63 : Nat) ({ cls := "SlateHands$Alone", name := "<init>", desc := "()V" } : Jvm.MethodName) "SlateHands") ∈ NB := List.mem_of_getElem? (i := 8) rfl
theorem nb9 : (Jvm.Cond.methodLinkNest "SlateHands" (70 : Nat) ({ cls := "SlateHands$Weather", name := "<init>", desc := "()V" } : Jvm.MethodName) "SlateHands") ∈ NB := List.mem_of_getElem? (i := 9) rfl
theorem nb10 : (Jvm.Cond.methodLinkNest "SlateHands" (77 : Nat) ({ cls := "SlateHands$Seen", name := "<init>", desc := "()V" } : Jvm.MethodName) "SlateHands") ∈ NB := List.mem_of_getElem? (i := 10) rfl
theorem nb11 : (Jvm.Cond.methodLinkNest "SlateHands$Paths" (15 : Nat) ({ cls := "SlateHands", name := "hasBit", desc := "(II)Z" } : Jvm.MethodName) "SlateHands") ∈ NB := List.mem_of_getElem? (i := 11) rfl
theorem nb12 : (Jvm.Cond.methodLinkNest "SlateHands$Port" (85 : Nat) ({ cls := "SlateHands", name := "cell", desc := "([II)I" } : Jvm.MethodName) "SlateHands") ∈ NB := List.mem_of_getElem? (i := 12) rfl
theorem nb13 : (Jvm.Cond.methodLinkNest "SlateHands$Course" (65 : Nat) ({ cls := "SlateHands", name := "cell", desc := "([II)I" } : Jvm.MethodName) "SlateHands") ∈ NB := List.mem_of_getElem? (i := 13) rfl
theorem nb14 : (Jvm.Cond.methodLinkNest "SlateHands$Course" (69 : Nat) ({ cls := "SlateHands", name := "put", desc := "([III)V" } : Jvm.MethodName) "SlateHands") ∈ NB := List.mem_of_getElem? (i := 14) rfl
theorem nb15 : (Jvm.Cond.methodLinkNest "SlateHands$Carries" (50 : Nat) ({ cls := "SlateHands", name := "cell", desc := "([II)I" } : Jvm.MethodName) "SlateHands") ∈ NB := List.mem_of_getElem? (i := 15) rfl
theorem nb16 : (Jvm.Cond.methodLinkNest "SlateHands$Course" (103 : Nat) ({ cls := "SlateHands", name := "hasBit", desc := "(II)Z" } : Jvm.MethodName) "SlateHands") ∈ NB := List.mem_of_getElem? (i := 16) rfl
theorem nb17 : (Jvm.Cond.methodLinkNest "SlateHands$Port" (113 : Nat) ({ cls := "SlateHands", name := "hasBit", desc := "(II)Z" } : Jvm.MethodName) "SlateHands") ∈ NB := List.mem_of_getElem? (i := 17) rfl
theorem nb18 : (Jvm.Cond.methodLinkNest "SlateHands$Diary" (54 : Nat) ({ cls := "SlateHands", name := "put", desc := "([III)V" } : Jvm.MethodName) "SlateHands") ∈ NB := List.mem_of_getElem? (i := 18) rfl
theorem nb19 : (Jvm.Cond.methodLinkNest "SlateHands$Diary" (58 : Nat) ({ cls := "SlateHands", name := "cell", desc := "([II)I" } : Jvm.MethodName) "SlateHands") ∈ NB := List.mem_of_getElem? (i := 19) rfl
theorem nb20 : (Jvm.Cond.methodLinkNest "SlateHands$Alone" (80 : Nat) ({ cls := "SlateHands", name := "put", desc := "([III)V" } : Jvm.MethodName) "SlateHands") ∈ NB := List.mem_of_getElem? (i := 20) rfl
theorem nb21 : (Jvm.Cond.methodLinkNest "SlateHands$Alone" (76 : Nat) ({ cls := "SlateHands", name := "cell", desc := "([II)I" } : Jvm.MethodName) "SlateHands") ∈ NB := List.mem_of_getElem? (i := 21) rfl
theorem nb22 : (Jvm.Cond.methodLinkNest "SlateHands$Alone" (136 : Nat) ({ cls := "SlateHands", name := "hasBit", desc := "(II)Z" } : Jvm.MethodName) "SlateHands") ∈ NB := List.mem_of_getElem? (i := 22) rfl
theorem nb23 : (Jvm.Cond.methodLinkNest "SlateHands$Slots" (22 : Nat) ({ cls := "SlateHands", name := "cell", desc := "([II)I" } : Jvm.MethodName) "SlateHands") ∈ NB := List.mem_of_getElem? (i := 23) rfl
theorem nb24 : (Jvm.Cond.methodLinkNest "SlateHands$Seen" (72 : Nat) ({ cls := "SlateHands", name := "put", desc := "([III)V" } : Jvm.MethodName) "SlateHands") ∈ NB := List.mem_of_getElem? (i := 24) rfl
theorem nb25 : (Jvm.Cond.methodLinkNest "SlateHands$Carries" (46 : Nat) ({ cls := "SlateHands", name := "put", desc := "([III)V" } : Jvm.MethodName) "SlateHands") ∈ NB := List.mem_of_getElem? (i := 25) rfl
theorem nb26 : (Jvm.Cond.methodLinkNest "SlateHands$Slots" (33 : Nat) ({ cls := "SlateHands", name := "put", desc := "([III)V" } : Jvm.MethodName) "SlateHands") ∈ NB := List.mem_of_getElem? (i := 26) rfl
theorem nb27 : (Jvm.Cond.methodLinkNest "SlateHands$Reader" (136 : Nat) ({ cls := "SlateHands", name := "put", desc := "([III)V" } : Jvm.MethodName) "SlateHands") ∈ NB := List.mem_of_getElem? (i := 27) rfl
theorem df0 : ∀ k, k < 17 → defaultValue (tyX0 k) = (if ftag (tyX0 k) = 0 then .int 0 else if ftag (tyX0 k) = 1 then .long 0 else .null) := by
  intro k h
  have h1 : k ∈ List.range 17 := List.mem_range.mpr h
  have h2 : List.range 17 = [0, 1, 2, 3, 4, 5, 6, 7, 8, 9, 10, 11, 12, 13, 14, 15, 16] := by decide
  rw [h2] at h1
  simp only [List.mem_cons, List.not_mem_nil, or_false] at h1
  rcases h1 with rfl | rfl | rfl | rfl | rfl | rfl | rfl | rfl | rfl | rfl | rfl | rfl | rfl | rfl | rfl | rfl | rfl <;> rfl
theorem df1 : ∀ k, k < 9 → defaultValue (tyX1 k) = (if ftag (tyX1 k) = 0 then .int 0 else if ftag (tyX1 k) = 1 then .long 0 else .null) := by
  intro k h
  have h1 : k ∈ List.range 9 := List.mem_range.mpr h
  have h2 : List.range 9 = [0, 1, 2, 3, 4, 5, 6, 7, 8] := by decide
  rw [h2] at h1
  simp only [List.mem_cons, List.not_mem_nil, or_false] at h1
  rcases h1 with rfl | rfl | rfl | rfl | rfl | rfl | rfl | rfl | rfl <;> rfl
theorem df2 : ∀ k, k < 15 → defaultValue (tyX2 k) = (if ftag (tyX2 k) = 0 then .int 0 else if ftag (tyX2 k) = 1 then .long 0 else .null) := by
  intro k h
  have h1 : k ∈ List.range 15 := List.mem_range.mpr h
  have h2 : List.range 15 = [0, 1, 2, 3, 4, 5, 6, 7, 8, 9, 10, 11, 12, 13, 14] := by decide
  rw [h2] at h1
  simp only [List.mem_cons, List.not_mem_nil, or_false] at h1
  rcases h1 with rfl | rfl | rfl | rfl | rfl | rfl | rfl | rfl | rfl | rfl | rfl | rfl | rfl | rfl | rfl <;> rfl
theorem df3 : ∀ k, k < 7 → defaultValue (tyX3 k) = (if ftag (tyX3 k) = 0 then .int 0 else if ftag (tyX3 k) = 1 then .long 0 else .null) := by
  intro k h
  have h1 : k ∈ List.range 7 := List.mem_range.mpr h
  have h2 : List.range 7 = [0, 1, 2, 3, 4, 5, 6] := by decide
  rw [h2] at h1
  simp only [List.mem_cons, List.not_mem_nil, or_false] at h1
  rcases h1 with rfl | rfl | rfl | rfl | rfl | rfl | rfl <;> rfl
theorem df4 : ∀ k, k < 1 → defaultValue (tyX4 k) = (if ftag (tyX4 k) = 0 then .int 0 else if ftag (tyX4 k) = 1 then .long 0 else .null) := by
  intro k h
  have h1 : k ∈ List.range 1 := List.mem_range.mpr h
  have h2 : List.range 1 = [0] := by decide
  rw [h2] at h1
  simp only [List.mem_cons, List.not_mem_nil, or_false] at h1
  rcases h1 with rfl <;> rfl
theorem df5 : ∀ k, k < 17 → defaultValue (tyX5 k) = (if ftag (tyX5 k) = 0 then .int 0 else if ftag (tyX5 k) = 1 then .long 0 else .null) := by
  intro k h
  have h1 : k ∈ List.range 17 := List.mem_range.mpr h
  have h2 : List.range 17 = [0, 1, 2, 3, 4, 5, 6, 7, 8, 9, 10, 11, 12, 13, 14, 15, 16] := by decide
  rw [h2] at h1
  simp only [List.mem_cons, List.not_mem_nil, or_false] at h1
  rcases h1 with rfl | rfl | rfl | rfl | rfl | rfl | rfl | rfl | rfl | rfl | rfl | rfl | rfl | rfl | rfl | rfl | rfl <;> rfl
theorem df6 : ∀ k, k < 2 → defaultValue (tyX6 k) = (if ftag (tyX6 k) = 0 then .int 0 else if ftag (tyX6 k) = 1 then .long 0 else .null) := by
  intro k h
  have h1 : k ∈ List.range 2 := List.mem_range.mpr h
  have h2 : List.range 2 = [0, 1] := by decide
  rw [h2] at h1
  simp only [List.mem_cons, List.not_mem_nil, or_false] at h1
  rcases h1 with rfl | rfl <;> rfl
theorem df7 : ∀ k, k < 2 → defaultValue (tyX7 k) = (if ftag (tyX7 k) = 0 then .int 0 else if ftag (tyX7 k) = 1 then .long 0 else .null) := by
  intro k h
  have h1 : k ∈ List.range 2 := List.mem_range.mpr h
  have h2 : List.range 2 = [0, 1] := by decide
  rw [h2] at h1
  simp only [List.mem_cons, List.not_mem_nil, or_false] at h1
  rcases h1 with rfl | rfl <;> rfl
theorem df8 : ∀ k, k < 3 → defaultValue (tyX8 k) = (if ftag (tyX8 k) = 0 then .int 0 else if ftag (tyX8 k) = 1 then .long 0 else .null) := by
  intro k h
  have h1 : k ∈ List.range 3 := List.mem_range.mpr h
  have h2 : List.range 3 = [0, 1, 2] := by decide
  rw [h2] at h1
  simp only [List.mem_cons, List.not_mem_nil, or_false] at h1
  rcases h1 with rfl | rfl | rfl <;> rfl
theorem df9 : ∀ k, k < 6 → defaultValue (tyX9 k) = (if ftag (tyX9 k) = 0 then .int 0 else if ftag (tyX9 k) = 1 then .long 0 else .null) := by
  intro k h
  have h1 : k ∈ List.range 6 := List.mem_range.mpr h
  have h2 : List.range 6 = [0, 1, 2, 3, 4, 5] := by decide
  rw [h2] at h1
  simp only [List.mem_cons, List.not_mem_nil, or_false] at h1
  rcases h1 with rfl | rfl | rfl | rfl | rfl | rfl <;> rfl
theorem df10 : ∀ k, k < 4 → defaultValue (tyX10 k) = (if ftag (tyX10 k) = 0 then .int 0 else if ftag (tyX10 k) = 1 then .long 0 else .null) := by
  intro k h
  have h1 : k ∈ List.range 4 := List.mem_range.mpr h
  have h2 : List.range 4 = [0, 1, 2, 3] := by decide
  rw [h2] at h1
  simp only [List.mem_cons, List.not_mem_nil, or_false] at h1
  rcases h1 with rfl | rfl | rfl | rfl <;> rfl
theorem df11 : ∀ k, k < 14 → defaultValue (tyX11 k) = (if ftag (tyX11 k) = 0 then .int 0 else if ftag (tyX11 k) = 1 then .long 0 else .null) := by
  intro k h
  have h1 : k ∈ List.range 14 := List.mem_range.mpr h
  have h2 : List.range 14 = [0, 1, 2, 3, 4, 5, 6, 7, 8, 9, 10, 11, 12, 13] := by decide
  rw [h2] at h1
  simp only [List.mem_cons, List.not_mem_nil, or_false] at h1
  rcases h1 with rfl | rfl | rfl | rfl | rfl | rfl | rfl | rfl | rfl | rfl | rfl | rfl | rfl | rfl <;> rfl
section
variable {mi : MI} {Γ : Gm} {k pc p1 pT pF pe : Nat} {C : Cd}
theorem c_ldT (hc : SC mi Γ k pc p1 pF C) (x1 : LD mi [pT] p1) : SC mi Γ k pc pT pF C := by
  refine ⟨hc.1, ?_⟩
  intro κ p l e R s m args below meth c nb sb Q CX f h v h' q L st hst K
  refine hc.2 κ p l e R s m args below meth c nb sb Q CX f h v h' q L st hst ?_
  cases v
  · exact K
  · exact x1 κ p l e R s m args below meth c nb sb Q CX _ _ _ _ (fun y hy => by rw [List.mem_singleton.mp hy]; exact K)
theorem s_ld {α : Type} {cv : KX → α → Value} {B : Ex α} (hb : SE cv mi Γ k pc p1 B) (x1 : LD mi [pe] p1) : SE cv mi Γ k pc pe B := by
  refine ⟨hb.1, ?_⟩
  intro κ p l e R s m args below meth c nb sb Q CX f h v h' q L st hst K
  exact hb.2 κ p l e R s m args below meth c nb sb Q CX f h v h' q L st hst (x1 κ p l e R s m args below meth c nb sb Q CX _ _ _ _ (fun y hy => by rw [List.mem_singleton.mp hy]; exact K))
end
def o_imax (x y : Int32) : Int32 := if x < y then y else x
def o_imin (x y : Int32) : Int32 := if y < x then y else x
section
variable {mi : MI} {Γ : Gm} {k pc p1 p2 idx : Nat}
theorem s_math {A B : Ex Int32} {g : Int32 → Int32 → Int32} (ha : SE cvI mi Γ k pc p1 A) (hb : SE cvI mi Γ (k + 1) p1 p2 B) (hk8 : Nat.ble k 8 = true) (hr : Nat.ble 1 mi.2.2.2.1 = true)
    (hu : ∀ {p : Program} {l : Launch} {e : Env} {R : Room} {s : State} {m : MethodId} {args : Array Value} {below : List Frame} {meth : Method} {c : Code} {H : Heap} {locs : List Loc} {cells slots : Nat} {Q : State → Prop} {ls : Array Slot} {rest : List Value} {x y : Int32}, p.tables.exec = Jvm.exec → c.code = mi.2.1 → c.maxLocals = ls.size → s.vm.findClass mi.1 = some m.cls → (∀ w ∈ TB, w.before args s = true) → 1 ≤ R.frames → (rest.map fun v => v.category).sum + 13 ≤ R.locals → cells ≤ R.cells → slots ≤ R.slots → W p l e R s m args below meth c H locs cells slots Q (F0 m (p2 + 3) ls (.int (g x y) :: rest)) → W p l e R s m args below meth c H locs cells slots Q (F0 m p2 ls (.int y :: .int x :: rest))) : SE cvI mi Γ k pc (p2 + 3) (d2 g A B) := by
  refine ⟨fun f h v h' q => ?_, ?_⟩
  · unfold d2 at q
    split at q
    · cases q
    · rename_i x h1 q1
      split at q
      · cases q
      · rename_i y h2 q2
        cases q
        exact (ha.1 _ _ _ _ q1).tr (hb.1 _ _ _ _ q2)
  · intro κ p l e R s m args below meth c nb sb Q C f h v h' q L st hst K
    unfold d2 at q
    split at q
    · cases q
    · rename_i x h1 q1
      split at q
      · cases q
      · rename_i y h2 q2
        cases q
        refine ha.2 κ p l e R s m args below meth c nb sb Q C f h x h1 q1 (L.le (hb.1 _ _ _ _ q2)) st hst ?_
        refine hb.2 κ p l e R s m args below meth c nb sb Q C f h1 y _ q2 L _ ?_ (fun ls H locs a b d1 e1 e2 => ?_)
        · have := catI κ x
          simp only [List.map_cons, List.sum_cons]
          omega
        · have hr1 := C.2.2.2.2.2.2.2.2.1
          have hr2 := C.2.2.2.2.2.2.2.2.2.1
          have hr3 := Nat.le_of_ble_eq_true hr
          have hk9 := Nat.le_of_ble_eq_true hk8
          exact hu C.exec C.code (by rw [C.2.2.1]; exact a.1.symm) C.own C.tb (by omega) (by omega) L.1 L.2 (K ls H locs a b d1 e1 e2)
theorem s_mmax {A B : Ex Int32} (ha : SE cvI mi Γ k pc p1 A) (hb : SE cvI mi Γ (k + 1) p1 p2 B) (hk8 : Nat.ble k 8 = true) (hr : Nat.ble 1 mi.2.2.2.1 = true) (d : decode mi.2.1 p2 = .ok (.invokestatic idx, 3)) (hl : Cond.methodLink mi.1 idx Lib.Math.max.name ∈ TB) : SE cvI mi Γ k pc (p2 + 3) (d2 o_imax A B) :=
  s_math ha hb hk8 hr fun a b c1 c2 c3 c4 c5 c6 c7 K => va_mmax a b c1 c2 (c3 _ hl) (c3 _ w3_111) (c3 _ w1_13) (c3 _ w3_112) c4 c5 c6 c7 d K
theorem s_mmin {A B : Ex Int32} (ha : SE cvI mi Γ k pc p1 A) (hb : SE cvI mi Γ (k + 1) p1 p2 B) (hk8 : Nat.ble k 8 = true) (hr : Nat.ble 1 mi.2.2.2.1 = true) (d : decode mi.2.1 p2 = .ok (.invokestatic idx, 3)) (hl : Cond.methodLink mi.1 idx Lib.Math.min.name ∈ TB) : SE cvI mi Γ k pc (p2 + 3) (d2 o_imin A B) :=
  s_math ha hb hk8 hr fun a b c1 c2 c3 c4 c5 c6 c7 K => va_mmin a b c1 c2 (c3 _ hl) (c3 _ w5_121) (c3 _ w1_13) (c3 _ w5_122) c4 c5 c6 c7 d K
end
noncomputable def DJ0_checkIndex_df160 : Fr → St → Option (Unit × St) := D_chk
theorem kJ0_checkIndex_df160 : SND yJ0_checkIndex_df160 cJ0_checkIndex_df160 2 none 1 [(0, 0), (1, 0)] cvoV DJ0_checkIndex_df160 := k_chk
theorem mokJ0_checkIndex_df160 : MOK yJ0_checkIndex_df160 cJ0_checkIndex_df160 2 none 2 := ⟨w5_163, w1_14, ⟨by decide, by decide⟩, by decide +kernel, by decide⟩
def DJ2_charAt_3b067 : Fr → St → Option (Int32 × St) := fun _ _ => none
theorem kJ2_charAt_3b067 : SND yJ2_charAt_3b067 cJ2_charAt_3b067 2 (some .char) 0 [(0, 2), (1, 0)] cvoI DJ2_charAt_3b067 := ⟨fun g h v h' q => (by cases q), fun l κ g h v h' q => (by cases q)⟩
theorem mokJ2_charAt_3b067 : MOK yJ2_charAt_3b067 cJ2_charAt_3b067 2 (some .char) 2 := ⟨w5_171, w1_17, ⟨by decide, by decide⟩, by decide +kernel, by decide⟩
