/-! calls and methods -/
abbrev Ag : Type := Fr → St → Option (Fr × St)
def aN : Ag := fun _ h => some (fr0, h)
/-- what may be missing, then what comes of it -/
def ob {α β : Type} (x : Option α) (k : α → Option β) : Option β := match x with
  | none => none
  | some a => k a
theorem ob_some {α β : Type} {x : Option α} {k : α → Option β} {b : β} : ob x k = some b ↔ ∃ a, x = some a ∧ k a = some b := by
  unfold ob
  rcases x with _ | a
  · simp
  · simp
theorem ob_s {α β : Type} (a : α) (k : α → Option β) : ob (some a) k = k a := rfl
def aI (A : Ag) (i : Nat) (a : Ex Int32) : Ag := fun f h => ob (A f h) fun q => ob (a f q.2) fun w => some (sI q.1 i w.1, w.2)
def aL (A : Ag) (i : Nat) (a : Ex Int64) : Ag := fun f h => ob (A f h) fun q => ob (a f q.2) fun w => some (sL q.1 i w.1, w.2)
def aR (A : Ag) (i : Nat) (a : Ex Nat) : Ag := fun f h => ob (A f h) fun q => ob (a f q.2) fun w => some (sR q.1 i w.1, w.2)
/-- arguments: their values come on the stack in order; n words in all -/
def SA (mi : MI) (Γ : Gm) (k pc pc' n : Nat) (ts : Gm) (A : Ag) : Prop :=
  (∀ f h g h', A f h = some (g, h') → LE h h') ∧
  (∀ κ f h g h', A f h = some (g, h') → ((ts.map fun q => (lvv κ g q).2).map fun v => v.category).sum ≤ n) ∧
  ∀ κ p l e R s m args below meth c nb sb Q, CXT mi κ p R s m args meth c → ∀ f h g h', A f h = some (g, h') → LIM R nb sb h' → ∀ st, (st.map fun v => v.category).sum ≤ k → GO mi κ p l e R s m args below meth c nb sb Q Γ pc' f h' ((ts.map fun q => (lvv κ g q).2).reverse ++ st) → GO mi κ p l e R s m args below meth c nb sb Q Γ pc f h st
theorem sum_rev (vs : List Value) : ((vs.reverse).map fun v => v.category).sum = (vs.map fun v => v.category).sum := by
  rw [List.map_reverse, List.sum_reverse]
section
variable {mi : MI} {Γ ts : Gm} {k pc pc' p1 p2 n : Nat}
theorem a_nil : SA mi Γ k pc pc 0 [] aN := by
  refine ⟨fun f h g h' q => by cases q; exact LE.rf _, fun κ f h g h' q => Nat.le_refl _, ?_⟩
  intro κ p l e R s m args below meth c nb sb Q C f h g h' q L st hst K
  cases q
  exact K
theorem a_cons_of {α : Type} {cv : KX → α → Value} {A : Ag} {E : Ex α} {t : Nat} (st1 : Fr → α → Fr) (i w : Nat)
    (hv : ∀ κ g x, (lvv κ (st1 g x) (i, t)).2 = cv κ x) (ho : ∀ κ g x (q : Nat × Nat), q.1 ≠ i → lvv κ (st1 g x) q = lvv κ g q) (hw : ∀ κ x, (cv κ x).category ≤ w) (hi : ts.all (fun q => !(q.1 == i)) = true)
    (ha : SA mi Γ k pc p1 n ts A) (he : SE cv mi Γ (k + n) p1 p2 E) : SA mi Γ k pc p2 (n + w) (ts ++ [(i, t)]) (fun f h => ob (A f h) fun q => ob (E f q.2) fun w => some (st1 q.1 w.1, w.2)) := by
  have hmap : ∀ κ g x, ((ts ++ [(i, t)]).map fun q => (lvv κ (st1 g x) q).2) = (ts.map fun q => (lvv κ g q).2) ++ [cv κ x] := by
    intro κ g x
    rw [List.map_append, List.map_cons, List.map_nil, hv]
    congr 1
    refine List.map_congr_left fun q hq => ?_
    have h1 := List.all_eq_true.mp hi q hq
    rw [ho κ g x q (by simpa using h1)]
  refine ⟨fun f h g h' q => ?_, fun κ f h g h' q => ?_, ?_⟩
  · obtain ⟨⟨g1, h1⟩, q1, q⟩ := ob_some.mp q
    obtain ⟨⟨x, h2⟩, q2, q⟩ := ob_some.mp q
    cases q
    exact (ha.1 _ _ _ _ q1).tr (he.1 _ _ _ _ q2)
  · obtain ⟨⟨g1, h1⟩, q1, q⟩ := ob_some.mp q
    obtain ⟨⟨x, h2⟩, q2, q⟩ := ob_some.mp q
    cases q
    rw [hmap, List.map_append, List.sum_append]
    have a1 := ha.2.1 κ _ _ _ _ q1
    have a2 := hw κ x
    simp only [List.map_cons, List.map_nil, List.sum_cons, List.sum_nil]
    omega
  · intro κ p l e R s m args below meth c nb sb Q C f h g h' q L st hst K
    obtain ⟨⟨g1, h1⟩, q1, q⟩ := ob_some.mp q
    obtain ⟨⟨x, h2⟩, q2, q⟩ := ob_some.mp q
    cases q
    rw [hmap] at K
    refine ha.2.2 κ p l e R s m args below meth c nb sb Q C f h g1 h1 q1 (L.le (he.1 _ _ _ _ q2)) st hst ?_
    refine he.2 κ p l e R s m args below meth c nb sb Q C f h1 x h2 q2 L _ ?_ ?_
    · rw [List.map_append, List.sum_append, sum_rev]
      have a1 := ha.2.1 κ _ _ _ _ q1
      omega
    · rw [List.reverse_append] at K
      exact K
theorem a_I {A : Ag} {E : Ex Int32} (i : Nat) (ha : SA mi Γ k pc p1 n ts A) (he : SE cvI mi Γ (k + n) p1 p2 E) (hi : ts.all (fun q => !(q.1 == i)) = true) : SA mi Γ k pc p2 (n + 1) (ts ++ [(i, 0)]) (aI A i E) :=
  a_cons_of (cv := cvI) (fun g x => sI g i x) i 1 (fun κ g x => by simp [lvv, gI, sI, cvI]) (fun κ g x => lvv_sI κ g i x) catI hi ha he
theorem a_L {A : Ag} {E : Ex Int64} (i : Nat) (ha : SA mi Γ k pc p1 n ts A) (he : SE cvL mi Γ (k + n) p1 p2 E) (hi : ts.all (fun q => !(q.1 == i)) = true) : SA mi Γ k pc p2 (n + 2) (ts ++ [(i, 1)]) (aL A i E) :=
  a_cons_of (cv := cvL) (fun g x => sL g i x) i 2 (fun κ g x => by simp [lvv, gL, sL, cvL]) (fun κ g x => lvv_sL κ g i x) catL hi ha he
theorem a_R {A : Ag} {E : Ex Nat} (i : Nat) (ha : SA mi Γ k pc p1 n ts A) (he : SE cvR mi Γ (k + n) p1 p2 E) (hi : ts.all (fun q => !(q.1 == i)) = true) : SA mi Γ k pc p2 (n + 1) (ts ++ [(i, 2)]) (aR A i E) :=
  a_cons_of (cv := cvR) (fun g x => sR g i x) i 1 (fun κ g x => by simp [lvv, gR, sR, cvR]) (fun κ g x => lvv_sR κ g i x) catR hi ha he
end
/-- what holds at a method's start, and at its end -/
def PRE1 (κ : KX) (h : St) (U : State) : Prop := Rep κ h U.heap ∧ va_K (kD κ) classes (kT κ) U ∧ (∀ w ∈ NB, va_Nw w U) ∧ PREK κ U
def RM (rk mc ms : Nat) : Room := { frames := rk, cells := mc, slots := ms, locals := 42 * rk }
/-- a method does what D says -/
def SND {α : Type} (y : MethodName) (bytes : ByteArray) (maxL : Nat) (ret : Option FieldType) (rk : Nat) (ts : Gm) (cvo : KX → α → Option Value) (D : Fr → St → Option (α × St)) : Prop :=
  (∀ g h v h', D g h = some (v, h') → LE h h') ∧
  ∀ (l : Launch) κ g h v h', D g h = some (v, h') → Met l y (.code y bytes maxL ret :: TB) (RM rk (hn h' - hn h) (hs h' - hs h)) (va_Pc (ts.map fun q => (lvv κ g q).2) (PRE1 κ h)) (fun _ st oc t => oc = .returned (cvo κ v) ∧ Rep κ h' t.heap ∧ va_F (AQ κ) st t) (hn h' - hn h) (hs h' - hs h) (AQ κ)
/-- the words that a call of y needs -/
def MOK (y : MethodName) (bytes : ByteArray) (maxL : Nat) (ret : Option FieldType) (n : Nat) : Prop :=
  Cond.code y bytes maxL ret ∈ TB ∧ Cond.initialized y.cls ∈ TB ∧ (y.cls ≠ "java/lang/invoke/MethodHandle" ∧ y.cls ≠ "java/lang/invoke/VarHandle") ∧ (parseMethodDescriptor y.desc).map (fun d => d.parameters.length) = some n ∧ maxL ≤ 23
def cvoI (_ : KX) (v : Int32) : Option Value := some (.int v)
def cvoL (_ : KX) (v : Int64) : Option Value := some (.long v)
def cvoR (κ : KX) (v : Nat) : Option Value := some (rv κ v)
def cvoV (_ : KX) (_ : Unit) : Option Value := none
theorem good_tb {y : MethodName} {bytes : ByteArray} {maxL : Nat} {ret : Option FieldType} (h : Cond.code y bytes maxL ret ∈ TB) : GoodIn TB (Cond.code y bytes maxL ret :: TB) := by
  intro w hw
  rcases List.mem_cons.mp hw with rfl | hw
  · exact ⟨h, good_of_word (tb_all _ h)⟩
  · exact ⟨hw, good_of_word (tb_all _ hw)⟩
section
variable {mi : MI} {κ : KX} {p : Program} {l : Launch} {e : Env} {R : Room} {s : State} {m : MethodId} {args : Array Value} {below : List Frame} {meth : Method} {c : Code} {nb sb : Nat} {Q : State → Prop} {Γ : Gm} {f : Fr} {h : St} {st : List Value} {pc : Nat}
theorem CXT.callB (C : CXT mi κ p R s m args meth c) {y : MethodName} {bytes : ByteArray} {maxL idx n rk mc ms : Nat} {ret : Option FieldType} (M : MOK y bytes maxL ret n) (hrk : rk + 1 ≤ mi.2.2.2.1) (hl : Cond.methodLink mi.1 idx y ∈ TB) : CallB R s args mi.1 idx y bytes maxL ret (.code y bytes maxL ret :: TB) (RM rk mc ms) mc ms n := by
  refine callB_of n C.tb (good_tb M.1) rfl rfl rfl (C.tb _ M.2.1) (C.tb _ hl) ⟨M.2.2.1.1, M.2.2.1.2, M.2.2.2.1⟩ ⟨?_, ?_⟩
  · have := C.2.2.2.2.2.2.2.2.1
    show rk + 1 ≤ R.frames
    omega
  · have := C.2.2.2.2.2.2.2.2.2.1
    have := M.2.2.2.2
    show 8 + (maxL + 11) + 42 * rk ≤ R.locals
    omega
theorem CXT.callN (C : CXT mi κ p R s m args meth c) {y : MethodName} {host : String} {bytes : ByteArray} {maxL idx n rk mc ms : Nat} {ret : Option FieldType} (M : MOK y bytes maxL ret n) (hrk : rk + 1 ≤ mi.2.2.2.1) (hl : Cond.methodLinkNest mi.1 idx y host ∈ NB) : va_CN R s args mi.1 idx y host bytes maxL ret (.code y bytes maxL ret :: TB) (RM rk mc ms) mc ms n := by
  refine va_cnB n C.tb (good_tb M.1) rfl rfl rfl (C.2.2.2.2.2.2.1 _ hl) (C.tb _ M.2.1) ⟨M.2.2.1.1, M.2.2.1.2, M.2.2.2.1⟩ ⟨?_, ?_⟩
  · have := C.2.2.2.2.2.2.2.2.1
    show rk + 1 ≤ R.frames
    omega
  · have := C.2.2.2.2.2.2.2.2.2.1
    have := M.2.2.2.2
    show 8 + (maxL + 11) + 42 * rk ≤ R.locals
    omega
theorem CXT.pre1 (C : CXT mi κ p R s m args meth c) {H : Heap} {locs : List Loc} (b : Rep κ h H) (d1 : va_S (AQ κ) s.heap H locs) {U : State} (hU : U.heap = H) (hW : s.WarmedH U.vm) : PRE1 κ h U := by
  refine ⟨by rw [hU]; exact b, C.K.moved hW.alike, fun w hw => ?_, C.2.2.2.2.2.2.2.1.to hW fun a h1 h2 => by rw [hU]; exact d1.2.1 a h1 h2⟩
  obtain ⟨a, i, x, hh, rfl⟩ := nb_nest w hw
  exact va_Nw.warmM hW (C.2.2.2.2.2.2.1 _ hw)
theorem blind_pre {av : List Value} : FrameBlind (va_Pc av (PRE1 κ h)) := by
  intro a U g mk q
  refine ⟨q.1, q.2.1, va_K.moved (u := U) (U := U.calling g mk a) (Vm.Alike.refl U.vm) q.2.2.1, fun w hw => ?_, q.2.2.2.2.to (U := U.calling g mk a) (State.WarmedH.refl U) fun _ _ _ => rfl⟩
  obtain ⟨a1, i, x, hh, rfl⟩ := nb_nest w hw
  exact va_Nw.same (U := U.calling g mk a) rfl rfl (q.2.2.2.1 _ hw)
/-- behind the callee -/
theorem go_back {h' : St} {vo : Option Value} {rest st0 : List Value} {ls : Array Slot} {H : Heap} {locs : List Loc}
    (d1 : va_S (AQ κ) s.heap H locs) (hle : LE h h') (e1 : nb ≤ hn h) (e2 : sb ≤ hs h)
    (hr : va_Run p l e R s m args below meth c H locs (hn h - nb) (hs h - sb) (hn h' - hn h) (hs h' - hs h) (F0 m pc ls st0) rest (fun st oc t => oc = .returned vo ∧ Rep κ h' t.heap ∧ va_F (AQ κ) st t) (AQ κ))
    (K : ∀ (H1 : Heap) (locs1 : List Loc), Rep κ h' H1 → va_S (AQ κ) s.heap H1 locs1 → W p l e R s m args below meth c H1 locs1 (hn h' - nb) (hs h' - sb) Q (F0 m (pc + 3) ls (vo.toList ++ rest))) : W p l e R s m args below meth c H locs (hn h - nb) (hs h - sb) Q (F0 m pc ls st0) := by
  intro T hT X
  obtain ⟨v, st₀, t, T', L, h0, X', hL, g1, g2, ⟨hv, hRp, hz, hkk⟩, st⟩ := hr T hT X
  cases hv
  rw [h0] at hz hkk
  obtain ⟨t2, a1, b1⟩ := K T'.heap (locs ++ L) (by rw [g1]; exact hRp) ⟨Nat.le_trans d1.1 (by rw [g1]; exact hz), fun q h1 h2 => by rw [g1, hkk q (Nat.lt_of_lt_of_le h1 d1.1) h2]; exact d1.2.1 q h1 h2, fun q hq => by
      rcases List.mem_append.mp hq with h | h
      · exact d1.2.2 q h
      · exact hL q h⟩ T' rfl (by
        have := hle.1
        have := hle.2
        rw [show hn h' - nb = hn h - nb + (hn h' - hn h) by omega, show hs h' - sb = hs h - sb + (hs h' - hs h) by omega]
        exact X')
  exact ⟨t2, st t2 a1, b1⟩
theorem lim_call {h' : St} (L : LIM R nb sb h') (hle : LE h h') (e1 : nb ≤ hn h) (e2 : sb ≤ hs h) : hn h - nb + (hn h' - hn h) ≤ R.cells ∧ hs h - sb + (hs h' - hs h) ≤ R.slots := by
  obtain ⟨a, b⟩ := L
  have := hle.1
  have := hle.2
  omega
theorem ls_size {ls : Array Slot} {nL : Nat} {lv : List (Nat × Value)} (a : lv_has ls nL lv) : ls.size = nL := a.1
end
-- calls as expressions
def dCall {α : Type} (D : Fr → St → Option (α × St)) (A : Ag) : Ex α := fun f h => ob (A f h) fun q => D q.1 q.2
/-- of an object of class cl -/
def dCallV {α : Type} (cl : Nat) (D : Fr → St → Option (α × St)) (A : Ag) : Ex α := fun f h => ob (A f h) fun q => if (hk q.2 (gR q.1 0)).1 = cl then D q.1 q.2 else none
/-- an expression statement whose value goes nowhere: a void call -/
def SV {α : Type} (cvo : KX → α → Option Value) (mi : MI) (Γ : Gm) (k pc pc' : Nat) (E : Ex α) : Prop :=
  (∀ f h v h', E f h = some (v, h') → LE h h') ∧
  ∀ κ p l e R s m args below meth c nb sb Q, CXT mi κ p R s m args meth c → ∀ f h v h', E f h = some (v, h') → LIM R nb sb h' → ∀ st, (st.map fun v => v.category).sum ≤ k → GO mi κ p l e R s m args below meth c nb sb Q Γ pc' f h' ((cvo κ v).toList ++ st) → GO mi κ p l e R s m args below meth c nb sb Q Γ pc f h st
section
variable {α : Type} {mi : MI} {Γ ts : Gm} {k pc pc' p1 p2 n rk idx nw : Nat} {y : MethodName} {bytes : ByteArray} {maxL : Nat} {ret : Option FieldType} {cvo : KX → α → Option Value} {D : Fr → St → Option (α × St)} {A : Ag}
theorem k8 {st : List Value} {k : Nat} (h : (st.map fun v => v.category).sum ≤ k) (hk : Nat.ble k 8 = true) : (st.map fun v => v.category).sum ≤ 8 := Nat.le_trans h (by simpa using hk)
theorem x_call (hD : SND y bytes maxL ret rk ts cvo D) (M : MOK y bytes maxL ret n) (hst : Cond.static y ∈ TB) (hts : ts.length = n) (hrk : Nat.ble (rk + 1) mi.2.2.2.1 = true) (hk8 : Nat.ble k 8 = true) (ha : SA mi Γ k pc p1 nw ts A) (d : decode mi.2.1 p1 = .ok (.invokestatic idx, 3)) (hl : Cond.methodLink mi.1 idx y ∈ TB) : SV cvo mi Γ k pc (p1 + 3) (dCall D A) := by
  refine ⟨fun f h v h' q => ?_, ?_⟩
  · obtain ⟨⟨g, h1⟩, q1, q⟩ := ob_some.mp q
    exact (ha.1 _ _ _ _ q1).tr (hD.1 _ _ _ _ q)
  · intro κ p l e R s m args below meth c nb sb Q C f h v h' q L st hst1 K
    obtain ⟨⟨g, h1⟩, q1, q⟩ := ob_some.mp q
    · have hle := hD.1 _ _ _ _ q
      refine ha.2.2 κ p l e R s m args below meth c nb sb Q C f h g h1 q1 (L.le hle) st hst1 ?_
      intro ls H locs a b d1 e1 e2
      refine go_back d1 hle e1 e2 (va_runS (As := ts.map fun q => (lvv κ g q).2) (rest := st) ⟨C.exec, C.code, C.2.2.1, C.own, C.tb⟩ (hD.2 l κ g h1 v h' q) ⟨C.callB M (by simpa using hrk) hl, C.tb _ hst⟩ ⟨blind_pre, fun U hU hW => ⟨rfl, C.pre1 b d1 hU hW⟩⟩ rfl (by rw [List.length_map]; exact hts) (ls_size a) rfl (lv_room (k8 hst1 hk8)) d (lim_call L hle e1 e2)) fun H1 locs1 b1 d2 => K ls H1 locs1 a b1 d2 (Nat.le_trans e1 hle.1) (Nat.le_trans e2 hle.2)
theorem x_callN {host : String} (hD : SND y bytes maxL ret rk ts cvo D) (M : MOK y bytes maxL ret n) (hst : Cond.static y ∈ TB) (hts : ts.length = n) (hrk : Nat.ble (rk + 1) mi.2.2.2.1 = true) (hk8 : Nat.ble k 8 = true) (ha : SA mi Γ k pc p1 nw ts A) (d : decode mi.2.1 p1 = .ok (.invokestatic idx, 3)) (hl : Cond.methodLinkNest mi.1 idx y host ∈ NB) : SV cvo mi Γ k pc (p1 + 3) (dCall D A) := by
  refine ⟨fun f h v h' q => ?_, ?_⟩
  · obtain ⟨⟨g, h1⟩, q1, q⟩ := ob_some.mp q
    exact (ha.1 _ _ _ _ q1).tr (hD.1 _ _ _ _ q)
  · intro κ p l e R s m args below meth c nb sb Q C f h v h' q L st hst1 K
    obtain ⟨⟨g, h1⟩, q1, q⟩ := ob_some.mp q
    · have hle := hD.1 _ _ _ _ q
      refine ha.2.2 κ p l e R s m args below meth c nb sb Q C f h g h1 q1 (L.le hle) st hst1 ?_
      intro ls H locs a b d1 e1 e2
      refine go_back d1 hle e1 e2 (va_runSN (As := ts.map fun q => (lvv κ g q).2) (rest := st) ⟨C.exec, C.code, C.2.2.1, C.own, C.tb⟩ (hD.2 l κ g h1 v h' q) ⟨C.callN M (by simpa using hrk) hl, C.tb _ hst, trivial⟩ ⟨blind_pre, fun U hU hW => ⟨rfl, C.pre1 b d1 hU hW⟩⟩ rfl (by rw [List.length_map]; exact hts) (ls_size a) rfl (lv_room (k8 hst1 hk8)) d (lim_call L hle e1 e2)) fun H1 locs1 b1 d2 => K ls H1 locs1 a b1 d2 (Nat.le_trans e1 hle.1) (Nat.le_trans e2 hle.2)
theorem recv_cl {κ : KX} {p : Program} {R : Room} {s : State} {m : MethodId} {args : Array Value} {meth : Method} {c : Code} {h : St} {H : Heap} (C : CXT mi κ p R s m args meth c) (b : Rep κ h H) {cl N r : Nat} {CN : String} {T : u_T} {ty : Nat → FieldType} (ck : ClOK cl CN T N ty) (hc : (hk h r).1 = cl) : n0 ≤ r ∧ ∃ cellB : Cell, H[al κ r]? = some cellB ∧ cellB.vm.isStatics = false ∧ s.vm.findClass CN = some cellB.cls := by
  obtain ⟨c13, hcl, -⟩ := ck
  obtain ⟨r1, r2, hat⟩ := b.dyn (r := r) (by omega)
  refine ⟨r1, ?_⟩
  rw [cell_obj (by omega), hc] at hat
  exact va_recv (q := (CN, T, N)) C.K (one_P hat) hcl (q0 := 0) rfl
theorem x_callV {cl N : Nat} {CN : String} {T : u_T} {ty : Nat → FieldType} {ts' : Gm} (ck : ClOK cl CN T N ty) (hCN : y.cls = CN) (hD : SND y bytes maxL ret rk ts cvo D) (M : MOK y bytes maxL ret n) (hin : Cond.instanceMethod y ∈ TB) (hse : Cond.selects y.cls y y ∈ TB) (hts : ts = (0, 2) :: ts') (hn : ts'.length = n) (hrk : Nat.ble (rk + 1) mi.2.2.2.1 = true) (hk8 : Nat.ble k 8 = true) (ha : SA mi Γ k pc p1 nw ts A) (d : decode mi.2.1 p1 = .ok (.invokevirtual idx, 3)) (hl : Cond.methodLink mi.1 idx y ∈ TB) : SV cvo mi Γ k pc (p1 + 3) (dCallV cl D A) := by
  refine ⟨fun f h v h' q => ?_, ?_⟩
  · obtain ⟨⟨g, h1⟩, q1, q⟩ := ob_some.mp q
    · dsimp only at q
      split at q
      · exact (ha.1 _ _ _ _ q1).tr (hD.1 _ _ _ _ q)
      · cases q
  · intro κ p l e R s m args below meth c nb sb Q C f h v h' q L st hst1 K
    obtain ⟨⟨g, h1⟩, q1, q⟩ := ob_some.mp q
    · dsimp only at q
      split at q
      · rename_i hc
        have hle := hD.1 _ _ _ _ q
        refine ha.2.2 κ p l e R s m args below meth c nb sb Q C f h g h1 q1 (L.le hle) st hst1 ?_
        intro ls H locs a b d1 e1 e2
        obtain ⟨r1, hrecv⟩ := recv_cl C b ck hc
        have hM := hD.2 l κ g h1 v h' q
        have hav : ts.map (fun q => (lvv κ g q).2) = Value.ref (al κ (gR g 0)) :: ts'.map (fun q => (lvv κ g q).2) := by
          rw [hts, List.map_cons]
          congr 1
          show rv κ (gR g 0) = _
          exact rv_dyn κ r1
        rw [hav] at hM ⊢
        refine go_back d1 hle e1 e2 (va_runV (As := ts'.map fun q => (lvv κ g q).2) (b := al κ (gR g 0)) (rest := st) ⟨C.exec, C.code, C.2.2.1, C.own, C.tb⟩ hM ⟨C.callB M (by simpa using hrk) hl, C.tb _ hin, C.tb _ hse⟩ ⟨blind_pre, by rw [hCN]; exact hrecv, fun U hU hW => ⟨rfl, C.pre1 b d1 hU hW⟩⟩ rfl (by rw [List.length_map]; exact hn) (ls_size a) (by simp) (lv_room (k8 hst1 hk8)) d (lim_call L hle e1 e2)) fun H1 locs1 b1 d2 => K ls H1 locs1 a b1 d2 (Nat.le_trans e1 hle.1) (Nat.le_trans e2 hle.2)
      · cases q
theorem x_callVN {host : String} {cl N : Nat} {CN : String} {T : u_T} {ty : Nat → FieldType} {ts' : Gm} (ck : ClOK cl CN T N ty) (hCN : y.cls = CN) (hD : SND y bytes maxL ret rk ts cvo D) (M : MOK y bytes maxL ret n) (hin : Cond.instanceMethod y ∈ TB) (hse : Cond.selects y.cls y y ∈ TB) (hts : ts = (0, 2) :: ts') (hn : ts'.length = n) (hrk : Nat.ble (rk + 1) mi.2.2.2.1 = true) (hk8 : Nat.ble k 8 = true) (ha : SA mi Γ k pc p1 nw ts A) (d : decode mi.2.1 p1 = .ok (.invokevirtual idx, 3)) (hl : Cond.methodLinkNest mi.1 idx y host ∈ NB) : SV cvo mi Γ k pc (p1 + 3) (dCallV cl D A) := by
  refine ⟨fun f h v h' q => ?_, ?_⟩
  · obtain ⟨⟨g, h1⟩, q1, q⟩ := ob_some.mp q
    · dsimp only at q
      split at q
      · exact (ha.1 _ _ _ _ q1).tr (hD.1 _ _ _ _ q)
      · cases q
  · intro κ p l e R s m args below meth c nb sb Q C f h v h' q L st hst1 K
    obtain ⟨⟨g, h1⟩, q1, q⟩ := ob_some.mp q
    · dsimp only at q
      split at q
      · rename_i hc
        have hle := hD.1 _ _ _ _ q
        refine ha.2.2 κ p l e R s m args below meth c nb sb Q C f h g h1 q1 (L.le hle) st hst1 ?_
        intro ls H locs a b d1 e1 e2
        obtain ⟨r1, hrecv⟩ := recv_cl C b ck hc
        have hM := hD.2 l κ g h1 v h' q
        have hav : ts.map (fun q => (lvv κ g q).2) = Value.ref (al κ (gR g 0)) :: ts'.map (fun q => (lvv κ g q).2) := by
          rw [hts, List.map_cons]
          congr 1
          show rv κ (gR g 0) = _
          exact rv_dyn κ r1
        rw [hav] at hM ⊢
        refine go_back d1 hle e1 e2 (va_runVN (As := ts'.map fun q => (lvv κ g q).2) (b := al κ (gR g 0)) (rest := st) ⟨C.exec, C.code, C.2.2.1, C.own, C.tb⟩ hM ⟨C.callN M (by simpa using hrk) hl, C.tb _ hin, C.tb _ hse⟩ ⟨blind_pre, by rw [hCN]; exact hrecv, fun U hU hW => ⟨rfl, C.pre1 b d1 hU hW⟩⟩ rfl (by rw [List.length_map]; exact hn) (ls_size a) (by simp) (lv_room (k8 hst1 hk8)) d (lim_call L hle e1 e2)) fun H1 locs1 b1 d2 => K ls H1 locs1 a b1 d2 (Nat.le_trans e1 hle.1) (Nat.le_trans e2 hle.2)
      · cases q
theorem s_of_xI {E : Ex Int32} (h : SV cvoI mi Γ k pc pc' E) : SE cvI mi Γ k pc pc' E := h
theorem s_of_xL {E : Ex Int64} (h : SV cvoL mi Γ k pc pc' E) : SE cvL mi Γ k pc pc' E := h
theorem s_of_xR {E : Ex Nat} (h : SV cvoR mi Γ k pc pc' E) : SE cvR mi Γ k pc pc' E := h
/-- a new object and its constructor -/
def dNewC (cl : Nat) (D : Fr → St → Option (Unit × St)) : Ex Nat := fun _ h => match D (sR fr0 0 (hn h)) (wN h (cl, 0) (clN cl)) with
  | none => none
  | some (_, h2) => some (hn h, h2)
end
