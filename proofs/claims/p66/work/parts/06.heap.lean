/-! the heap's rows: the picture through reads, stores, makings -/
def inb (i : Int32) (n : Nat) : Bool := decide (0 ≤ i) && decide (i.toNatClampNeg < n)
theorem inb_in {i : Int32} {n : Nat} (h : inb i n = true) : vp_in i n := by
  simp only [inb, Bool.and_eq_true, decide_eq_true_eq] at h
  unfold vp_in
  intro q
  rcases q with q | q
  · exact absurd h.1 (by simpa using q)
  · omega
theorem al_dyn (κ : KX) {i : Nat} (h : n0 ≤ i) : al κ i = ksz κ + (i - n0) := if_neg (by omega)
theorem al_ne (κ : KX) {i j : Nat} (h : n0 ≤ i) (k : n0 ≤ j) (hne : i ≠ j) : al κ i ≠ al κ j := by rw [al_dyn κ h, al_dyn κ k]; omega
theorem rv_dyn (κ : KX) {i : Nat} (h : n0 ≤ i) : rv κ i = .ref (al κ i) := if_neg (by unfold n0 at h; omega)
theorem Rep.dyn {κ : KX} {h : St} {H : Heap} (hR : Rep κ h H) {r : Nat} (hk1 : (hk h r).1 < 18) : n0 ≤ r ∧ r < hn h ∧ va_at (kD κ) classes (al κ r, cellOf κ h r) H := by
  obtain ⟨h0, h1, h2, h3, h4⟩ := hR
  by_cases hlt : r < n0
  · exfalso
    rw [(h3 r hlt).1] at hk1
    unfold pK at hk1
    repeat (split at hk1; · simp at hk1)
    simp at hk1
  · by_cases hge : hn h ≤ r
    · rw [h4 r hge] at hk1
      exact absurd hk1 (by decide)
    · exact ⟨by omega, by omega, (h2 r (by omega) (by omega)).2⟩
theorem Rep.pre {κ : KX} {h : St} {H : Heap} (hR : Rep κ h H) {r : Nat} (hk1 : 18 ≤ (hk h r).1) (hk2 : (hk h r).1 < 99) : r < n0 ∧ hk h r = pK κ r ∧ ∀ k, hi h r k = pI κ r k := by
  obtain ⟨h0, h1, h2, h3, h4⟩ := hR
  by_cases hlt : r < n0
  · exact ⟨hlt, h3 r hlt⟩
  · exfalso
    by_cases hge : hn h ≤ r
    · rw [h4 r hge] at hk2
      exact absurd hk2 (by decide)
    · have := (h2 r (by omega) (by omega)).1
      omega
theorem fl_len (κ : KX) (h : St) (r c : Nat) : (flds κ h r c).length = clN c := by simp [flds]
theorem fl_get (κ : KX) (h : St) (r c k : Nat) (hk1 : k < clN c) : (flds κ h r c)[k]? = some (fvl κ h r k (ftag (clTy c k))) := by simp [flds, hk1]
theorem cell_obj {κ : KX} {h : St} {r : Nat} (hc : (hk h r).1 < 13) : cellOf κ h r = .inr ((hk h r).1, flds κ h r (hk h r).1) := if_pos hc
theorem cell_int {κ : KX} {h : St} {r t : Nat} (ht : t < 3) (hc : (hk h r).1 = 13 + t) : cellOf κ h r = .inl (kA κ t, (hk h r).2, .inl (hi h r)) := by
  unfold cellOf
  rw [if_neg (by omega), if_pos (by omega), hc, show 13 + t - 13 = t by omega]
theorem cell_long {κ : KX} {h : St} {r : Nat} (hc : (hk h r).1 = 16) : cellOf κ h r = .inl (kA κ 3, (hk h r).2, .inr (.inl (hl h r))) := by
  unfold cellOf
  rw [if_neg (by omega), if_neg (by omega), if_pos hc]
theorem cell_ref {κ : KX} {h : St} {r : Nat} (hc : (hk h r).1 = 17) : cellOf κ h r = .inl (kA κ 4, (hk h r).2, .inr (.inr (.inr (.inr fun j => if hr h r j = 0 then none else some (al κ (hr h r j)))))) := by
  unfold cellOf
  rw [if_neg (by omega), if_neg (by omega), if_neg (by omega)]
/-- the picture behind a store into r -/
theorem Rep.put {κ : KX} {h h' : St} {H H1 : Heap} {r : Nat} (hR : Rep κ h H) (h1 : n0 ≤ r) (h2 : r < hn h) (hat : va_at (kD κ) classes (al κ r, cellOf κ h' r) H1) (z : H1.size = H.size) (oq : ∀ q, q ≠ al κ r → H1[q]? = H[q]?) (en : hn h' = hn h) (ek : ∀ q, hk h' q = hk h q) (ec : ∀ q, q ≠ r → cellOf κ h' q = cellOf κ h q) (ei : ∀ q, q ≠ r → ∀ k, hi h' q k = hi h q k) : Rep κ h' H1 := by
  obtain ⟨g0, g1, g2, g3, g4⟩ := hR
  refine ⟨by rw [en]; exact g0, by rw [z, en]; exact g1, fun i a b => ?_, fun i a => ?_, fun i a => by rw [ek]; exact g4 i (by rw [en] at a; exact a)⟩
  · rw [en] at b
    rw [ek]
    refine ⟨(g2 i a b).1, ?_⟩
    by_cases hi : i = r
    · rw [hi]; exact hat
    · rw [ec i hi]
      exact (g2 i a b).2.kept (oq _ (al_ne κ a h1 hi))
  · rw [ek]
    exact ⟨(g3 i a).1, fun k => by rw [ei i (by omega)]; exact (g3 i a).2 k⟩
section
variable {mi : MI} {κ : KX} {p : Program} {l : Launch} {e : Env} {R : Room} {s : State} {m : MethodId} {args : Array Value} {below : List Frame} {meth : Method} {c : Code} {nb sb : Nat} {Q : State → Prop} {Γ : Gm} {f : Fr} {h : St} {st : List Value} {pc : Nat}
theorem CXT.exec (C : CXT mi κ p R s m args meth c) : p.tables.exec = Jvm.exec := C.1
theorem CXT.code (C : CXT mi κ p R s m args meth c) : c.code = mi.2.1 := C.2.1
theorem CXT.own (C : CXT mi κ p R s m args meth c) : s.vm.findClass mi.1 = some m.cls := C.2.2.2.1
theorem CXT.tb (C : CXT mi κ p R s m args meth c) : ∀ w ∈ TB, w.before args s = true := C.2.2.2.2.1
theorem CXT.K (C : CXT mi κ p R s m args meth c) : va_K (kD κ) classes (kT κ) s := C.2.2.2.2.2.1
theorem z_get (C : CXT mi κ p R s m args meth c) {cl N : Nat} {CN : String} {T : u_T} {ty : Nat → FieldType} (ck : ClOK cl CN T N ty) {k idx r : Nat} (hk1 : k < N) (hl : Cond.fieldLink mi.1 idx (T k).1 (T k).2.1 (T k).2.2.1 ∈ TB) (d : decode mi.2.1 pc = .ok (.getfield idx, 3)) (hc : (hk h r).1 = cl)
    (K : GO mi κ p l e R s m args below meth c nb sb Q Γ (pc + 3) f h (fvl κ h r k (ftag (ty k)) :: st)) : GO mi κ p l e R s m args below meth c nb sb Q Γ pc f h (rv κ r :: st) := by
  intro ls H locs a b d1 e1 e2
  obtain ⟨c13, hcl, hin, -, -, hN, hT⟩ := ck
  have hlt : (hk h r).1 < 18 := by omega
  obtain ⟨r1, r2, hat⟩ := b.dyn hlt
  rw [rv_dyn κ r1]
  rw [cell_obj (by omega), hc] at hat
  refine va_get C.exec C.code C.tb hin C.own C.K (ws := [(al κ r, .inr (cl, flds κ h r cl))]) (fun k q hq => ?_) 0 rfl hcl k hk1 (C.tb _ hl) (fun _ z => z) (v := fvl κ h r k (ftag (ty k))) ?_ d (K ls H locs a b d1 e1 e2)
  · have hz : k < 1 := (List.getElem?_eq_some_iff.mp hq).1
    rw [show k = 0 by omega] at hq
    cases hq
    exact hat
  · rw [fl_get κ h r cl k (by omega), hT]
theorem one_P {D : va_G} {cl : List vw_C} {q : Nat × va_E} {H : Heap} (h : va_at D cl q H) : va_P D cl [q] H := by
  intro k x hx
  have hz : k < 1 := (List.getElem?_eq_some_iff.mp hx).1
  rw [show k = 0 by omega] at hx
  cases hx
  exact h
theorem z_iald (C : CXT mi κ p R s m args meth c) {r : Nat} {i : Int32} (hc : (hk h r).1 = 13 ∨ (hk h r).1 = 18) (hi1 : inb i (hk h r).2 = true) (d : decode mi.2.1 pc = .ok (.iaload, 1))
    (K : GO mi κ p l e R s m args below meth c nb sb Q Γ (pc + 1) f h (.int (hi h r i.toNatClampNeg) :: st)) : GO mi κ p l e R s m args below meth c nb sb Q Γ pc f h (.int i :: rv κ r :: st) := by
  intro ls H locs a b d1 e1 e2
  rcases hc with hc | hc
  · obtain ⟨r1, r2, hat⟩ := b.dyn (r := r) (by omega)
    rw [rv_dyn κ r1]
    rw [cell_int (t := 0) (by omega) hc] at hat
    exact va_iald C.exec C.code C.K (one_P hat) 0 0 rfl rfl (inb_in hi1) d (K ls H locs a b d1 e1 e2)
  · obtain ⟨r1, r2, r3⟩ := b.pre (r := r) (by omega) (by omega)
    have hp := C.2.2.2.2.2.2.2.1.1 r r1 (by rw [← r2]; exact hc)
    have hr0 : r ≠ 0 := by
      intro z
      rw [r2, z] at hc
      cases hc
    have ha : rv κ r = .ref (kpre κ r) := by unfold rv al; rw [if_neg hr0, if_pos r1]
    rw [ha]
    refine va_ti C.exec C.code hp d1 (i := i) (by rw [← r2]; exact inb_in hi1) rfl d ?_
    show W _ _ _ _ _ _ _ _ _ _ _ _ _ _ _ (F0 m (pc + 1) ls (.int (pI κ r i.toNatClampNeg) :: st))
    rw [← r3]
    exact K ls H locs a b d1 e1 e2
theorem z_bald (C : CXT mi κ p R s m args meth c) {r : Nat} {i : Int32} (hc : (hk h r).1 = 14 ∨ (hk h r).1 = 20) (hi1 : inb i (hk h r).2 = true) (d : decode mi.2.1 pc = .ok (.baload, 1))
    (K : GO mi κ p l e R s m args below meth c nb sb Q Γ (pc + 1) f h (.int (hi h r i.toNatClampNeg) :: st)) : GO mi κ p l e R s m args below meth c nb sb Q Γ pc f h (.int i :: rv κ r :: st) := by
  intro ls H locs a b d1 e1 e2
  rcases hc with hc | hc
  · obtain ⟨r1, r2, hat⟩ := b.dyn (r := r) (by omega)
    rw [rv_dyn κ r1]
    rw [cell_int (t := 1) (by omega) hc] at hat
    exact va_bald C.exec C.code C.K (one_P hat) 0 1 rfl rfl (inb_in hi1) d (K ls H locs a b d1 e1 e2)
  · obtain ⟨r1, r2, r3⟩ := b.pre (r := r) (by omega) (by omega)
    have hp := C.2.2.2.2.2.2.2.1.2.1 r r1 (by rw [← r2]; exact hc)
    have hr0 : r ≠ 0 := by
      intro z
      rw [r2, z] at hc
      cases hc
    have ha : rv κ r = .ref (kpre κ r) := by unfold rv al; rw [if_neg hr0, if_pos r1]
    rw [ha]
    refine va_tb C.exec C.code hp d1 (i := i) (by rw [← r2]; exact inb_in hi1) rfl d ?_
    show W _ _ _ _ _ _ _ _ _ _ _ _ _ _ _ (F0 m (pc + 1) ls (.int (pI κ r i.toNatClampNeg) :: st))
    rw [← r3]
    exact K ls H locs a b d1 e1 e2
theorem z_lald (C : CXT mi κ p R s m args meth c) {r : Nat} {i : Int32} (hc : (hk h r).1 = 16) (hi1 : inb i (hk h r).2 = true) (d : decode mi.2.1 pc = .ok (.laload, 1))
    (K : GO mi κ p l e R s m args below meth c nb sb Q Γ (pc + 1) f h (.long (hl h r i.toNatClampNeg) :: st)) : GO mi κ p l e R s m args below meth c nb sb Q Γ pc f h (.int i :: rv κ r :: st) := by
  intro ls H locs a b d1 e1 e2
  obtain ⟨r1, r2, hat⟩ := b.dyn (r := r) (by omega)
  rw [rv_dyn κ r1]
  rw [cell_long hc] at hat
  exact va_lald C.exec C.code C.K (one_P hat) 0 3 rfl rfl (inb_in hi1) d (K ls H locs a b d1 e1 e2)
theorem rf_rv (κ : KX) (q : Nat) : va_rf (if q = 0 then none else some (al κ q)) = rv κ q := by
  unfold rv
  by_cases h : q = 0
  · rw [if_pos h, if_pos h]; rfl
  · rw [if_neg h, if_neg h]; rfl
theorem z_aald (C : CXT mi κ p R s m args meth c) {r : Nat} {i : Int32} (hc : (hk h r).1 = 17) (hi1 : inb i (hk h r).2 = true) (d : decode mi.2.1 pc = .ok (.aaload, 1))
    (K : GO mi κ p l e R s m args below meth c nb sb Q Γ (pc + 1) f h (rv κ (hr h r i.toNatClampNeg) :: st)) : GO mi κ p l e R s m args below meth c nb sb Q Γ pc f h (.int i :: rv κ r :: st) := by
  intro ls H locs a b d1 e1 e2
  obtain ⟨r1, r2, hat⟩ := b.dyn (r := r) (by omega)
  rw [rv_dyn κ r1]
  rw [cell_ref hc] at hat
  refine va_aldq C.exec C.code C.K (one_P hat) 0 4 rfl rfl (inb_in hi1) d ?_
  rw [rf_rv]
  exact K ls H locs a b d1 e1 e2
theorem z_alen (C : CXT mi κ p R s m args meth c) {r : Nat} (hc : 13 ≤ (hk h r).1 ∧ (hk h r).1 ≤ 18 ∨ (hk h r).1 = 20) (d : decode mi.2.1 pc = .ok (.arraylength, 1))
    (K : GO mi κ p l e R s m args below meth c nb sb Q Γ (pc + 1) f h (.int (Int32.ofNat (hk h r).2) :: st)) : GO mi κ p l e R s m args below meth c nb sb Q Γ pc f h (rv κ r :: st) := by
  intro ls H locs a b d1 e1 e2
  have k1 := K ls H locs a b d1 e1 e2
  by_cases hlt : (hk h r).1 < 18
  · obtain ⟨r1, r2, hat⟩ := b.dyn (r := r) (by omega)
    rw [rv_dyn κ r1]
    rcases (show (hk h r).1 = 13 + 0 ∨ (hk h r).1 = 13 + 1 ∨ (hk h r).1 = 13 + 2 ∨ (hk h r).1 = 16 ∨ (hk h r).1 = 17 by omega) with q | q | q | q | q
    · rw [cell_int (by omega) q] at hat
      exact va_alen C.exec C.code C.K (one_P hat) 0 0 rfl rfl rfl d k1
    · rw [cell_int (by omega) q] at hat
      exact va_alen C.exec C.code C.K (one_P hat) 0 1 rfl rfl rfl d k1
    · rw [cell_int (by omega) q] at hat
      exact va_alen C.exec C.code C.K (one_P hat) 0 2 rfl rfl rfl d k1
    · rw [cell_long q] at hat
      exact va_alen C.exec C.code C.K (one_P hat) 0 3 rfl rfl rfl d k1
    · rw [cell_ref q] at hat
      exact va_alen C.exec C.code C.K (one_P hat) 0 4 rfl rfl rfl d k1
  · obtain ⟨r1, r2, r3⟩ := b.pre (r := r) (by omega) (by omega)
    have hr0 : r ≠ 0 := by
      intro z
      rw [r2, z] at hc
      simp [pK] at hc
    have ha : rv κ r = .ref (kpre κ r) := by unfold rv al; rw [if_neg hr0, if_pos r1]
    rw [ha]
    rw [r2] at k1
    rcases (show (hk h r).1 = 18 ∨ (hk h r).1 = 20 by omega) with q | q
    · exact va_tlen C.exec C.code (C.2.2.2.2.2.2.2.1.1 r r1 (by rw [← r2]; exact q)) d1 rfl d k1
    · exact va_tlen C.exec C.code (C.2.2.2.2.2.2.2.1.2.1 r r1 (by rw [← r2]; exact q)) d1 rfl d k1
-- stores
theorem va_S.ok {A : Nat → Prop} {H0 H H1 : Heap} {locs : List Loc} {a k : Nat} (h : va_S A H0 H locs) (z : H1.size = H.size) (oq : ∀ q : Nat, q ≠ a → H1[q]? = H[q]?) (ha : A a) : va_S A H0 H1 (locs ++ [⟨a, k⟩]) := h.put z oq ha
theorem aq_dyn (κ : KX) {r : Nat} (h : n0 ≤ r) : AQ κ (al κ r) := by
  unfold AQ
  rw [al_dyn κ h]
  omega
theorem ec_wI (κ : KX) (h : St) (r k : Nat) (v : Int32) (q : Nat) (hq : q ≠ r) : cellOf κ (wI h r k v) q = cellOf κ h q := by
  have e : hi (wI h r k v) q = hi h q := by
    funext j
    simp [hi, wI, hq]
  have e2 : ∀ c, flds κ (wI h r k v) q c = flds κ h q c := fun c => by
    unfold flds fvl
    rw [e]
    rfl
  unfold cellOf
  rw [e, e2]
  rfl
theorem ec_wL (κ : KX) (h : St) (r k : Nat) (v : Int64) (q : Nat) (hq : q ≠ r) : cellOf κ (wL h r k v) q = cellOf κ h q := by
  have e : hl (wL h r k v) q = hl h q := by
    funext j
    simp [hl, wL, hq]
  have e2 : ∀ c, flds κ (wL h r k v) q c = flds κ h q c := fun c => by
    unfold flds fvl
    rw [e]
    rfl
  unfold cellOf
  rw [e, e2]
  rfl
theorem ec_wR (κ : KX) (h : St) (r k : Nat) (v : Nat) (q : Nat) (hq : q ≠ r) : cellOf κ (wR h r k v) q = cellOf κ h q := by
  have e : hr (wR h r k v) q = hr h q := by
    funext j
    simp [hr, wR, hq]
  have e2 : ∀ c, flds κ (wR h r k v) q c = flds κ h q c := fun c => by
    unfold flds fvl
    rw [e]
    rfl
  unfold cellOf
  rw [e, e2]
  rfl
theorem hi_wI (h : St) (r k : Nat) (v : Int32) (q j : Nat) : hi (wI h r k v) q j = if q = r ∧ j = k then v else hi h q j := rfl
theorem hl_wL (h : St) (r k : Nat) (v : Int64) (q j : Nat) : hl (wL h r k v) q j = if q = r ∧ j = k then v else hl h q j := rfl
theorem hr_wR (h : St) (r k : Nat) (v : Nat) (q j : Nat) : hr (wR h r k v) q j = if q = r ∧ j = k then v else hr h q j := rfl
theorem z_iast (C : CXT mi κ p R s m args meth c) {r : Nat} {i x : Int32} (hc : (hk h r).1 = 13) (hi1 : inb i (hk h r).2 = true) (d : decode mi.2.1 pc = .ok (.iastore, 1))
    (K : GO mi κ p l e R s m args below meth c nb sb Q Γ (pc + 1) f (wI h r i.toNatClampNeg x) st) : GO mi κ p l e R s m args below meth c nb sb Q Γ pc f h (.int x :: .int i :: rv κ r :: st) := by
  intro ls H locs a b d1 e1 e2
  obtain ⟨r1, r2, hat⟩ := b.dyn (r := r) (by omega)
  rw [rv_dyn κ r1]
  rw [cell_int (t := 0) (by omega) hc] at hat
  refine W.iast C.exec C.code hat ((C.K.2 0 _ rfl).1 _ (fun j => .int (hi h r j))) (fun q => by cases q) (by show ¬ (i < 0 ∨ (arrV _ _ _).slots.size ≤ _); rw [arrV_size]; exact inb_in hi1) rfl rfl d fun H1 e z oq => ?_
  refine K ls H1 _ a (b.put r1 r2 ?_ z oq rfl (fun _ => rfl) (ec_wI κ h r _ x) (fun q hq k => by simp [hi, wI, hq])) (d1.ok z oq (aq_dyn κ r1)) e1 e2
  rw [cell_int (t := 0) (by omega) (show (hk (wI h r i.toNatClampNeg x) r).1 = 13 + 0 from hc)]
  show H1[al κ r]? = some (vp_cell _ _)
  rw [e]
  show some (Cell.setSlot (vp_cell _ _) _ _) = _
  rw [vp_cell_i, vp_cell_i, arrV_store]
  congr 2
  funext q
  by_cases hq : q = i.toNatClampNeg
  · subst hq
    simp [updV, hi_wI]
  · simp [updV, hi_wI, hq]
theorem z_bast (C : CXT mi κ p R s m args meth c) {r : Nat} {i x : Int32} (hc : (hk h r).1 = 14) (hi1 : inb i (hk h r).2 = true) (d : decode mi.2.1 pc = .ok (.bastore, 1))
    (K : GO mi κ p l e R s m args below meth c nb sb Q Γ (pc + 1) f (wI h r i.toNatClampNeg (vp_nar .byte x)) st) : GO mi κ p l e R s m args below meth c nb sb Q Γ pc f h (.int x :: .int i :: rv κ r :: st) := by
  intro ls H locs a b d1 e1 e2
  obtain ⟨r1, r2, hat⟩ := b.dyn (r := r) (by omega)
  rw [rv_dyn κ r1]
  rw [cell_int (t := 1) (by omega) hc] at hat
  refine W.bast C.exec C.code hat ((C.K.2 1 _ rfl).1 _ (fun j => .int (hi h r j))) (fun q => by cases q) (by show ¬ (i < 0 ∨ (arrV _ _ _).slots.size ≤ _); rw [arrV_size]; exact inb_in hi1) rfl rfl d fun H1 e z oq => ?_
  refine K ls H1 _ a (b.put r1 r2 ?_ z oq rfl (fun _ => rfl) (ec_wI κ h r _ _) (fun q hq k => by simp [hi, wI, hq])) (d1.ok z oq (aq_dyn κ r1)) e1 e2
  rw [cell_int (t := 1) (by omega) (show (hk (wI h r i.toNatClampNeg (vp_nar .byte x)) r).1 = 13 + 1 from hc)]
  show H1[al κ r]? = some (vp_cell _ _)
  rw [e]
  show some (Cell.setSlot (vp_cell _ _) _ _) = _
  rw [vp_cell_i, vp_cell_i, arrV_store]
  congr 2
  funext q
  by_cases hq : q = i.toNatClampNeg
  · subst hq
    simp [updV, hi_wI, vp_nar]
    try rfl
  · simp [updV, hi_wI, hq]
theorem z_last (C : CXT mi κ p R s m args meth c) {r : Nat} {i : Int32} {x : Int64} (hc : (hk h r).1 = 16) (hi1 : inb i (hk h r).2 = true) (d : decode mi.2.1 pc = .ok (.lastore, 1))
    (K : GO mi κ p l e R s m args below meth c nb sb Q Γ (pc + 1) f (wL h r i.toNatClampNeg x) st) : GO mi κ p l e R s m args below meth c nb sb Q Γ pc f h (.long x :: .int i :: rv κ r :: st) := by
  intro ls H locs a b d1 e1 e2
  obtain ⟨r1, r2, hat⟩ := b.dyn (r := r) (by omega)
  rw [rv_dyn κ r1]
  rw [cell_long hc] at hat
  refine W.last C.exec C.code hat ((C.K.2 3 _ rfl).1 _ (fun j => .long (hl h r j))) (fun q => by cases q) (by show ¬ (i < 0 ∨ (arrV _ _ _).slots.size ≤ _); rw [arrV_size]; exact inb_in hi1) rfl rfl d fun H1 e z oq => ?_
  refine K ls H1 _ a (b.put r1 r2 ?_ z oq rfl (fun _ => rfl) (ec_wL κ h r _ _) (fun q hq k => rfl)) (d1.ok z oq (aq_dyn κ r1)) e1 e2
  rw [cell_long (show (hk (wL h r i.toNatClampNeg x) r).1 = 16 from hc)]
  show H1[al κ r]? = some (vp_cell _ _)
  rw [e]
  show some (Cell.setSlot (vp_cell _ _) _ _) = _
  rw [vp_cell_l, vp_cell_l, arrV_store]
  congr 2
  funext q
  by_cases hq : q = i.toNatClampNeg
  · subst hq
    simp [updV, hl_wL]
  · simp [updV, hl_wL, hq]
/-- a Port into the array of images -/
theorem z_aast (C : CXT mi κ p R s m args meth c) {r x : Nat} {i : Int32} (hc : (hk h r).1 = 17) (hi1 : inb i (hk h r).2 = true) (hx : (hk h x).1 = 5) (d : decode mi.2.1 pc = .ok (.aastore, 1))
    (K : GO mi κ p l e R s m args below meth c nb sb Q Γ (pc + 1) f (wR h r i.toNatClampNeg x) st) : GO mi κ p l e R s m args below meth c nb sb Q Γ pc f h (rv κ x :: .int i :: rv κ r :: st) := by
  intro ls H locs a b d1 e1 e2
  obtain ⟨r1, r2, hat⟩ := b.dyn (r := r) (by omega)
  obtain ⟨x1, x2, hax⟩ := b.dyn (r := x) (by omega)
  rw [rv_dyn κ r1, rv_dyn κ x1]
  rw [cell_ref hc] at hat
  rw [cell_obj (by omega), hx] at hax
  have hin := inb_in hi1
  have hlt : i.toNatClampNeg < (hk h r).2 := Nat.not_le.mp fun q => hin (Or.inr q)
  have h0 : ¬ i < 0 := fun q => hin (Or.inl q)
  obtain ⟨r', hr', cellV, g1, g2, g3, -⟩ := hax
  have hcls := (C.K.1 5 (RX5, TX5, 17) rfl).2
  obtain ⟨kA1, comp, k1, k2, k3, -⟩ := (C.K.2 4 _ rfl).2
  have hcomp : comp = (kD κ).1 5 := Option.some.inj (k3.symm.trans hcls.1)
  subst hcomp
  obtain ⟨kC, hkC, -⟩ := hcls.2
  refine W.aast C.exec C.code hat (fun q h => by cases h) (fun h => by cases h) k1 k2 rfl hkC ⟨h0, by show _ < (arrV _ _ _).slots.size; rw [arrV_size]; exact hlt⟩ g1 (fun q h => by rw [g3] at h; cases h) (by rw [g2]; exact hkC) (by rw [g2]; exact va_assign hcls) rfl rfl d fun H1 e z oq => ?_
  refine K ls H1 _ a (b.put r1 r2 ?_ z oq rfl (fun _ => rfl) (ec_wR κ h r _ _) (fun q hq k => rfl)) (d1.ok z oq (aq_dyn κ r1)) e1 e2
  rw [cell_ref (show (hk (wR h r i.toNatClampNeg x) r).1 = 17 from hc)]
  show H1[al κ r]? = some (vp_cell _ _)
  rw [e]
  show some (Cell.setSlot (vp_cell _ _) _ _) = _
  rw [vp_cell_q, vp_cell_q, arrV_store]
  congr 2
  funext q
  have hx0 : x ≠ 0 := by unfold n0 at x1; omega
  by_cases hq : q = i.toNatClampNeg
  · subst hq
    simp [updV, va_rf, hr_wR, hx0]
  · simp [updV, hr_wR, hq]
-- fields
theorem fs_set {κ : KX} {h h' : St} {r cl k : Nat} {v : Value} (hk1 : k < clN cl) (hv : fvl κ h' r k (ftag (clTy cl k)) = v) (ho : ∀ j, j ≠ k → ∀ t, fvl κ h' r j t = fvl κ h r j t) : flds κ h' r cl = (flds κ h r cl).set k v := by
  apply List.ext_getElem?
  intro j
  by_cases hj : j < clN cl
  · rw [fl_get κ h' r cl j hj]
    by_cases hjk : j = k
    · subst hjk
      rw [List.getElem?_set_self (by rw [fl_len]; exact hj), hv]
    · rw [List.getElem?_set_ne (Ne.symm hjk), fl_get κ h r cl j hj, ho j hjk]
  · rw [List.getElem?_eq_none (by rw [fl_len]; omega), List.getElem?_eq_none (by rw [List.length_set, fl_len]; omega)]
theorem z_put (C : CXT mi κ p R s m args meth c) {cl N : Nat} {CN : String} {T : u_T} {ty : Nat → FieldType} (ck : ClOK cl CN T N ty) {k idx r : Nat} {v : Value} {h' : St} (hk1 : k < N) (hfin : (T k).2.2.2 = false ∨ ((T k).2.2.2 = true ∧ mi.2.2.2.2 = true ∧ (T k).1 = mi.1)) (hl : Cond.fieldLink mi.1 idx (T k).1 (T k).2.1 (T k).2.2.1 ∈ TB) (d : decode mi.2.1 pc = .ok (.putfield idx, 3)) (hc : (hk h r).1 = cl)
    (hn1 : narrow (ty k) v = v) (hft : fits (ty k) v = true)
    (en : hn h' = hn h) (ek : ∀ q, hk h' q = hk h q) (ec : ∀ q, q ≠ r → cellOf κ h' q = cellOf κ h q) (ei : ∀ q, q ≠ r → ∀ k, hi h' q k = hi h q k) (es : hs h' = hs h)
    (hv : fvl κ h' r k (ftag (ty k)) = v) (ho : ∀ j, j ≠ k → ∀ t, fvl κ h' r j t = fvl κ h r j t)
    (K : GO mi κ p l e R s m args below meth c nb sb Q Γ (pc + 3) f h' st) : GO mi κ p l e R s m args below meth c nb sb Q Γ pc f h (v :: rv κ r :: st) := by
  intro ls H locs a b d1 e1 e2
  obtain ⟨c13, hcl, hin, hty, hnm, hN, hT⟩ := ck
  obtain ⟨r1, r2, hat⟩ := b.dyn (r := r) (by omega)
  rw [rv_dyn κ r1]
  rw [cell_obj (by omega), hc] at hat
  have hap := va_apart (own := mi.1) C.tb hin ty hty hnm C.K hcl
  obtain ⟨r', h1, cell, q1, q2, q3, q4⟩ := hat
  have hr' : r' = (CN, T, N) := Option.some.inj (h1.symm.trans hcl)
  subst hr'
  obtain ⟨hS, hfc, kC, hkC, hkind⟩ := C.K.1 cl _ hcl
  obtain ⟨cf, kf, fi, fd, hi2, hsl⟩ := hS k hk1
  have hlay := C.tb _ (hin _ (u_in_lay hk1))
  unfold u_lay at hlay
  have hst := (u_facts hfc hkC (u_lays C.tb hin hk1) hi2).1
  have fin : ∀ H' : Heap, H'[al κ r]? = some (cell.setSlot fd.slot v) → H'.size = H.size → (∀ q, q ≠ al κ r → H'[q]? = H[q]?) → W p l e R s m args below meth c H' (locs ++ [⟨al κ r, fd.slot⟩]) (hn h - nb) (hs h - sb) Q (F0 m (pc + 3) ls st) := by
    intro H' g1 g2 g3
    rw [← en, ← es]
    refine K ls H' _ a (b.put r1 r2 ?_ g2 g3 en ek ec ei) (d1.ok g2 g3 (aq_dyn κ r1)) (by rw [en]; exact e1) (by rw [es]; exact e2)
    rw [cell_obj (by rw [ek]; omega), ek, hc]
    refine ⟨_, hcl, ?_⟩
    rw [hsl] at g1
    have hkl : k < clN cl := by omega
    refine t_OB.to (V := updV (vp_V (flds κ h r cl)) k v) ⟨_, g1, q2, q3, t_set q4 hap hk1 v⟩ fun j _ => ?_
    have hset := fs_set (κ := κ) (h := h) (h' := h') (r := r) (cl := cl) (k := k) (v := v) hkl (by rw [hT]; exact hv) ho
    rw [hset]
    exact vp_updV_set (by rw [fl_len]; exact hkl) v j
  rcases hfin with hf | ⟨hf, hini, hdecl⟩
  · rw [if_neg (by rw [hf]; decide)] at hlay
    have h6 := u_store hfc hkC hkind hlay hi2 (hty k hk1) hn1 hft
    exact W.putK C.exec C.code (f := fd) ⟨C.own, C.tb _ hl, ⟨_, _, _, hi2⟩, hst⟩ (by rw [q2]; exact h6) q1 q3 (by rw [hsl]; exact k2_hasslot (q4 k hk1)) rfl rfl d fin
  · rw [if_pos hf] at hlay
    have hcf : m.cls = cf := by
      obtain ⟨_, _, c', _, _, _, -, -, hf', -, -, -, hown2, -⟩ := Cond.laysFinal_spec hlay
      have e1 : c' = cf := by have := hi2.symm.trans hf'; simp at this; exact this.1.symm
      rw [hdecl] at hown2
      rw [← e1]; exact Option.some.inj (C.own.symm.trans hown2)
    have h6 := u_fits hfc hkC hkind (Or.inr hlay) hi2 (hty k hk1) hn1 hft
    exact W.putFinK C.exec C.code C.own (C.tb _ hl) hi2 hst hcf (C.2.2.2.2.2.2.2.2.2.2 hini) (by rw [q2]; exact h6) q1 q3 (by rw [hsl]; exact k2_hasslot (q4 k hk1)) rfl rfl d fin
end
