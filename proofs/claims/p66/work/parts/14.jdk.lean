/-! what the JDK's own members do: constants, copies, texts -/
def cpI (h : St) (r0 sp r1 dp n : Nat) : St := (fun q => if q = r1 then va_cpy (h.1 r0) (h.1 r1) sp dp n else h.1 q, h.2.1, h.2.2.1, h.2.2.2.1, h.2.2.2.2.1, h.2.2.2.2.2)
def cpL (h : St) (r0 sp r1 dp n : Nat) : St := (h.1, fun q => if q = r1 then va_cpy (h.2.1 r0) (h.2.1 r1) sp dp n else h.2.1 q, h.2.2.1, h.2.2.2.1, h.2.2.2.2.1, h.2.2.2.2.2)
def cpF (t : Nat) (g : Fr) (h : St) : Option St :=
  if (hk h (gR g 0)).1 = t ∧ (hk h (gR g 2)).1 = t ∧ 0 ≤ gI g 1 ∧ 0 ≤ gI g 3 ∧ 0 ≤ gI g 4 ∧ (gI g 1).toNatClampNeg + (gI g 4).toNatClampNeg ≤ (hk h (gR g 0)).2 ∧ (gI g 3).toNatClampNeg + (gI g 4).toNatClampNeg ≤ (hk h (gR g 2)).2
  then some (if t = 13 then cpI h (gR g 0) (gI g 1).toNatClampNeg (gR g 2) (gI g 3).toNatClampNeg (gI g 4).toNatClampNeg else cpL h (gR g 0) (gI g 1).toNatClampNeg (gR g 2) (gI g 3).toNatClampNeg (gI g 4).toNatClampNeg) else none
def dCp {α : Type} (t : Nat) (A : Ag) : Sm α := fun f h => ob (A f h) fun q => ob (cpF t q.1 q.2) fun h2 => some (.inl 0, f, h2)
theorem cpF_le {t : Nat} {g : Fr} {h h2 : St} (q : cpF t g h = some h2) : LE h h2 := by
  unfold cpF at q
  split at q
  · cases q
    split
    · exact LE.rf _
    · exact LE.rf _
  · cases q
theorem n0_le {z : Int32} (h : 0 ≤ z) : ¬ z < 0 := Int32.not_lt.mpr h
theorem nn_eq : ∀ z : Int32, ¬ z < 0 → z.toInt = (z.toNatClampNeg : Int) := by
  intro z hz
  have hz0 : (0 : Int) ≤ z.toInt := by
    have := Int32.not_lt.mp hz
    simpa using Int32.le_iff_toInt_le.mp this
  show z.toInt = ((z.toInt.toNat : Nat) : Int)
  omega
section
variable {mi : MI} {κ : KX} {p : Program} {l : Launch} {e : Env} {R : Room} {s : State} {m : MethodId} {args : Array Value} {below : List Frame} {meth : Method} {c : Code} {nb sb : Nat} {Q : State → Prop} {Γ : Gm} {f : Fr} {h : St} {st : List Value} {pc : Nat}
theorem z_cpI (C : CXT mi κ p R s m args meth c) {r0 r1 idx : Nat} {sp dp n : Int32} (hc0 : (hk h r0).1 = 13) (hc1 : (hk h r1).1 = 13) (h1 : 0 ≤ sp) (h2 : 0 ≤ dp) (h3 : 0 ≤ n) (h4 : sp.toNatClampNeg + n.toNatClampNeg ≤ (hk h r0).2) (h5 : dp.toNatClampNeg + n.toNatClampNeg ≤ (hk h r1).2) (hst : st = []) (hr : Nat.ble 1 mi.2.2.2.1 = true)
    (hlink : Cond.methodLink mi.1 idx arraycopyName ∈ TB) (hnat : Cond.native arraycopyName ∈ TB) (hstat : Cond.static arraycopyName ∈ TB) (hini : Cond.initialized "java/lang/System" ∈ TB) (d : decode mi.2.1 pc = .ok (.invokestatic idx, 3))
    (K : GO mi κ p l e R s m args below meth c nb sb Q Γ (pc + 3) f (cpI h r0 sp.toNatClampNeg r1 dp.toNatClampNeg n.toNatClampNeg) st) : GO mi κ p l e R s m args below meth c nb sb Q Γ pc f h (.int n :: .int dp :: rv κ r1 :: .int sp :: rv κ r0 :: st) := by
  intro ls H locs a b d1 e1 e2
  obtain ⟨x1, x2, hat0⟩ := b.dyn (r := r0) (by omega)
  obtain ⟨y1, y2, hat1⟩ := b.dyn (r := r1) (by omega)
  rw [rv_dyn κ x1, rv_dyn κ y1]
  rw [cell_int (t := 0) (by omega) hc0] at hat0
  rw [cell_int (t := 0) (by omega) hc1] at hat1
  have g1 := n0_le h1
  have g2 := n0_le h2
  have g3 := n0_le h3
  have hr1 := C.2.2.2.2.2.2.2.2.1
  have hr2 := C.2.2.2.2.2.2.2.2.2.1
  have hr3 := Nat.le_of_ble_eq_true hr
  intro T hT X
  have hcc0 : H[al κ r0]? = some (vp_cell (kA κ 0) ((hk h r0).2, .inl (hi h r0))) := hat0
  have hcc1 : H[al κ r1]? = some (vp_cell (kA κ 0) ((hk h r1).2, .inl (hi h r1))) := hat1
  obtain ⟨-, k0, hk0, cm0, hkk0⟩ := (C.K.2 0 _ rfl).1 (hk h r0).2 (fun j => .int (hi h r0 j))
  obtain ⟨vm', X', step⟩ := X.arraycopy C.exec C.own (C.tb _ hlink) (C.tb _ hnat) (C.tb _ hstat) (C.tb _ hini) (src := al κ r0) (dst := al κ r1) (cs := vp_cell (kA κ 0) ((hk h r0).2, .inl (hi h r0))) (cd := vp_cell (kA κ 0) ((hk h r1).2, .inl (hi h r1))) (srcPos := sp) (destPos := dp) (n := n) (by rw [hT]; exact hcc0) (by rw [hT]; exact hcc1)
    (fun _ h => by cases h) (fun _ h => by cases h) (fun h => by cases h) (fun h => by cases h) hk0 hk0 hkk0 hkk0 (by simp [refKind]) g1 g2 g3
    (by rw [nn_eq sp g1, nn_eq n g3]; show ¬ _ > ((arrV (kA κ 0) (hk h r0).2 (fun j => .int (hi h r0 j))).slots.size : Int); rw [arrV_size]; omega)
    (by rw [nn_eq dp g2, nn_eq n g3]; show ¬ _ > ((arrV (kA κ 0) (hk h r1).2 (fun j => .int (hi h r1 j))).slots.size : Int); rw [arrV_size]; omega)
    (fun vm₁ _ i hi1 => by
      have e : (vp_cell (kA κ 0) ((hk h r0).2, .inl (hi h r0))).slots.getD (sp.toNatClampNeg + i) .null = .int (hi h r0 (sp.toNatClampNeg + i)) := by
        show (arrV (kA κ 0) (hk h r0).2 (fun j => .int (hi h r0 j))).slots.getD _ _ = _
        rw [Array.getD_eq_getD_getElem?, arrV_read _ _ (by omega)]
        rfl
      refine ⟨?_, ?_⟩
      · rw [e]
        rfl
      · rw [e]
        exact trivial)
    (g := F0 m pc ls (.int n :: .int dp :: .ref (al κ r1) :: .int sp :: .ref (al κ r0) :: st)) rfl (by rw [C.2.2.1]; exact a.1) (rest := st) rfl (by rw [C.code]; exact d) (by omega) (by
      rw [hst]
      have hw : nativeFrameWords "java/lang/System" "arraycopy" 5 = 7 := rfl
      show 2 * 0 + 0 + (nativeFrameWords "java/lang/System" "arraycopy" 5 + 11) ≤ _
      rw [hw]
      omega)
  have e3 : copied (vp_cell (kA κ 0) ((hk h r0).2, .inl (hi h r0))) (vp_cell (kA κ 0) ((hk h r1).2, .inl (hi h r1))) sp dp n = vp_cell (kA κ 0) ((hk h r1).2, .inl (va_cpy (hi h r0) (hi h r1) sp.toNatClampNeg dp.toNatClampNeg n.toNatClampNeg)) := va_copied (fun z => .int z) _ _ (hi h r0) (hi h r1) h4
  rw [e3] at X' step
  have hl : al κ r1 < H.size := (Array.getElem?_eq_some_iff.mp hcc1).1
  have hheap : ((T.setVm vm').setCell (al κ r1) (vp_cell (kA κ 0) ((hk h r1).2, .inl (va_cpy (hi h r0) (hi h r1) sp.toNatClampNeg dp.toNatClampNeg n.toNatClampNeg)))).heap = H.setIfInBounds (al κ r1) (vp_cell (kA κ 0) ((hk h r1).2, .inl (va_cpy (hi h r0) (hi h r1) sp.toNatClampNeg dp.toNatClampNeg n.toNatClampNeg))) := by rw [← hT]; rfl
  have oq : ∀ q : Nat, q ≠ al κ r1 → (H.setIfInBounds (al κ r1) (vp_cell (kA κ 0) ((hk h r1).2, .inl (va_cpy (hi h r0) (hi h r1) sp.toNatClampNeg dp.toNatClampNeg n.toNatClampNeg))))[q]? = H[q]? := fun q hq => by simp [Array.getElem?_setIfInBounds, Ne.symm hq]
  have ei : ∀ q, q ≠ r1 → hi (cpI h r0 sp.toNatClampNeg r1 dp.toNatClampNeg n.toNatClampNeg) q = hi h q := fun q hq => by
    show (if q = r1 then _ else h.1 q) = h.1 q
    rw [if_neg hq]
  have ec : ∀ q, q ≠ r1 → cellOf κ (cpI h r0 sp.toNatClampNeg r1 dp.toNatClampNeg n.toNatClampNeg) q = cellOf κ h q := fun q hq => by
    have e2 : ∀ c, flds κ (cpI h r0 sp.toNatClampNeg r1 dp.toNatClampNeg n.toNatClampNeg) q c = flds κ h q c := fun c => by
      unfold flds fvl
      rw [ei q hq]
      rfl
    unfold cellOf
    rw [ei q hq, e2]
    rfl
  obtain ⟨t, a1, b1⟩ := K ls _ _ a (b.put (h' := cpI h r0 sp.toNatClampNeg r1 dp.toNatClampNeg n.toNatClampNeg) y1 y2 (by
      rw [cell_int (t := 0) (by omega) (show (hk (cpI h r0 sp.toNatClampNeg r1 dp.toNatClampNeg n.toNatClampNeg) r1).1 = 13 + 0 from hc1)]
      show (H.setIfInBounds (al κ r1) _)[al κ r1]? = some _
      have e5 : hi (cpI h r0 sp.toNatClampNeg r1 dp.toNatClampNeg n.toNatClampNeg) r1 = va_cpy (hi h r0) (hi h r1) sp.toNatClampNeg dp.toNatClampNeg n.toNatClampNeg := by
        show (if r1 = r1 then _ else _) = _
        rw [if_pos rfl]
        rfl
      rw [e5]
      simp [Array.getElem?_setIfInBounds, hl]
      rfl) (by simp) oq rfl (fun _ => rfl) ec (fun q hq k => by rw [ei q hq])) ⟨by simp; exact d1.1, fun q g1 g2 => by
      rw [oq q (fun e => g2 (by rw [e]; exact aq_dyn κ y1))]
      exact d1.2.1 q g1 g2, fun q hq => by
      rcases List.mem_append.mp hq with h | h
      · exact d1.2.2 q h
      · obtain ⟨z, -, hz⟩ := List.mem_map.mp h
        rw [← hz]
        exact aq_dyn κ y1⟩ e1 e2 _ hheap X'
  exact ⟨t, step t a1, b1⟩
theorem z_cpL (C : CXT mi κ p R s m args meth c) {r0 r1 idx : Nat} {sp dp n : Int32} (hc0 : (hk h r0).1 = 16) (hc1 : (hk h r1).1 = 16) (h1 : 0 ≤ sp) (h2 : 0 ≤ dp) (h3 : 0 ≤ n) (h4 : sp.toNatClampNeg + n.toNatClampNeg ≤ (hk h r0).2) (h5 : dp.toNatClampNeg + n.toNatClampNeg ≤ (hk h r1).2) (hst : st = []) (hr : Nat.ble 1 mi.2.2.2.1 = true)
    (hlink : Cond.methodLink mi.1 idx arraycopyName ∈ TB) (hnat : Cond.native arraycopyName ∈ TB) (hstat : Cond.static arraycopyName ∈ TB) (hini : Cond.initialized "java/lang/System" ∈ TB) (d : decode mi.2.1 pc = .ok (.invokestatic idx, 3))
    (K : GO mi κ p l e R s m args below meth c nb sb Q Γ (pc + 3) f (cpL h r0 sp.toNatClampNeg r1 dp.toNatClampNeg n.toNatClampNeg) st) : GO mi κ p l e R s m args below meth c nb sb Q Γ pc f h (.int n :: .int dp :: rv κ r1 :: .int sp :: rv κ r0 :: st) := by
  intro ls H locs a b d1 e1 e2
  obtain ⟨x1, x2, hat0⟩ := b.dyn (r := r0) (by omega)
  obtain ⟨y1, y2, hat1⟩ := b.dyn (r := r1) (by omega)
  rw [rv_dyn κ x1, rv_dyn κ y1]
  rw [cell_long hc0] at hat0
  rw [cell_long hc1] at hat1
  have g1 := n0_le h1
  have g2 := n0_le h2
  have g3 := n0_le h3
  have hr1 := C.2.2.2.2.2.2.2.2.1
  have hr2 := C.2.2.2.2.2.2.2.2.2.1
  have hr3 := Nat.le_of_ble_eq_true hr
  intro T hT X
  have hcc0 : H[al κ r0]? = some (vp_cell (kA κ 3) ((hk h r0).2, .inr (.inl (hl h r0)))) := hat0
  have hcc1 : H[al κ r1]? = some (vp_cell (kA κ 3) ((hk h r1).2, .inr (.inl (hl h r1)))) := hat1
  obtain ⟨-, k0, hk0, cm0, hkk0⟩ := (C.K.2 3 _ rfl).1 (hk h r0).2 (fun j => .long (hl h r0 j))
  obtain ⟨vm', X', step⟩ := X.arraycopy C.exec C.own (C.tb _ hlink) (C.tb _ hnat) (C.tb _ hstat) (C.tb _ hini) (src := al κ r0) (dst := al κ r1) (cs := vp_cell (kA κ 3) ((hk h r0).2, .inr (.inl (hl h r0)))) (cd := vp_cell (kA κ 3) ((hk h r1).2, .inr (.inl (hl h r1)))) (srcPos := sp) (destPos := dp) (n := n) (by rw [hT]; exact hcc0) (by rw [hT]; exact hcc1)
    (fun _ h => by cases h) (fun _ h => by cases h) (fun h => by cases h) (fun h => by cases h) hk0 hk0 hkk0 hkk0 (by simp [refKind]) g1 g2 g3
    (by rw [nn_eq sp g1, nn_eq n g3]; show ¬ _ > ((arrV (kA κ 3) (hk h r0).2 (fun j => .long (hl h r0 j))).slots.size : Int); rw [arrV_size]; omega)
    (by rw [nn_eq dp g2, nn_eq n g3]; show ¬ _ > ((arrV (kA κ 3) (hk h r1).2 (fun j => .long (hl h r1 j))).slots.size : Int); rw [arrV_size]; omega)
    (fun vm₁ _ i hi1 => by
      have e : (vp_cell (kA κ 3) ((hk h r0).2, .inr (.inl (hl h r0)))).slots.getD (sp.toNatClampNeg + i) .null = .long (hl h r0 (sp.toNatClampNeg + i)) := by
        show (arrV (kA κ 3) (hk h r0).2 (fun j => .long (hl h r0 j))).slots.getD _ _ = _
        rw [Array.getD_eq_getD_getElem?, arrV_read _ _ (by omega)]
        rfl
      refine ⟨?_, ?_⟩
      · rw [e]
        rfl
      · rw [e]
        exact trivial)
    (g := F0 m pc ls (.int n :: .int dp :: .ref (al κ r1) :: .int sp :: .ref (al κ r0) :: st)) rfl (by rw [C.2.2.1]; exact a.1) (rest := st) rfl (by rw [C.code]; exact d) (by omega) (by
      rw [hst]
      have hw : nativeFrameWords "java/lang/System" "arraycopy" 5 = 7 := rfl
      show 2 * 0 + 0 + (nativeFrameWords "java/lang/System" "arraycopy" 5 + 11) ≤ _
      rw [hw]
      omega)
  have e3 : copied (vp_cell (kA κ 3) ((hk h r0).2, .inr (.inl (hl h r0)))) (vp_cell (kA κ 3) ((hk h r1).2, .inr (.inl (hl h r1)))) sp dp n = vp_cell (kA κ 3) ((hk h r1).2, .inr (.inl (va_cpy (hl h r0) (hl h r1) sp.toNatClampNeg dp.toNatClampNeg n.toNatClampNeg))) := va_copied (fun z => .long z) _ _ (hl h r0) (hl h r1) h4
  rw [e3] at X' step
  have hl1 : al κ r1 < H.size := (Array.getElem?_eq_some_iff.mp hcc1).1
  have hheap : ((T.setVm vm').setCell (al κ r1) (vp_cell (kA κ 3) ((hk h r1).2, .inr (.inl (va_cpy (hl h r0) (hl h r1) sp.toNatClampNeg dp.toNatClampNeg n.toNatClampNeg))))).heap = H.setIfInBounds (al κ r1) (vp_cell (kA κ 3) ((hk h r1).2, .inr (.inl (va_cpy (hl h r0) (hl h r1) sp.toNatClampNeg dp.toNatClampNeg n.toNatClampNeg)))) := by rw [← hT]; rfl
  have oq : ∀ q : Nat, q ≠ al κ r1 → (H.setIfInBounds (al κ r1) (vp_cell (kA κ 3) ((hk h r1).2, .inr (.inl (va_cpy (hl h r0) (hl h r1) sp.toNatClampNeg dp.toNatClampNeg n.toNatClampNeg)))))[q]? = H[q]? := fun q hq => by simp [Array.getElem?_setIfInBounds, Ne.symm hq]
  have ei : ∀ q, q ≠ r1 → hl (cpL h r0 sp.toNatClampNeg r1 dp.toNatClampNeg n.toNatClampNeg) q = hl h q := fun q hq => by
    show (if q = r1 then _ else h.2.1 q) = h.2.1 q
    rw [if_neg hq]
  have ec : ∀ q, q ≠ r1 → cellOf κ (cpL h r0 sp.toNatClampNeg r1 dp.toNatClampNeg n.toNatClampNeg) q = cellOf κ h q := fun q hq => by
    have e2 : ∀ c, flds κ (cpL h r0 sp.toNatClampNeg r1 dp.toNatClampNeg n.toNatClampNeg) q c = flds κ h q c := fun c => by
      unfold flds fvl
      rw [ei q hq]
      rfl
    unfold cellOf
    rw [ei q hq, e2]
    rfl
  obtain ⟨t, a1, b1⟩ := K ls _ _ a (b.put (h' := cpL h r0 sp.toNatClampNeg r1 dp.toNatClampNeg n.toNatClampNeg) y1 y2 (by
      rw [cell_long (show (hk (cpL h r0 sp.toNatClampNeg r1 dp.toNatClampNeg n.toNatClampNeg) r1).1 = 16 from hc1)]
      show (H.setIfInBounds (al κ r1) _)[al κ r1]? = some _
      have e5 : hl (cpL h r0 sp.toNatClampNeg r1 dp.toNatClampNeg n.toNatClampNeg) r1 = va_cpy (hl h r0) (hl h r1) sp.toNatClampNeg dp.toNatClampNeg n.toNatClampNeg := by
        show (if r1 = r1 then _ else _) = _
        rw [if_pos rfl]
        rfl
      rw [e5]
      simp [Array.getElem?_setIfInBounds, hl1]
      rfl) (by simp) oq rfl (fun _ => rfl) ec (fun q hq k => rfl)) ⟨by simp; exact d1.1, fun q g1 g2 => by
      rw [oq q (fun e => g2 (by rw [e]; exact aq_dyn κ y1))]
      exact d1.2.1 q g1 g2, fun q hq => by
      rcases List.mem_append.mp hq with h | h
      · exact d1.2.2 q h
      · obtain ⟨z, -, hz⟩ := List.mem_map.mp h
        rw [← hz]
        exact aq_dyn κ y1⟩ e1 e2 _ hheap X'
  exact ⟨t, step t a1, b1⟩
end
section
variable {α : Type} {rt : (KX → α → Option Value) × Instr} {mi : MI} {ΓL ΓH Γ Γ' Γ'' : Gm} {PB PK X XA : List Nat} {k x pc pc' pn p1 p2 p3 p4 idx : Nat}
theorem t_cp {t : Nat} {A : Ag} (ht : t = 13 ∨ t = 16) (ha : SA mi Γ 0 pc p1 5 [(0, 2), (1, 0), (2, 2), (3, 0), (4, 0)] A) (hr : Nat.ble 1 mi.2.2.2.1 = true) (d : decode mi.2.1 p1 = .ok (.invokestatic idx, 3)) (hlink : Cond.methodLink mi.1 idx arraycopyName ∈ TB) (hnat : Cond.native arraycopyName ∈ TB) (hstat : Cond.static arraycopyName ∈ TB) (hini : Cond.initialized "java/lang/System" ∈ TB) (hs : gsub Γ Γ' = true) : SS rt mi ΓL PB PK Γ Γ' pc [p1 + 3] (dCp t A) := by
  refine ⟨fun f h o f' h' q => ?_, ?_⟩
  · obtain ⟨⟨g, h1⟩, q1, q⟩ := ob_some.mp q
    obtain ⟨h2, q2, q⟩ := ob_some.mp q
    cases q
    exact (ha.1 _ _ _ _ q1).tr (cpF_le q2)
  · intro κ p l e R s m args below meth c nb sb Q C f h o f' h' q L K0 _ _ _
    obtain ⟨⟨g, h1⟩, q1, q⟩ := ob_some.mp q
    obtain ⟨h2, q2, q⟩ := ob_some.mp q
    cases q
    refine ha.2.2 κ p l e R s m args below meth c nb sb Q C f h g h1 q1 (L.le (cpF_le q2)) [] (Nat.le_refl _) ?_
    have k1 := GO.gsb hs (K0 rfl _ (List.mem_singleton.mpr rfl))
    unfold cpF at q2
    split at q2
    · rename_i hc
      cases q2
      obtain ⟨a1, a2, a3, a4, a5, a6, a7⟩ := hc
      rcases ht with rfl | rfl
      · rw [if_pos rfl] at k1
        exact z_cpI C a1 a2 a3 a4 a5 a6 a7 rfl hr hlink hnat hstat hini d k1
      · rw [if_neg (by decide)] at k1
        exact z_cpL C a1 a2 a3 a4 a5 a6 a7 rfl hr hlink hnat hstat hini d k1
    · cases q2
theorem s_ldcw {i : Nat} {v : Int32} (d : decode mi.2.1 pc = .ok (.ldc_w i, 3)) (hw : Cond.constant mi.1 i v ∈ TB) : SE cvI mi Γ k pc (pc + 3) (cI v) := s_pure fun _ _ => fun _ _ _ _ _ _ _ _ _ _ _ _ _ _ _ _ a b t K => lv_ldcw a b t.1 (t.2 _ hw) d K
def o_i2c (x : Int32) : Int32 := (x.toUInt32 % 65536).toInt32
theorem s_i2c {A : Ex Int32} (ha : SE cvI mi Γ k pc p1 A) (d : decode mi.2.1 p1 = .ok (.i2c, 1)) : SE cvI mi Γ k pc (p1 + 1) (d1 o_i2c A) := s_d1 (fun _ _ _ => rulI fun a b K => lv_i2c a b d rfl K) ha
theorem s_cstr {i : Nat} (d : decode mi.2.1 pc = .ok (.getstatic i, 3)) (hl : Cond.fieldLink mi.1 i "java/lang/String" "COMPACT_STRINGS" "Z" ∈ TB) : SE cvI mi Γ k pc (pc + 3) (cI 1) := by
  refine ⟨fun f h v h' q => by cases q; exact LE.rf _, ?_⟩
  intro κ p l e R s m args below meth c nb sb Q C f h v h' q L st hst K
  cases q
  intro ls H locs a b d1 e1 e2
  exact va_gets C.exec C.code C.2.2.2.2.2.2.2.1.2.2.2.2.2.1 d1 C.own (C.tb _ hl) (fun _ z => z) d (K ls H locs a b d1 e1 e2)
/-- a text of the reader's -/
theorem s_ldcS (j : Nat) {i : Nat} (d : decode mi.2.1 pc = .ok (.ldc i, 2)) (hj : j < 14) (hm : mi.1 = RX6) (hi1 : tIdx j = i) : SE cvR mi Γ k pc (pc + 2) (cR (3 + j)) := by
  refine ⟨fun f h v h' q => by cases q; exact LE.rf _, ?_⟩
  intro κ p l e R s m args below meth c nb sb Q C f h v h' q L st hst K
  cases q
  intro ls H locs a b d1 e1 e2
  have k1 := K ls H locs a b d1 e1 e2
  have hz : rv κ (3 + j) = .ref (kpre κ (3 + j)) := by
    unfold rv al
    rw [if_neg (by omega), if_pos (by unfold n0; omega)]
  unfold cvR at k1
  rw [hz] at k1
  have hR := C.2.2.2.2.2.2.2.1.2.2.2.1 j hj
  rw [hi1, ← hm] at hR
  exact va_ldcS C.exec C.code C.own hR d k1
end
