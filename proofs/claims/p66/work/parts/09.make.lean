/-! makings: objects and arrays -/
def dNewA (t : Nat) (a : Ex Int32) : Ex Nat := fun f h => match a f h with
  | none => none
  | some (n, h1) => if 0 ≤ n ∧ n.toNatClampNeg ≤ 16777216 then some (hn h1, wN h1 (13 + t, n.toNatClampNeg) n.toNatClampNeg) else none
theorem wN_hi {h : St} {kd : Nat × Nat} {n q : Nat} (hq : q ≠ hn h) : hi (wN h kd n) q = hi h q := by funext j; simp [hi, wN, hq]
theorem wN_hl {h : St} {kd : Nat × Nat} {n q : Nat} (hq : q ≠ hn h) : hl (wN h kd n) q = hl h q := by funext j; simp [hl, wN, hq]
theorem wN_hr {h : St} {kd : Nat × Nat} {n q : Nat} (hq : q ≠ hn h) : hr (wN h kd n) q = hr h q := by funext j; simp [hr, wN, hq]
theorem wN_hk {h : St} {kd : Nat × Nat} {n q : Nat} (hq : q ≠ hn h) : hk (wN h kd n) q = hk h q := by simp [hk, wN, hq]
theorem wN_hk' {h : St} {kd : Nat × Nat} {n : Nat} : hk (wN h kd n) (hn h) = kd := by simp [hk, wN]
theorem wN_hi' {h : St} {kd : Nat × Nat} {n : Nat} : hi (wN h kd n) (hn h) = fun _ => 0 := by funext j; simp [hi, wN]
theorem wN_hl' {h : St} {kd : Nat × Nat} {n : Nat} : hl (wN h kd n) (hn h) = fun _ => 0 := by funext j; simp [hl, wN]
theorem wN_hr' {h : St} {kd : Nat × Nat} {n : Nat} : hr (wN h kd n) (hn h) = fun _ => 0 := by funext j; simp [hr, wN]
theorem wN_hn (h : St) (kd : Nat × Nat) (n : Nat) : hn (wN h kd n) = hn h + 1 := rfl
theorem wN_hs (h : St) (kd : Nat × Nat) (n : Nat) : hs (wN h kd n) = hs h + n := rfl
theorem wN_le (h : St) (kd : Nat × Nat) (n : Nat) : LE h (wN h kd n) := ⟨Nat.le_succ _, Nat.le_add_right _ _⟩
theorem Rep.push {κ : KX} {h : St} {H H1 : Heap} {kd : Nat × Nat} {n : Nat} (hR : Rep κ h H) (hkd : kd.1 < 18) (z : H1.size = H.size + 1) (oq : ∀ q, q < H.size → H1[q]? = H[q]?) (hat : va_at (kD κ) classes (H.size, cellOf κ (wN h kd n) (hn h)) H1) : Rep κ (wN h kd n) H1 := by
  obtain ⟨g0, g1, g2, g3, g4⟩ := hR
  refine ⟨by rw [wN_hn]; omega, by rw [z, wN_hn]; omega, fun i a b => ?_, fun i a => ?_, fun i a => ?_⟩
  · rw [wN_hn] at b
    by_cases hi2 : i = hn h
    · subst hi2
      rw [wN_hk', al_dyn κ a, ← g1]
      exact ⟨hkd, hat⟩
    · have hlt : i < hn h := by omega
      have ec : cellOf κ (wN h kd n) i = cellOf κ h i := by
        unfold cellOf flds fvl
        rw [wN_hk hi2, wN_hi hi2, wN_hl hi2, wN_hr hi2]
      rw [wN_hk hi2, ec]
      exact ⟨(g2 i a hlt).1, (g2 i a hlt).2.kept (oq _ (by rw [al_dyn κ a]; omega))⟩
  · rw [wN_hk (by omega), wN_hi (by omega)]
    exact g3 i a
  · rw [wN_hn] at a
    rw [wN_hk (by omega)]
    exact g4 i (by omega)
theorem va_S.new {A : Nat → Prop} {H0 H H1 : Heap} {locs : List Loc} (hS : va_S A H0 H locs) (z1 : H1.size = H.size + 1) (o1 : ∀ q, q < H.size → H1[q]? = H[q]?) : va_S A H0 H1 locs :=
  ⟨Nat.le_trans hS.1 (by omega), fun x h1 h2 => (o1 x (Nat.lt_of_lt_of_le h1 hS.1)).trans (hS.2.1 x h1 h2), hS.2.2⟩
section
variable {mi : MI} {κ : KX} {p : Program} {l : Launch} {e : Env} {R : Room} {s : State} {m : MethodId} {args : Array Value} {below : List Frame} {meth : Method} {c : Code} {nb sb : Nat} {Q : State → Prop} {Γ : Gm} {f : Fr} {h : St} {st : List Value} {pc : Nat}
theorem lim_new {kd : Nat × Nat} {n : Nat} (L : LIM R nb sb (wN h kd n)) (e1 : nb ≤ hn h) (e2 : sb ≤ hs h) : hn h - nb + 1 ≤ R.cells ∧ hs h - sb + n ≤ R.slots := by
  obtain ⟨a, b⟩ := L
  rw [wN_hn] at a
  rw [wN_hs] at b
  omega
theorem z_newa (C : CXT mi κ p R s m args meth c) {at1 : ArrayType} {t : Nat} {n : Int32} (ht : t < 4) (hty : (kT κ)[t]? = some (kA κ t, newarray.typeOf at1)) (hw : Cond.arrayClass (newarray.typeOf at1) ∈ TB) (hcb : componentBytes (newarray.typeOf at1) ≤ 8) (hdv : ∀ cA N, vp_cell cA (N, (if t = 3 then .inr (.inl fun _ => 0) else .inl fun _ => 0)) = arrV cA N (fun _ => defaultValue (newarray.typeOf at1)))
    (d : decode mi.2.1 pc = .ok (.newarray at1, 2)) (hn0 : 0 ≤ n) (hn1 : n.toNatClampNeg ≤ 16777216) (L : LIM R nb sb (wN h (13 + t, n.toNatClampNeg) n.toNatClampNeg))
    (K : GO mi κ p l e R s m args below meth c nb sb Q Γ (pc + 2) f (wN h (13 + t, n.toNatClampNeg) n.toNatClampNeg) (rv κ (hn h) :: st)) : GO mi κ p l e R s m args below meth c nb sb Q Γ pc f h (.int n :: st) := by
  intro ls H locs a b d1 e1 e2
  obtain ⟨lc, lsl⟩ := lim_new L e1 e2
  have hb : n.toNatClampNeg * componentBytes (newarray.typeOf at1) ≤ 536870912 := Nat.le_trans (Nat.mul_le_mul hn1 hcb) (Nat.le_of_ble_eq_true rfl)
  have g1 := b.2.1
  have g0 := b.1
  refine va_newaK C.exec C.code (C.tb _ hw) rfl d rfl (by simpa using hn0) rfl hb lc lsl rfl fun H1 cA c1 z1 o1 hAr hNm => ?_
  have hrv : rv κ (hn h) = .ref H.size := by rw [rv_dyn κ g0, al_dyn κ g0, g1]
  have hcA : cA = kA κ t := by
    have h3 := (C.K.2 t _ hty).2
    have : s.vm.findClass ("[" ++ (newarray.typeOf at1).toString) = some (kA κ t) := by cases at1 <;> exact h3
    exact Option.some.inj (hNm.symm.trans this)
  subst hcA
  have k1 := K ls H1 locs a (b.push (by show 13 + t < 18; omega) z1 o1 ?_) (d1.new z1 o1) (by rw [wN_hn]; omega) (by rw [wN_hs]; omega)
  · rw [hrv, wN_hn, wN_hs, show hn h + 1 - nb = hn h - nb + 1 by omega, show hs h + n.toNatClampNeg - sb = hs h - sb + n.toNatClampNeg by omega] at k1
    exact k1
  · by_cases h3 : t = 3
    · subst h3
      rw [cell_long (by rw [wN_hk']), wN_hk', wN_hl']
      exact c1.trans (by rw [← hdv]; rfl)
    · rw [cell_int (t := t) (by omega) (by rw [wN_hk']), wN_hk', wN_hi']
      refine c1.trans ?_
      rw [← hdv, if_neg h3]
theorem z_newq (C : CXT mi κ p R s m args meth c) {idx : Nat} {n : Int32} (hw : Cond.classLink mi.1 idx "SlateHands$Port" ∈ TB) (d : decode mi.2.1 pc = .ok (.anewarray idx, 3)) (hn0 : 0 ≤ n) (hn1 : n.toNatClampNeg ≤ 16777216) (L : LIM R nb sb (wN h (17, n.toNatClampNeg) n.toNatClampNeg))
    (K : GO mi κ p l e R s m args below meth c nb sb Q Γ (pc + 3) f (wN h (17, n.toNatClampNeg) n.toNatClampNeg) (rv κ (hn h) :: st)) : GO mi κ p l e R s m args below meth c nb sb Q Γ pc f h (.int n :: st) := by
  intro ls H locs a b d1 e1 e2
  obtain ⟨lc, lsl⟩ := lim_new L e1 e2
  have hb : n.toNatClampNeg * 4 ≤ 536870912 := Nat.le_trans (Nat.mul_le_mul hn1 (Nat.le_refl 4)) (Nat.le_of_ble_eq_true rfl)
  have g1 := b.2.1
  have g0 := b.1
  have hAO := C.2.2.2.2.2.2.2.1.2.2.2.2.2.2.2
  refine W.anew C.exec C.code C.own (C.tb _ hw) (va_AO.use hAO) rfl d rfl (by simpa using hn0) hb lc lsl fun cA kA1 comp f1 f2 f3 f4 => ?_
  generalize hH1 : H.push ({ cls := cA, slots := Array.replicate n.toNatClampNeg .null, vm := .none } : Cell) = H1
  have z1 : H1.size = H.size + 1 := by rw [← hH1, Array.size_push]
  have c1 : H1[H.size]? = some (arrV cA n.toNatClampNeg (fun _ => .null)) := by rw [← hH1, Array.getElem?_push_size, ← arrV_new]
  have o1 : ∀ q : Nat, q < H.size → H1[q]? = H[q]? := fun q hq => by rw [← hH1, Array.getElem?_push, if_neg (Nat.ne_of_lt hq)]
  have hrv : rv κ (hn h) = .ref H.size := by rw [rv_dyn κ g0, al_dyn κ g0, g1]
  have hcA : cA = kA κ 4 := by
    obtain ⟨kA2, comp2, q1, q2, q3, q4⟩ := (C.K.2 4 _ rfl).2
    exact Option.some.inj (f1.symm.trans q4)
  subst hcA
  have k1 := K ls H1 locs a (b.push (by show 17 < 18; omega) z1 o1 ?_) (d1.new z1 o1) (by rw [wN_hn]; omega) (by rw [wN_hs]; omega)
  · rw [hrv, wN_hn, wN_hs, show hn h + 1 - nb = hn h - nb + 1 by omega, show hs h + n.toNatClampNeg - sb = hs h - sb + n.toNatClampNeg by omega] at k1
    exact k1
  · rw [cell_ref (by rw [wN_hk']), wN_hk', wN_hr']
    exact c1
theorem z_new (C : CXT mi κ p R s m args meth c) {cl N idx : Nat} {CN : String} {T : u_T} {ty : Nat → FieldType} (ck : ClOK cl CN T N ty) (hcl : Cond.classLink mi.1 idx CN ∈ TB) (hinst : Cond.instantiable CN N ∈ TB) (hini : Cond.initialized CN ∈ TB) (d : decode mi.2.1 pc = .ok (.new idx, 3)) (hdf : ∀ k, k < N → defaultValue (ty k) = (if ftag (ty k) = 0 then .int 0 else if ftag (ty k) = 1 then .long 0 else .null)) (L : LIM R nb sb (wN h (cl, 0) N))
    (K : GO mi κ p l e R s m args below meth c nb sb Q Γ (pc + 3) f (wN h (cl, 0) N) (rv κ (hn h) :: st)) : GO mi κ p l e R s m args below meth c nb sb Q Γ pc f h st := by
  intro ls H locs a b d1 e1 e2
  obtain ⟨c13, hc, hin, hty, hnm, hN, hT⟩ := ck
  obtain ⟨lc, lsl⟩ := lim_new L e1 e2
  have g1 := b.2.1
  have g0 := b.1
  have hKn := C.K.1 cl _ hc
  have hrv : rv κ (hn h) = .ref H.size := by rw [rv_dyn κ g0, al_dyn κ g0, g1]
  refine W.newcK C.exec C.code C.own (C.tb _ hcl) (C.tb _ hinst) (C.tb _ hini) rfl d lc lsl hKn.2.1 rfl fun H1 kC hkC c1 z1 o1 => ?_
  have k1 := K ls H1 locs a (b.push (by show cl < 18; omega) z1 o1 ?_) (d1.new z1 o1) (by rw [wN_hn]; omega) (by rw [wN_hs]; omega)
  · rw [hrv, wN_hn, wN_hs, show hn h + 1 - nb = hn h - nb + 1 by omega, show hs h + N - sb = hs h - sb + N by omega] at k1
    exact k1
  · rw [cell_obj (by rw [wN_hk']; exact c13), wN_hk']
    refine ⟨_, hc, (u_born ty C.tb hin hKn hkC c1 hty).to fun j hj => ?_⟩
    show defaultValue (ty j) = vp_V (flds κ (wN h (cl, 0) N) (hn h) cl) j
    unfold vp_V
    rw [List.getD_eq_getElem?_getD, fl_get κ _ _ cl j (by omega), hT]
    unfold fvl
    rw [wN_hi', wN_hl', wN_hr', hdf j hj]
    rfl
end
section
variable {mi : MI} {Γ : Gm} {k pc pc' p1 p2 : Nat}
theorem s_newa_of {A : Ex Int32} {at1 : ArrayType} (t : Nat) (ht : t < 4) (hty : ∀ κ, (kT κ)[t]? = some (kA κ t, newarray.typeOf at1)) (hw : Cond.arrayClass (newarray.typeOf at1) ∈ TB) (hcb : componentBytes (newarray.typeOf at1) ≤ 8) (hdv : ∀ cA N, vp_cell cA (N, (if t = 3 then .inr (.inl fun _ => 0) else .inl fun _ => 0)) = arrV cA N (fun _ => defaultValue (newarray.typeOf at1))) (ha : SE cvI mi Γ k pc p1 A) (d : decode mi.2.1 p1 = .ok (.newarray at1, 2)) : SE cvR mi Γ k pc (p1 + 2) (dNewA t A) := by
  refine ⟨fun f h v h' q => ?_, ?_⟩
  · unfold dNewA at q
    split at q
    · cases q
    · rename_i n h1 q1
      split at q
      · cases q
        exact (ha.1 _ _ _ _ q1).tr (wN_le _ _ _)
      · cases q
  · intro κ p l e R s m args below meth c nb sb Q C f h v h' q L st hst K
    unfold dNewA at q
    split at q
    · cases q
    · rename_i n h1 q1
      split at q
      · rename_i hn2
        cases q
        exact ha.2 κ p l e R s m args below meth c nb sb Q C f h n h1 q1 (L.le (wN_le _ _ _)) st hst (z_newa C ht (hty κ) hw hcb hdv d hn2.1 hn2.2 L K)
      · cases q
theorem s_newI {A : Ex Int32} (ha : SE cvI mi Γ k pc p1 A) (d : decode mi.2.1 p1 = .ok (.newarray .int, 2)) (hw : Cond.arrayClass .int ∈ TB) : SE cvR mi Γ k pc (p1 + 2) (dNewA 0 A) := s_newa_of (at1 := .int) 0 (by decide) (fun κ => rfl) hw (by decide) (fun cA N => rfl) ha d
theorem s_newB {A : Ex Int32} (ha : SE cvI mi Γ k pc p1 A) (d : decode mi.2.1 p1 = .ok (.newarray .byte, 2)) (hw : Cond.arrayClass .byte ∈ TB) : SE cvR mi Γ k pc (p1 + 2) (dNewA 1 A) := s_newa_of (at1 := .byte) 1 (by decide) (fun κ => rfl) hw (by decide) (fun cA N => rfl) ha d
theorem s_newJ {A : Ex Int32} (ha : SE cvI mi Γ k pc p1 A) (d : decode mi.2.1 p1 = .ok (.newarray .long, 2)) (hw : Cond.arrayClass .long ∈ TB) : SE cvR mi Γ k pc (p1 + 2) (dNewA 3 A) := s_newa_of (at1 := .long) 3 (by decide) (fun κ => rfl) hw (by decide) (fun cA N => rfl) ha d
theorem s_newQ {A : Ex Int32} {idx : Nat} (ha : SE cvI mi Γ k pc p1 A) (d : decode mi.2.1 p1 = .ok (.anewarray idx, 3)) (hw : Cond.classLink mi.1 idx "SlateHands$Port" ∈ TB) : SE cvR mi Γ k pc (p1 + 3) (dNewA 4 A) := by
  refine ⟨fun f h v h' q => ?_, ?_⟩
  · unfold dNewA at q
    split at q
    · cases q
    · rename_i n h1 q1
      split at q
      · cases q
        exact (ha.1 _ _ _ _ q1).tr (wN_le _ _ _)
      · cases q
  · intro κ p l e R s m args below meth c nb sb Q C f h v h' q L st hst K
    unfold dNewA at q
    split at q
    · cases q
    · rename_i n h1 q1
      split at q
      · rename_i hn2
        cases q
        exact ha.2 κ p l e R s m args below meth c nb sb Q C f h n h1 q1 (L.le (wN_le _ _ _)) st hst (z_newq C hw d hn2.1 hn2.2 L K)
      · cases q
end
