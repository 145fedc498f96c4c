/-! methods whole: from the body's walk to the contract; new objects; the JDK's own -/
def M1 {α : Type} (cn : Fr → Fr) (S : Sm α) : Fr → St → Option (α × St) := fun g h => ob (S (cn g) h) fun q => Sum.elim (fun _ => none) (fun v => some (v, q.2.2)) q.1
def MZ (cn : Fr → Fr) (S : Sm Int32) : Fr → St → Option (Int32 × St) := fun g h => ob (S (cn g) h) fun q => Sum.elim (fun _ => none) (fun v => if v = 0 ∨ v = 1 then some (v, q.2.2) else none) q.1
def tsW : Nat → Gm → Option Nat
  | i, [] => some i
  | i, q :: ts => if q.1 = i then tsW (if q.2 = 1 then i + 2 else i + 1) ts else none
theorem lvv_catEq (κ : KX) (f : Fr) (q : Nat × Nat) : (lvv κ f q).2.category = if q.2 = 1 then 2 else 1 := by
  unfold lvv
  by_cases h0 : q.2 = 0
  · simp [h0, Value.category]
  · by_cases h1 : q.2 = 1
    · simp [h1, Value.category]
    · simp only [h0, h1, if_false]
      rcases rv_or κ (gR f q.1) with z | ⟨x, z⟩ <;> rw [z] <;> rfl
theorem lv_args_ts (κ : KX) (f : Fr) : ∀ (ts : Gm) (i n : Nat), tsW i ts = some n → lv_args i (ts.map fun q => (lvv κ f q).2) = ts.map (lvv κ f) ∧ i + (lg_sl (ts.map fun q => (lvv κ f q).2)).length = n
  | [], i, n, h => by
    cases h
    exact ⟨rfl, rfl⟩
  | q :: ts, i, n, h => by
    unfold tsW at h
    split at h
    · rename_i hq
      obtain ⟨h1, h2⟩ := lv_args_ts κ f ts _ n h
      have hc := lvv_catEq κ f q
      constructor
      · rw [List.map_cons, List.map_cons, lv_args, hc]
        congr 1
        · show (i, (lvv κ f q).2) = lvv κ f q
          rw [← hq]
          rfl
        · by_cases h1' : q.2 = 1
          · rw [if_pos h1', if_pos rfl]
            rw [if_pos h1'] at h1
            exact h1
          · rw [if_neg h1', if_neg (by decide)]
            rw [if_neg h1'] at h1
            exact h1
      · rw [List.map_cons, lg_sl, List.flatMap_cons, List.length_append, hc]
        by_cases h1' : q.2 = 1
        · rw [if_pos h1'] at h2
          rw [if_pos h1', if_pos rfl]
          show i + (2 + (lg_sl _).length) = n
          omega
        · rw [if_neg h1'] at h2
          rw [if_neg h1', if_neg (by decide)]
          show i + (1 + (lg_sl _).length) = n
          omega
    · cases h
/-- what a method's end must give -/
def ENDS {α : Type} (cvo : KX → α → Option Value) (ret : Option FieldType) (ri : Instr) (ok : α → Prop) : Prop := ∀ κ (p : Program) (l : Launch) (e : Env) (R : Room) (s : State) (m : MethodId) (args : Array Value) (below : List Frame) (meth : Method) (c : Code) (H : Heap) (locs : List Loc) (cells slots : Nat) (cc : ByteArray) (Qc : Array Value → State → Outcome → State → Prop) (free : Addr → Prop) (v : α) (pc : Nat) (ls : Array Slot), ok v → p.tables.exec = Jvm.exec → c.code = cc → meth.sig.returnType = ret → (∀ t : State, t.heap = H → s.WarmedH t.vm → Qc args s (.returned (cvo κ v)) t) → (∀ q ∈ locs, free q.base) → decode cc pc = .ok (ri, 1) → meth.locks = false → W p l e R s m args below meth c H locs cells slots (MQ below Qc args s cells slots free) (F0 m pc ls (cvo κ v).toList)
theorem ends_I : ENDS cvoI (some .int) .ireturn (fun _ => True) := fun κ p l e R s m args below meth c H locs cells slots cc Qc free v pc ls _ hx hb hr hq hf hd hl => W.iret hx hb hr hq hf hd hl
theorem ends_Z : ENDS cvoI (some .boolean) .ireturn (fun v => v = 0 ∨ v = 1) := fun κ p l e R s m args below meth c H locs cells slots cc Qc free v pc ls ok hx hb hr hq hf hd hl => W.zret hx hb hr (by rcases ok with z | z <;> rw [z] <;> rfl) hq hf hd hl
theorem ends_L : ENDS cvoL (some .long) .lreturn (fun _ => True) := fun κ p l e R s m args below meth c H locs cells slots cc Qc free v pc ls _ hx hb hr hq hf hd hl => W.lret hx hb hr hq hf hd hl
theorem ends_V : ENDS cvoV none .return_ (fun _ => True) := fun κ p l e R s m args below meth c H locs cells slots cc Qc free v pc ls _ hx hb hr hq hf hd hl => W.vret hx hb hr hq hf hd hl
theorem ends_R (n : String) : ENDS cvoR (some (.object n)) .areturn (fun _ => True) := fun κ p l e R s m args below meth c H locs cells slots cc Qc free v pc ls _ hx hb hr hq hf hd hl => W.aret hx hb hr (Or.inl ⟨n, rfl⟩) (by rcases rv_or κ v with z | ⟨y, z⟩; exact Or.inl z; exact Or.inr ⟨y, z⟩) hq hf hd hl
section
variable {α : Type} {y : MethodName} {bytes : ByteArray} {maxL rk nw : Nat} {ini : Bool} {ret : Option FieldType} {cvo : KX → α → Option Value} {ri : Instr} {ok : α → Prop} {ts Γ Γ' : Gm} {X : List Nat} {cn : Fr → Fr} {S : Sm α}
theorem snd_core (hE : ENDS cvo ret ri ok) (hy : plainName y.cls = true) (hini : ini = true → y.name = "<init>") (hts : tsW 0 ts = some nw) (hnw : Nat.ble nw maxL = true) (hcn : ∀ κ f, ts.map (lvv κ (cn f)) = ts.map (lvv κ f)) (hsb : gsub ts Γ = true)
    (hS : SS (cvo, ri) (y.cls, bytes, maxL, rk, ini) [] [] [] Γ Γ' 0 X S) (hX : X = []) (D : Fr → St → Option (α × St)) (hD : ∀ g h v h', D g h = some (v, h') → ∃ f', S (cn g) h = some (.inr v, f', h') ∧ ok v) : SND y bytes maxL ret rk ts cvo D := by
  refine ⟨fun g h v h' q => ?_, ?_⟩
  · obtain ⟨f', q1, -⟩ := hD _ _ _ _ q
    exact hS.1 _ _ _ _ _ q1
  · intro l κ g h v h' q
    obtain ⟨f', q1, hok⟩ := hD _ _ _ _ q
    have hle := hS.1 _ _ _ _ _ q1
    refine Met.ofW (cc := bytes) (maxL := maxL) (ret := ret) hy rfl ?_
    intro p e s m args below meth c s₁ B hml hv
    obtain ⟨rfl, hRep, hK, hNB, hPK⟩ := hv
    have hts1 := atoms_spec (ws := Cond.code y bytes maxL ret :: TB) B.pre
    have hown : s.vm.findClass y.cls = some m.cls := findClass_of_methodNamed B.named
    have hlk := B.notSynchronized
    have C : CXT (y.cls, bytes, maxL, rk, ini) κ p (headSpec (Cond.code y bytes maxL ret :: TB) (RM rk (hn h' - hn h) (hs h' - hs h))).room s m (ts.map fun q => (lvv κ g q).2).toArray meth c :=
      ⟨B.exec, B.bytes, hml, hown, fun w hw => hts1 w (List.mem_cons_of_mem _ hw), hK, hNB, hPK, Nat.le_refl _, Nat.le_refl _, fun hi => by
        have h1 := (name_of_methodNamed B.named B.method).1
        rw [h1]
        exact hini hi⟩
    obtain ⟨ha, hlen⟩ := lv_args_ts κ g ts 0 nw hts
    have hl := lv_entry (ts.map fun q => (lvv κ g q).2) (n := maxL) (by have := Nat.le_of_ble_eq_true hnw; omega)
    rw [lg_entry_eq]
    generalize (lg_sl (ts.map fun q => (lvv κ g q).2) ++ List.replicate (maxL - (lg_sl (ts.map fun q => (lvv κ g q).2)).length) Slot.unset).toArray = ls at hl ⊢
    rw [ha] at hl
    have k1 := hS.2 κ p l e _ s m (ts.map fun q => (lvv κ g q).2).toArray below meth c (hn h) (hs h) (MQ below (fun _ st oc t => oc = .returned (cvo κ v) ∧ Rep κ h' t.heap ∧ va_F (AQ κ) st t) (ts.map fun q => (lvv κ g q).2).toArray s (hn h' - hn h) (hs h' - hs h) (AQ κ)) C (cn g) h (.inr v) f' h' q1 ⟨Nat.le_refl _, Nat.le_refl _⟩ (fun z => by cases z) (fun z => by cases z) (fun z => by cases z) (fun v1 z => by
      cases z
      intro pc f hd ls1 H1 locs1 a1 b1 d1 e1 e2
      exact hE κ p l e _ s m _ below meth c H1 locs1 (hn h' - hn h) (hs h' - hs h) bytes _ _ v pc ls1 hok B.exec B.bytes B.returns (fun t ht hW => ⟨rfl, by rw [ht]; exact b1, d1.F ht⟩) d1.2.2 hd hlk)
    have k2 := GO.fr (hcn κ g) (GO.gsb hsb k1)
    have k3 := k2 ls s.heap [] hl hRep va_S.rf (Nat.le_refl _) (Nat.le_refl _)
    rw [Nat.sub_self, Nat.sub_self] at k3
    exact k3
theorem m1_D {g : Fr} {h h' : St} {v : α} (q : M1 cn S g h = some (v, h')) : ∃ f', S (cn g) h = some (.inr v, f', h') := by
  obtain ⟨⟨o, f', h2⟩, q1, q⟩ := ob_some.mp q
  rcases o with n | w
  · cases q
  · cases q
    exact ⟨f', q1⟩
theorem mZ_D {S : Sm Int32} {g : Fr} {h h' : St} {v : Int32} (q : MZ cn S g h = some (v, h')) : ∃ f', S (cn g) h = some (.inr v, f', h') ∧ (v = 0 ∨ v = 1) := by
  obtain ⟨⟨o, f', h2⟩, q1, q⟩ := ob_some.mp q
  rcases o with n | w
  · cases q
  · dsimp only [Sum.elim_inr] at q
    split at q
    · rename_i hw
      cases q
      exact ⟨f', q1, hw⟩
    · cases q
end
section
variable {y : MethodName} {bytes : ByteArray} {maxL rk nw : Nat} {ini : Bool} {ts Γ Γ' : Gm} {cn : Fr → Fr}
theorem snd_I {S : Sm Int32} (hy : plainName y.cls = true) (hts : tsW 0 ts = some nw) (hnw : Nat.ble nw maxL = true) (hcn : ∀ κ f, ts.map (lvv κ (cn f)) = ts.map (lvv κ f)) (hS : SS (cvoI, .ireturn) (y.cls, bytes, maxL, rk, false) [] [] [] ts Γ' 0 [] S) : SND y bytes maxL (some .int) rk ts cvoI (M1 cn S) :=
  snd_core ends_I hy (fun z => by cases z) hts hnw hcn (by simp [gsub]) hS rfl _ fun g h v h' q => by obtain ⟨f', z⟩ := m1_D q; exact ⟨f', z, trivial⟩
theorem snd_L {S : Sm Int64} (hy : plainName y.cls = true) (hts : tsW 0 ts = some nw) (hnw : Nat.ble nw maxL = true) (hcn : ∀ κ f, ts.map (lvv κ (cn f)) = ts.map (lvv κ f)) (hS : SS (cvoL, .lreturn) (y.cls, bytes, maxL, rk, false) [] [] [] ts Γ' 0 [] S) : SND y bytes maxL (some .long) rk ts cvoL (M1 cn S) :=
  snd_core ends_L hy (fun z => by cases z) hts hnw hcn (by simp [gsub]) hS rfl _ fun g h v h' q => by obtain ⟨f', z⟩ := m1_D q; exact ⟨f', z, trivial⟩
theorem snd_R {S : Sm Nat} (n : String) (hy : plainName y.cls = true) (hts : tsW 0 ts = some nw) (hnw : Nat.ble nw maxL = true) (hcn : ∀ κ f, ts.map (lvv κ (cn f)) = ts.map (lvv κ f)) (hS : SS (cvoR, .areturn) (y.cls, bytes, maxL, rk, false) [] [] [] ts Γ' 0 [] S) : SND y bytes maxL (some (.object n)) rk ts cvoR (M1 cn S) :=
  snd_core (ends_R n) hy (fun z => by cases z) hts hnw hcn (by simp [gsub]) hS rfl _ fun g h v h' q => by obtain ⟨f', z⟩ := m1_D q; exact ⟨f', z, trivial⟩
theorem snd_V {S : Sm Unit} (hy : plainName y.cls = true) (hini : ini = true → y.name = "<init>") (hts : tsW 0 ts = some nw) (hnw : Nat.ble nw maxL = true) (hcn : ∀ κ f, ts.map (lvv κ (cn f)) = ts.map (lvv κ f)) (hS : SS (cvoV, .return_) (y.cls, bytes, maxL, rk, ini) [] [] [] ts Γ' 0 [] S) : SND y bytes maxL none rk ts cvoV (M1 cn S) :=
  snd_core ends_V hy hini hts hnw hcn (by simp [gsub]) hS rfl _ fun g h v h' q => by obtain ⟨f', z⟩ := m1_D q; exact ⟨f', z, trivial⟩
theorem snd_Z {S : Sm Int32} (hy : plainName y.cls = true) (hts : tsW 0 ts = some nw) (hnw : Nat.ble nw maxL = true) (hcn : ∀ κ f, ts.map (lvv κ (cn f)) = ts.map (lvv κ f)) (hS : SS (cvoI, .ireturn) (y.cls, bytes, maxL, rk, false) [] [] [] ts Γ' 0 [] S) : SND y bytes maxL (some .boolean) rk ts cvoI (MZ cn S) :=
  snd_core ends_Z hy (fun z => by cases z) hts hnw hcn (by simp [gsub]) hS rfl _ fun g h v h' q => mZ_D q
end
def dSup {α : Type} : Sm α := fun f h => if gR f 0 = 0 then none else some (.inl 0, f, h)
section
variable {α : Type} {rt : (KX → α → Option Value) × Instr} {mi : MI} {ΓL ΓH Γ Γ' Γ'' : Gm} {PB PK X XA : List Nat} {k x pc pc' pn p1 p2 p3 p4 : Nat}
/-- Object's own constructor -/
theorem t_super {idx : Nat} (d0 : decode mi.2.1 pc = .ok (.aload_n 0, 1)) (hg : Γ.contains (0, 2) = true) (d : decode mi.2.1 (pc + 1) = .ok (.invokespecial idx, 3)) (hl : Cond.methodLink mi.1 idx Lib.objectInit ∈ TB) (hin : Cond.instanceMethod Lib.objectInit ∈ TB) (hcode : Cond.code Lib.objectInit ⟨#[0xb1]⟩ 1 none ∈ TB) (hr : Nat.ble 1 mi.2.2.2.1 = true) (hs : gsub Γ Γ' = true) : SS rt mi ΓL PB PK Γ Γ' pc [pc + 4] dSup := by
  refine ⟨fun f h o f' h' q => ?_, ?_⟩
  · unfold dSup at q
    split at q
    · cases q
    · cases q; exact LE.rf _
  · intro κ p l e R s m args below meth c nb sb Q C f h o f' h' q L K0 _ _ _
    unfold dSup at q
    split at q
    · cases q
    · rename_i hz
      cases q
      intro ls H locs a b d1 e1 e2
      have g : ls[0]? = some (.val (rv κ (gR f 0))) := lv_get a hg
      have hrv : rv κ (gR f 0) = .ref (al κ (gR f 0)) := if_neg hz
      rw [hrv] at g
      refine lv_aload_n C.exec C.code d0 rfl g ?_
      have hr1 := C.2.2.2.2.2.2.2.2.1
      have hr2 := C.2.2.2.2.2.2.2.2.2.1
      have hr3 := Nat.le_of_ble_eq_true hr
      refine W.objInit C.exec C.code C.own (C.tb _ hl) (C.tb _ hin) (C.tb _ hcode) rfl (by rw [C.2.2.1]; exact a.1) rfl d (by omega) (by show 2 * 0 + 0 + 12 ≤ _; omega) ?_
      exact GO.gsb hs (K0 rfl _ (List.mem_singleton.mpr rfl)) ls H locs a b d1 e1 e2
/-- a new object, and its constructor across the nest -/
theorem s_newN {cl N idx idx2 rk maxL : Nat} {CN host : String} {T : u_T} {ty : Nat → FieldType} {y : MethodName} {bytes : ByteArray} {D : Fr → St → Option (Unit × St)} (ck : ClOK cl CN T N ty) (hD : SND y bytes maxL none rk [(0, 2)] cvoV D) (M : MOK y bytes maxL none 0) (hy1 : y.name = "<init>") (hin : Cond.instanceMethod y ∈ TB) (hcl : Cond.classLink mi.1 idx CN ∈ TB) (hinst : Cond.instantiable CN N ∈ TB) (hini : Cond.initialized CN ∈ TB) (hdf : ∀ k, k < N → defaultValue (ty k) = (if ftag (ty k) = 0 then .int 0 else if ftag (ty k) = 1 then .long 0 else .null)) (hrk : Nat.ble (rk + 1) mi.2.2.2.1 = true) (hk8 : Nat.ble (k + 1) 8 = true)
    (d : decode mi.2.1 pc = .ok (.new idx, 3)) (d1 : decode mi.2.1 (pc + 3) = .ok (.dup, 1)) (d2 : decode mi.2.1 (pc + 4) = .ok (.invokespecial idx2, 3)) (hl : Cond.methodLinkNest mi.1 idx2 y host ∈ NB) (hN : clN cl = N) : SE cvR mi Γ k pc (pc + 7) (dNewC cl D) := by
  subst hN
  refine ⟨fun f h v h' q => ?_, ?_⟩
  · unfold dNewC at q
    split at q
    · cases q
    · rename_i u h2 q1
      cases q
      exact (wN_le _ _ _).tr (hD.1 _ _ _ _ q1)
  · intro κ p l e R s m args below meth c nb sb Q C f h v h' q L st hst K
    unfold dNewC at q
    split at q
    · cases q
    · rename_i u h2 q1
      cases q
      have hle := hD.1 _ _ _ _ q1
      refine z_new C ck hcl hinst hini d hdf (L.le hle) ?_
      intro ls H locs a b d9 e1 e2
      have g0 : n0 ≤ hn h := by
        have hq0 := b.1
        by_cases hz : n0 ≤ hn h
        · exact hz
        · exfalso
          have hlt : hn h < n0 := by omega
          have h3 := (b.2.2.2.1 (hn h) hlt).1
          rw [wN_hk'] at h3
          have : (pK κ (hn h)).1 < 13 := by rw [← h3]; exact ck.1
          unfold pK at this
          repeat (split at this; · simp at this)
          simp at this
      rw [rv_dyn κ g0]
      refine lv_dup C.exec C.code d1 rfl ?_
      have hM := hD.2 l κ (sR fr0 0 (hn h)) _ u _ q1
      have hav : ([(0, 2)] : Gm).map (fun q => (lvv κ (sR fr0 0 (hn h)) q).2) = [Value.ref (al κ (hn h))] := by
        show [rv κ (hn h)] = _
        rw [rv_dyn κ g0]
      rw [hav] at hM
      have k1 := K
      unfold cvR at k1
      rw [rv_dyn κ g0] at k1
      refine go_back d9 hle e1 e2 (va_runIN (As := []) (b := al κ (hn h)) (rest := .ref (al κ (hn h)) :: st) ⟨C.exec, C.code, C.2.2.1, C.own, C.tb⟩ hM ⟨C.callN M (by simpa using hrk) hl, hy1, C.tb _ hin⟩ ⟨blind_pre, fun U hU hW => ⟨rfl, C.pre1 b d9 hU hW⟩⟩ rfl rfl (ls_size a) rfl (lv_room (by
        have := Nat.le_of_ble_eq_true hk8
        simp only [List.map_cons, List.sum_cons]
        have hc1 : (Value.ref (al κ (hn h))).category = 1 := rfl
        omega)) d2 (lim_call L hle e1 e2)) fun H1 locs1 b1 d10 => k1 ls H1 locs1 a b1 d10 (Nat.le_trans e1 hle.1) (Nat.le_trans e2 hle.2)
theorem s_newP {cl N idx idx2 rk maxL : Nat} {CN : String} {T : u_T} {ty : Nat → FieldType} {y : MethodName} {bytes : ByteArray} {D : Fr → St → Option (Unit × St)} (ck : ClOK cl CN T N ty) (hD : SND y bytes maxL none rk [(0, 2)] cvoV D) (M : MOK y bytes maxL none 0) (hy1 : y.name = "<init>") (hin : Cond.instanceMethod y ∈ TB) (hcl : Cond.classLink mi.1 idx CN ∈ TB) (hinst : Cond.instantiable CN N ∈ TB) (hini : Cond.initialized CN ∈ TB) (hdf : ∀ k, k < N → defaultValue (ty k) = (if ftag (ty k) = 0 then .int 0 else if ftag (ty k) = 1 then .long 0 else .null)) (hrk : Nat.ble (rk + 1) mi.2.2.2.1 = true) (hk8 : Nat.ble (k + 1) 8 = true)
    (d : decode mi.2.1 pc = .ok (.new idx, 3)) (d1 : decode mi.2.1 (pc + 3) = .ok (.dup, 1)) (d2 : decode mi.2.1 (pc + 4) = .ok (.invokespecial idx2, 3)) (hl : Cond.methodLink mi.1 idx2 y ∈ TB) (hN : clN cl = N) : SE cvR mi Γ k pc (pc + 7) (dNewC cl D) := by
  subst hN
  refine ⟨fun f h v h' q => ?_, ?_⟩
  · unfold dNewC at q
    split at q
    · cases q
    · rename_i u h2 q1
      cases q
      exact (wN_le _ _ _).tr (hD.1 _ _ _ _ q1)
  · intro κ p l e R s m args below meth c nb sb Q C f h v h' q L st hst K
    unfold dNewC at q
    split at q
    · cases q
    · rename_i u h2 q1
      cases q
      have hle := hD.1 _ _ _ _ q1
      refine z_new C ck hcl hinst hini d hdf (L.le hle) ?_
      intro ls H locs a b d9 e1 e2
      have g0 : n0 ≤ hn h := by
        have hq0 := b.1
        by_cases hz : n0 ≤ hn h
        · exact hz
        · exfalso
          have hlt : hn h < n0 := by omega
          have h3 := (b.2.2.2.1 (hn h) hlt).1
          rw [wN_hk'] at h3
          have : (pK κ (hn h)).1 < 13 := by rw [← h3]; exact ck.1
          unfold pK at this
          repeat (split at this; · simp at this)
          simp at this
      rw [rv_dyn κ g0]
      refine lv_dup C.exec C.code d1 rfl ?_
      have hM := hD.2 l κ (sR fr0 0 (hn h)) _ u _ q1
      have hav : ([(0, 2)] : Gm).map (fun q => (lvv κ (sR fr0 0 (hn h)) q).2) = [Value.ref (al κ (hn h))] := by
        show [rv κ (hn h)] = _
        rw [rv_dyn κ g0]
      rw [hav] at hM
      have k1 := K
      unfold cvR at k1
      rw [rv_dyn κ g0] at k1
      refine go_back d9 hle e1 e2 (va_runI (As := []) (b := al κ (hn h)) (rest := .ref (al κ (hn h)) :: st) ⟨C.exec, C.code, C.2.2.1, C.own, C.tb⟩ hM ⟨C.callB M (by simpa using hrk) hl, hy1, C.tb _ hin⟩ ⟨blind_pre, fun U hU hW => ⟨rfl, C.pre1 b d9 hU hW⟩⟩ rfl rfl (ls_size a) rfl (lv_room (by
        have := Nat.le_of_ble_eq_true hk8
        simp only [List.map_cons, List.sum_cons]
        have hc1 : (Value.ref (al κ (hn h))).category = 1 := rfl
        omega)) d2 (lim_call L hle e1 e2)) fun H1 locs1 b1 d10 => k1 ls H1 locs1 a b1 d10 (Nat.le_trans e1 hle.1) (Nat.le_trans e2 hle.2)
end
