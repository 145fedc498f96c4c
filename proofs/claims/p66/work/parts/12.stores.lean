/-! stores, what is taken and put again, choices by number -/
def stI (t : Nat) (g : Int32 → Int32) (r : Nat) (i x : Int32) (h : St) : Option St := if (hk h r).1 = t ∧ inb i (hk h r).2 = true then some (wI h r i.toNatClampNeg (g x)) else none
def stL (r : Nat) (i : Int32) (x : Int64) (h : St) : Option St := if (hk h r).1 = 16 ∧ inb i (hk h r).2 = true then some (wL h r i.toNatClampNeg x) else none
def stR (r : Nat) (i : Int32) (x : Nat) (h : St) : Option St := if (hk h r).1 = 17 ∧ inb i (hk h r).2 = true ∧ (hk h x).1 = 5 then some (wR h r i.toNatClampNeg x) else none
def nB (x : Int32) : Int32 := vp_nar .byte x
def nZ (x : Int32) : Int32 := vp_nar .boolean x
def idI (x : Int32) : Int32 := x
def d3 {α β γ δ : Type} (g : β → γ → δ → St → Option St) (A : Ex β) (B : Ex γ) (V : Ex δ) : Sm α := fun f h => ob (A f h) fun a => ob (B f a.2) fun b => ob (V f b.2) fun v => ob (g a.1 b.1 v.1 v.2) fun h2 => some (.inl 0, f, h2)
def dP {α β γ : Type} (g : β → γ → St → Option St) (A : Ex β) (V : Ex γ) : Sm α := fun f h => ob (A f h) fun a => ob (V f a.2) fun v => ob (g a.1 v.1 v.2) fun h2 => some (.inl 0, f, h2)
-- fields
def fI (cl k : Nat) (r : Nat) (x : Int32) (h : St) : Option St := if (hk h r).1 = cl then some (wI h r k x) else none
def fZ (cl k : Nat) (r : Nat) (x : Int32) (h : St) : Option St := if (hk h r).1 = cl ∧ (x = 0 ∨ x = 1) then some (wI h r k x) else none
def fL (cl k : Nat) (r : Nat) (x : Int64) (h : St) : Option St := if (hk h r).1 = cl then some (wL h r k x) else none
def fR (cl k : Nat) (r : Nat) (x : Nat) (h : St) : Option St := if (hk h r).1 = cl then some (wR h r k x) else none
-- taken and put again
def dUA {α : Type} (g : Int32 → Int32 → Int32) (A : Ex Nat) (I V : Ex Int32) : Sm α := fun f h => ob (A f h) fun a => ob (I f a.2) fun i => if (hk i.2 a.1).1 = 13 ∧ inb i.1 (hk i.2 a.1).2 = true then ob (V f i.2) fun v => ob (stI 13 idI a.1 i.1 (g (hi i.2 a.1 i.1.toNatClampNeg) v.1) v.2) fun h2 => some (.inl 0, f, h2) else none
def dUL {α : Type} (g : Int64 → Int64 → Int64) (A : Ex Nat) (I : Ex Int32) (V : Ex Int64) : Sm α := fun f h => ob (A f h) fun a => ob (I f a.2) fun i => if (hk i.2 a.1).1 = 16 ∧ inb i.1 (hk i.2 a.1).2 = true then ob (V f i.2) fun v => ob (stL a.1 i.1 (g (hl i.2 a.1 i.1.toNatClampNeg) v.1) v.2) fun h2 => some (.inl 0, f, h2) else none
def dUF {α : Type} (cl k : Nat) (g : Int32 → Int32 → Int32) (A : Ex Nat) (V : Ex Int32) : Sm α := fun f h => ob (A f h) fun a => if (hk a.2 a.1).1 = cl then ob (V f a.2) fun v => ob (fI cl k a.1 (g (hi a.2 a.1 k) v.1) v.2) fun h2 => some (.inl 0, f, h2) else none
/-- by number: the bodies from lo on, else the last; breaks end here -/
def dSw {α : Type} (lo : Int) (A : Ex Int32) (cs : List (Sm α)) (df : Sm α) : Sm α := fun f h => ob (A f h) fun q => ob (((if lo ≤ q.1.toInt then cs[(q.1.toInt - lo).toNat]? else none).getD df) f q.2) fun w => some (Sum.elim (fun n => if n = 1 then .inl 0 else .inl n) (fun v => .inr v) w.1, w.2)
theorem stI_le {t : Nat} {g : Int32 → Int32} {r : Nat} {i x : Int32} {h h2 : St} (q : stI t g r i x h = some h2) : LE h h2 := by
  unfold stI at q
  split at q
  · cases q; exact LE.rf _
  · cases q
theorem stL_le {r : Nat} {i : Int32} {x : Int64} {h h2 : St} (q : stL r i x h = some h2) : LE h h2 := by
  unfold stL at q
  split at q
  · cases q; exact LE.rf _
  · cases q
theorem stR_le {r : Nat} {i : Int32} {x : Nat} {h h2 : St} (q : stR r i x h = some h2) : LE h h2 := by
  unfold stR at q
  split at q
  · cases q; exact LE.rf _
  · cases q
theorem fI_le {cl k r : Nat} {x : Int32} {h h2 : St} (q : fI cl k r x h = some h2) : LE h h2 := by
  unfold fI at q
  split at q
  · cases q; exact LE.rf _
  · cases q
theorem fZ_le {cl k r : Nat} {x : Int32} {h h2 : St} (q : fZ cl k r x h = some h2) : LE h h2 := by
  unfold fZ at q
  split at q
  · cases q; exact LE.rf _
  · cases q
theorem fL_le {cl k r : Nat} {x : Int64} {h h2 : St} (q : fL cl k r x h = some h2) : LE h h2 := by
  unfold fL at q
  split at q
  · cases q; exact LE.rf _
  · cases q
theorem fR_le {cl k r x : Nat} {h h2 : St} (q : fR cl k r x h = some h2) : LE h h2 := by
  unfold fR at q
  split at q
  · cases q; exact LE.rf _
  · cases q
section
variable {α β γ δ : Type} {rt : (KX → α → Option Value) × Instr} {mi : MI} {ΓL ΓH Γ Γ' Γ'' : Gm} {PB PK X XA : List Nat} {k x pc pn p1 p2 p3 p4 : Nat}
theorem t_3 {ca : KX → β → Value} {cb : KX → γ → Value} {cd : KX → δ → Value} {A : Ex β} {B : Ex γ} {V : Ex δ} (na nb1 : Nat) (hna : ∀ κ x, (ca κ x).category ≤ na) (hnb : ∀ κ x, (cb κ x).category ≤ nb1) (g : β → γ → δ → St → Option St)
    (hle : ∀ a b v h h2, g a b v h = some h2 → LE h h2) (hs : gsub Γ Γ' = true)
    (hu : ∀ κ p l e R s m args below meth c nb sb Q, CXT mi κ p R s m args meth c → ∀ f h a b v h2, g a b v h = some h2 → GO mi κ p l e R s m args below meth c nb sb Q Γ pn f h2 [] → GO mi κ p l e R s m args below meth c nb sb Q Γ p3 f h [cd κ v, cb κ b, ca κ a])
    (ha : SE ca mi Γ 0 pc p1 A) (hb : SE cb mi Γ na p1 p2 B) (hv : SE cd mi Γ (na + nb1) p2 p3 V) : SS rt mi ΓL PB PK Γ Γ' pc [pn] (d3 g A B V) := by
  refine ⟨fun f h o f' h' q => ?_, ?_⟩
  · obtain ⟨⟨a, h1⟩, q1, q⟩ := ob_some.mp q
    obtain ⟨⟨b, h2⟩, q2, q⟩ := ob_some.mp q
    obtain ⟨⟨v, h3⟩, q3, q⟩ := ob_some.mp q
    obtain ⟨h4, q4, q⟩ := ob_some.mp q
    cases q
    exact (ha.1 _ _ _ _ q1).tr ((hb.1 _ _ _ _ q2).tr ((hv.1 _ _ _ _ q3).tr (hle _ _ _ _ _ q4)))
  · intro κ p l e R s m args below meth c nb sb Q C f h o f' h' q L K0 _ _ _
    obtain ⟨⟨a, h1⟩, q1, q⟩ := ob_some.mp q
    obtain ⟨⟨b, h2⟩, q2, q⟩ := ob_some.mp q
    obtain ⟨⟨v, h3⟩, q3, q⟩ := ob_some.mp q
    obtain ⟨h4, q4, q⟩ := ob_some.mp q
    cases q
    have l3 := hle _ _ _ _ _ q4
    have l2 := (hv.1 _ _ _ _ q3).tr l3
    have l1 := (hb.1 _ _ _ _ q2).tr l2
    have c1 := hna κ a
    have c2 := hnb κ b
    refine ha.2 κ p l e R s m args below meth c nb sb Q C f h a h1 q1 (L.le l1) [] (Nat.le_refl _) ?_
    refine hb.2 κ p l e R s m args below meth c nb sb Q C f h1 b h2 q2 (L.le l2) _ (by simp only [List.map_cons, List.map_nil, List.sum_cons, List.sum_nil]; omega) ?_
    refine hv.2 κ p l e R s m args below meth c nb sb Q C f h2 v h3 q3 (L.le l3) _ (by simp only [List.map_cons, List.map_nil, List.sum_cons, List.sum_nil]; omega) ?_
    exact hu κ p l e R s m args below meth c nb sb Q C f h3 a b v _ q4 (GO.gsb hs (K0 rfl _ (List.mem_singleton.mpr rfl)))
theorem t_p {ca : KX → β → Value} {cb : KX → γ → Value} {A : Ex β} {V : Ex γ} (na : Nat) (hna : ∀ κ x, (ca κ x).category ≤ na) (g : β → γ → St → Option St)
    (hle : ∀ a v h h2, g a v h = some h2 → LE h h2) (hs : gsub Γ Γ' = true)
    (hu : ∀ κ p l e R s m args below meth c nb sb Q, CXT mi κ p R s m args meth c → ∀ f h a v h2, g a v h = some h2 → GO mi κ p l e R s m args below meth c nb sb Q Γ pn f h2 [] → GO mi κ p l e R s m args below meth c nb sb Q Γ p2 f h [cb κ v, ca κ a])
    (ha : SE ca mi Γ 0 pc p1 A) (hv : SE cb mi Γ na p1 p2 V) : SS rt mi ΓL PB PK Γ Γ' pc [pn] (dP g A V) := by
  refine ⟨fun f h o f' h' q => ?_, ?_⟩
  · obtain ⟨⟨a, h1⟩, q1, q⟩ := ob_some.mp q
    obtain ⟨⟨v, h3⟩, q3, q⟩ := ob_some.mp q
    obtain ⟨h4, q4, q⟩ := ob_some.mp q
    cases q
    exact (ha.1 _ _ _ _ q1).tr ((hv.1 _ _ _ _ q3).tr (hle _ _ _ _ q4))
  · intro κ p l e R s m args below meth c nb sb Q C f h o f' h' q L K0 _ _ _
    obtain ⟨⟨a, h1⟩, q1, q⟩ := ob_some.mp q
    obtain ⟨⟨v, h3⟩, q3, q⟩ := ob_some.mp q
    obtain ⟨h4, q4, q⟩ := ob_some.mp q
    cases q
    have l3 := hle _ _ _ _ q4
    have l2 := (hv.1 _ _ _ _ q3).tr l3
    have c1 := hna κ a
    refine ha.2 κ p l e R s m args below meth c nb sb Q C f h a h1 q1 (L.le l2) [] (Nat.le_refl _) ?_
    refine hv.2 κ p l e R s m args below meth c nb sb Q C f h1 v h3 q3 (L.le l3) _ (by simp only [List.map_cons, List.map_nil, List.sum_cons, List.sum_nil]; omega) ?_
    exact hu κ p l e R s m args below meth c nb sb Q C f h3 a v _ q4 (GO.gsb hs (K0 rfl _ (List.mem_singleton.mpr rfl)))
theorem t_stI {A : Ex Nat} {B V : Ex Int32} (ha : SE cvR mi Γ 0 pc p1 A) (hb : SE cvI mi Γ 1 p1 p2 B) (hv : SE cvI mi Γ 2 p2 p3 V) (d : decode mi.2.1 p3 = .ok (.iastore, 1)) (hs : gsub Γ Γ' = true) : SS rt mi ΓL PB PK Γ Γ' pc [p3 + 1] (d3 (stI 13 idI) A B V) := by
  refine t_3 1 1 catR catI _ (fun _ _ _ _ _ q => stI_le q) hs (fun κ p l e R s m args below meth c nb sb Q C f h a b v h2 q K => ?_) ha hb hv
  unfold stI at q
  split at q
  · rename_i hc
    cases q
    exact z_iast C hc.1 hc.2 d K
  · cases q
theorem t_stB {A : Ex Nat} {B V : Ex Int32} (ha : SE cvR mi Γ 0 pc p1 A) (hb : SE cvI mi Γ 1 p1 p2 B) (hv : SE cvI mi Γ 2 p2 p3 V) (d : decode mi.2.1 p3 = .ok (.bastore, 1)) (hs : gsub Γ Γ' = true) : SS rt mi ΓL PB PK Γ Γ' pc [p3 + 1] (d3 (stI 14 nB) A B V) := by
  refine t_3 1 1 catR catI _ (fun _ _ _ _ _ q => stI_le q) hs (fun κ p l e R s m args below meth c nb sb Q C f h a b v h2 q K => ?_) ha hb hv
  unfold stI at q
  split at q
  · rename_i hc
    cases q
    exact z_bast C hc.1 hc.2 d K
  · cases q
theorem t_stL {A : Ex Nat} {B : Ex Int32} {V : Ex Int64} (ha : SE cvR mi Γ 0 pc p1 A) (hb : SE cvI mi Γ 1 p1 p2 B) (hv : SE cvL mi Γ 2 p2 p3 V) (d : decode mi.2.1 p3 = .ok (.lastore, 1)) (hs : gsub Γ Γ' = true) : SS rt mi ΓL PB PK Γ Γ' pc [p3 + 1] (d3 stL A B V) := by
  refine t_3 1 1 catR catI _ (fun _ _ _ _ _ q => stL_le q) hs (fun κ p l e R s m args below meth c nb sb Q C f h a b v h2 q K => ?_) ha hb hv
  unfold stL at q
  split at q
  · rename_i hc
    cases q
    exact z_last C hc.1 hc.2 d K
  · cases q
theorem t_stR {A : Ex Nat} {B : Ex Int32} {V : Ex Nat} (ha : SE cvR mi Γ 0 pc p1 A) (hb : SE cvI mi Γ 1 p1 p2 B) (hv : SE cvR mi Γ 2 p2 p3 V) (d : decode mi.2.1 p3 = .ok (.aastore, 1)) (hs : gsub Γ Γ' = true) : SS rt mi ΓL PB PK Γ Γ' pc [p3 + 1] (d3 stR A B V) := by
  refine t_3 1 1 catR catI _ (fun _ _ _ _ _ q => stR_le q) hs (fun κ p l e R s m args below meth c nb sb Q C f h a b v h2 q K => ?_) ha hb hv
  unfold stR at q
  split at q
  · rename_i hc
    cases q
    exact z_aast C hc.1 hc.2.1 hc.2.2 d K
  · cases q
-- fields
theorem fvl_wI (κ : KX) (h : St) (r k : Nat) (x : Int32) (j : Nat) (hj : j ≠ k) (t : Nat) : fvl κ (wI h r k x) r j t = fvl κ h r j t := by
  unfold fvl
  have e : hi (wI h r k x) r j = hi h r j := by rw [hi_wI, if_neg (fun z => hj z.2)]
  rw [e]
  rfl
theorem fvl_wL (κ : KX) (h : St) (r k : Nat) (x : Int64) (j : Nat) (hj : j ≠ k) (t : Nat) : fvl κ (wL h r k x) r j t = fvl κ h r j t := by
  unfold fvl
  have e : hl (wL h r k x) r j = hl h r j := by rw [hl_wL, if_neg (fun z => hj z.2)]
  rw [e]
  rfl
theorem fvl_wR (κ : KX) (h : St) (r k : Nat) (x : Nat) (j : Nat) (hj : j ≠ k) (t : Nat) : fvl κ (wR h r k x) r j t = fvl κ h r j t := by
  unfold fvl
  have e : hr (wR h r k x) r j = hr h r j := by rw [hr_wR, if_neg (fun z => hj z.2)]
  rw [e]
  rfl
def fin_ok (mi : MI) (T : u_T) (k : Nat) : Prop := (T k).2.2.2 = false ∨ ((T k).2.2.2 = true ∧ mi.2.2.2.2 = true ∧ (T k).1 = mi.1)
theorem t_pI {cl N : Nat} {CN : String} {T : u_T} {ty : Nat → FieldType} (ck : ClOK cl CN T N ty) (kk : Nat) {idx : Nat} {A : Ex Nat} {V : Ex Int32} (hk1 : kk < N) (ht : ty kk = .int) (hfin : fin_ok mi T kk) (ha : SE cvR mi Γ 0 pc p1 A) (hv : SE cvI mi Γ 1 p1 p2 V) (d : decode mi.2.1 p2 = .ok (.putfield idx, 3)) (hl : Cond.fieldLink mi.1 idx (T kk).1 (T kk).2.1 (T kk).2.2.1 ∈ TB) (hs : gsub Γ Γ' = true) : SS rt mi ΓL PB PK Γ Γ' pc [p2 + 3] (dP (fI cl kk) A V) := by
  refine t_p 1 catR _ (fun _ _ _ _ q => fI_le q) hs (fun κ p l e R s m args below meth c nb sb Q C f h a v h2 q K => ?_) ha hv
  unfold fI at q
  split at q
  · rename_i hc
    cases q
    refine z_put C ck hk1 hfin hl d hc (h' := wI h a kk v) (v := .int v) (by rw [ht]; rfl) (by rw [ht]; rfl) rfl (fun _ => rfl) (ec_wI κ h a kk v) (fun q hq k => by rw [hi_wI, if_neg (fun z => hq z.1)]) rfl ?_ (fvl_wI κ h a kk v) K
    rw [ht]
    show Value.int (hi (wI h a kk v) a kk) = _
    rw [hi_wI, if_pos ⟨rfl, rfl⟩]
  · cases q
theorem t_pZ {cl N : Nat} {CN : String} {T : u_T} {ty : Nat → FieldType} (ck : ClOK cl CN T N ty) (kk : Nat) {idx : Nat} {A : Ex Nat} {V : Ex Int32} (hk1 : kk < N) (ht : ty kk = .boolean) (hfin : fin_ok mi T kk) (ha : SE cvR mi Γ 0 pc p1 A) (hv : SE cvI mi Γ 1 p1 p2 V) (d : decode mi.2.1 p2 = .ok (.putfield idx, 3)) (hl : Cond.fieldLink mi.1 idx (T kk).1 (T kk).2.1 (T kk).2.2.1 ∈ TB) (hs : gsub Γ Γ' = true) : SS rt mi ΓL PB PK Γ Γ' pc [p2 + 3] (dP (fZ cl kk) A V) := by
  refine t_p 1 catR _ (fun _ _ _ _ q => fZ_le q) hs (fun κ p l e R s m args below meth c nb sb Q C f h a v h2 q K => ?_) ha hv
  unfold fZ at q
  split at q
  · rename_i hc
    cases q
    refine z_put C ck hk1 hfin hl d hc.1 (h' := wI h a kk v) (v := .int v) (by rw [ht]; rcases hc.2 with z | z <;> rw [z] <;> rfl) (by rw [ht]; rcases hc.2 with z | z <;> rw [z] <;> rfl) rfl (fun _ => rfl) (ec_wI κ h a kk v) (fun q hq k => by rw [hi_wI, if_neg (fun z => hq z.1)]) rfl ?_ (fvl_wI κ h a kk v) K
    rw [ht]
    show Value.int (hi (wI h a kk v) a kk) = _
    rw [hi_wI, if_pos ⟨rfl, rfl⟩]
  · cases q
theorem t_pL {cl N : Nat} {CN : String} {T : u_T} {ty : Nat → FieldType} (ck : ClOK cl CN T N ty) (kk : Nat) {idx : Nat} {A : Ex Nat} {V : Ex Int64} (hk1 : kk < N) (ht : ty kk = .long) (hfin : fin_ok mi T kk) (ha : SE cvR mi Γ 0 pc p1 A) (hv : SE cvL mi Γ 1 p1 p2 V) (d : decode mi.2.1 p2 = .ok (.putfield idx, 3)) (hl1 : Cond.fieldLink mi.1 idx (T kk).1 (T kk).2.1 (T kk).2.2.1 ∈ TB) (hs : gsub Γ Γ' = true) : SS rt mi ΓL PB PK Γ Γ' pc [p2 + 3] (dP (fL cl kk) A V) := by
  refine t_p 1 catR _ (fun _ _ _ _ q => fL_le q) hs (fun κ p l e R s m args below meth c nb sb Q C f h a v h2 q K => ?_) ha hv
  unfold fL at q
  split at q
  · rename_i hc
    cases q
    refine z_put C ck hk1 hfin hl1 d hc (h' := wL h a kk v) (v := .long v) (by rw [ht]; rfl) (by rw [ht]; rfl) rfl (fun _ => rfl) (ec_wL κ h a kk v) (fun q hq k => rfl) rfl ?_ (fvl_wL κ h a kk v) K
    rw [ht]
    show Value.long (hl (wL h a kk v) a kk) = _
    rw [hl_wL, if_pos ⟨rfl, rfl⟩]
  · cases q
theorem t_pR {cl N : Nat} {CN : String} {T : u_T} {ty : Nat → FieldType} (ck : ClOK cl CN T N ty) (kk : Nat) {idx : Nat} {A V : Ex Nat} (hk1 : kk < N) (ht : ftag (ty kk) = 2) (hnr : narrow (ty kk) .null = .null ∧ fits (ty kk) .null = true ∧ ∀ a : Nat, narrow (ty kk) (.ref a) = .ref a ∧ fits (ty kk) (.ref a) = true) (hfin : fin_ok mi T kk) (ha : SE cvR mi Γ 0 pc p1 A) (hv : SE cvR mi Γ 1 p1 p2 V) (d : decode mi.2.1 p2 = .ok (.putfield idx, 3)) (hl1 : Cond.fieldLink mi.1 idx (T kk).1 (T kk).2.1 (T kk).2.2.1 ∈ TB) (hs : gsub Γ Γ' = true) : SS rt mi ΓL PB PK Γ Γ' pc [p2 + 3] (dP (fR cl kk) A V) := by
  refine t_p 1 catR _ (fun _ _ _ _ q => fR_le q) hs (fun κ p l e R s m args below meth c nb sb Q C f h a v h2 q K => ?_) ha hv
  unfold fR at q
  split at q
  · rename_i hc
    cases q
    refine z_put C ck hk1 hfin hl1 d hc (h' := wR h a kk v) (v := rv κ v) (by rcases rv_or κ v with z | ⟨y, z⟩ <;> rw [z]; exact hnr.1; exact (hnr.2.2 y).1) (by rcases rv_or κ v with z | ⟨y, z⟩ <;> rw [z]; exact hnr.2.1; exact (hnr.2.2 y).2) rfl (fun _ => rfl) (ec_wR κ h a kk v) (fun q hq k => rfl) rfl ?_ (fvl_wR κ h a kk v) K
    rw [ht]
    show rv κ (hr (wR h a kk v) a kk) = _
    rw [hr_wR, if_pos ⟨rfl, rfl⟩]
  · cases q
-- taken and put again
theorem t_UA {g : Int32 → Int32 → Int32} {A : Ex Nat} {I V : Ex Int32} (ha : SE cvR mi Γ 0 pc p1 A) (hi1 : SE cvI mi Γ 1 p1 p2 I) (d1 : decode mi.2.1 p2 = .ok (.dup2, 1)) (d2 : decode mi.2.1 (p2 + 1) = .ok (.iaload, 1)) (hv : SE cvI mi Γ 3 (p2 + 2) p3 V) (hu : ∀ κ x y st, RUL mi p3 (p3 + 1) (cvI κ y :: cvI κ x :: st) (cvI κ (g x y) :: st)) (d3 : decode mi.2.1 (p3 + 1) = .ok (.iastore, 1)) (hs : gsub Γ Γ' = true) : SS rt mi ΓL PB PK Γ Γ' pc [p3 + 2] (dUA g A I V) := by
  refine ⟨fun f h o f' h' q => ?_, ?_⟩
  · obtain ⟨⟨a, h1⟩, q1, q⟩ := ob_some.mp q
    obtain ⟨⟨i, h2⟩, q2, q⟩ := ob_some.mp q
    dsimp only at q
    split at q
    · obtain ⟨⟨v, h3⟩, q3, q⟩ := ob_some.mp q
      obtain ⟨h4, q4, q⟩ := ob_some.mp q
      cases q
      exact (ha.1 _ _ _ _ q1).tr ((hi1.1 _ _ _ _ q2).tr ((hv.1 _ _ _ _ q3).tr (stI_le q4)))
    · cases q
  · intro κ p l e R s m args below meth c nb sb Q C f h o f' h' q L K0 _ _ _
    obtain ⟨⟨a, h1⟩, q1, q⟩ := ob_some.mp q
    obtain ⟨⟨i, h2⟩, q2, q⟩ := ob_some.mp q
    dsimp only at q
    split at q
    · rename_i hc
      obtain ⟨⟨v, h3⟩, q3, q⟩ := ob_some.mp q
      obtain ⟨h4, q4, q⟩ := ob_some.mp q
      cases q
      have l3 := stI_le q4
      have l2 := (hv.1 _ _ _ _ q3).tr l3
      have l1 := (hi1.1 _ _ _ _ q2).tr l2
      have hcr := catR κ a
      have hrc : (cvR κ a).category = 1 := by
        unfold cvR
        rcases rv_or κ a with z | ⟨y, z⟩ <;> rw [z] <;> rfl
      refine ha.2 κ p l e R s m args below meth c nb sb Q C f h a h1 q1 (L.le l1) [] (Nat.le_refl _) ?_
      refine hi1.2 κ p l e R s m args below meth c nb sb Q C f h1 i h2 q2 (L.le l2) _ (by simp only [List.map_cons, List.map_nil, List.sum_cons, List.sum_nil]; omega) ?_
      intro ls H locs b0 b1 b2 b3 b4
      refine lv_dup2_11 C.exec C.code d1 rfl hrc ?_
      refine z_iald C (f := f) (Γ := Γ) (Or.inl hc.1) hc.2 d2 ?_ ls H locs b0 b1 b2 b3 b4
      refine hv.2 κ p l e R s m args below meth c nb sb Q C f h2 v h3 q3 (L.le l3) _ (by simp only [List.map_cons, List.map_nil, List.sum_cons, List.sum_nil]; have : (cvI κ i).category = 1 := rfl; have : (Value.int (hi h2 a i.toNatClampNeg)).category = 1 := rfl; omega) ?_
      refine (hu κ _ _ _).go C ?_
      unfold stI at q4
      split at q4
      · rename_i hc4
        cases q4
        exact z_iast C hc4.1 hc4.2 d3 (GO.gsb hs (K0 rfl _ (List.mem_singleton.mpr rfl)))
      · cases q4
    · cases q
theorem t_UL {g : Int64 → Int64 → Int64} {A : Ex Nat} {I : Ex Int32} {V : Ex Int64} (ha : SE cvR mi Γ 0 pc p1 A) (hi1 : SE cvI mi Γ 1 p1 p2 I) (d1 : decode mi.2.1 p2 = .ok (.dup2, 1)) (d2 : decode mi.2.1 (p2 + 1) = .ok (.laload, 1)) (hv : SE cvL mi Γ 4 (p2 + 2) p3 V) (hu : ∀ κ x y st, RUL mi p3 (p3 + 1) (cvL κ y :: cvL κ x :: st) (cvL κ (g x y) :: st)) (d3 : decode mi.2.1 (p3 + 1) = .ok (.lastore, 1)) (hs : gsub Γ Γ' = true) : SS rt mi ΓL PB PK Γ Γ' pc [p3 + 2] (dUL g A I V) := by
  refine ⟨fun f h o f' h' q => ?_, ?_⟩
  · obtain ⟨⟨a, h1⟩, q1, q⟩ := ob_some.mp q
    obtain ⟨⟨i, h2⟩, q2, q⟩ := ob_some.mp q
    dsimp only at q
    split at q
    · obtain ⟨⟨v, h3⟩, q3, q⟩ := ob_some.mp q
      obtain ⟨h4, q4, q⟩ := ob_some.mp q
      cases q
      exact (ha.1 _ _ _ _ q1).tr ((hi1.1 _ _ _ _ q2).tr ((hv.1 _ _ _ _ q3).tr (stL_le q4)))
    · cases q
  · intro κ p l e R s m args below meth c nb sb Q C f h o f' h' q L K0 _ _ _
    obtain ⟨⟨a, h1⟩, q1, q⟩ := ob_some.mp q
    obtain ⟨⟨i, h2⟩, q2, q⟩ := ob_some.mp q
    dsimp only at q
    split at q
    · rename_i hc
      obtain ⟨⟨v, h3⟩, q3, q⟩ := ob_some.mp q
      obtain ⟨h4, q4, q⟩ := ob_some.mp q
      cases q
      have l3 := stL_le q4
      have l2 := (hv.1 _ _ _ _ q3).tr l3
      have l1 := (hi1.1 _ _ _ _ q2).tr l2
      have hcr := catR κ a
      have hrc : (cvR κ a).category = 1 := by
        unfold cvR
        rcases rv_or κ a with z | ⟨y, z⟩ <;> rw [z] <;> rfl
      refine ha.2 κ p l e R s m args below meth c nb sb Q C f h a h1 q1 (L.le l1) [] (Nat.le_refl _) ?_
      refine hi1.2 κ p l e R s m args below meth c nb sb Q C f h1 i h2 q2 (L.le l2) _ (by simp only [List.map_cons, List.map_nil, List.sum_cons, List.sum_nil]; omega) ?_
      intro ls H locs b0 b1 b2 b3 b4
      refine lv_dup2_11 C.exec C.code d1 rfl hrc ?_
      refine z_lald C (f := f) (Γ := Γ) hc.1 hc.2 d2 ?_ ls H locs b0 b1 b2 b3 b4
      refine hv.2 κ p l e R s m args below meth c nb sb Q C f h2 v h3 q3 (L.le l3) _ (by simp only [List.map_cons, List.map_nil, List.sum_cons, List.sum_nil]; have : (cvI κ i).category = 1 := rfl; have : (Value.long (hl h2 a i.toNatClampNeg)).category = 2 := rfl; omega) ?_
      refine (hu κ _ _ _).go C ?_
      unfold stL at q4
      split at q4
      · rename_i hc4
        cases q4
        exact z_last C hc4.1 hc4.2 d3 (GO.gsb hs (K0 rfl _ (List.mem_singleton.mpr rfl)))
      · cases q4
    · cases q
theorem t_UF {cl N : Nat} {CN : String} {T : u_T} {ty : Nat → FieldType} (ck : ClOK cl CN T N ty) (kk : Nat) {idx idx2 : Nat} {g : Int32 → Int32 → Int32} {A : Ex Nat} {V : Ex Int32} (hk1 : kk < N) (ht : ty kk = .int) (hfin : fin_ok mi T kk) (ha : SE cvR mi Γ 0 pc p1 A) (d1 : decode mi.2.1 p1 = .ok (.dup, 1)) (d2 : decode mi.2.1 (p1 + 1) = .ok (.getfield idx, 3)) (hl1 : Cond.fieldLink mi.1 idx (T kk).1 (T kk).2.1 (T kk).2.2.1 ∈ TB) (hv : SE cvI mi Γ 2 (p1 + 4) p2 V) (hu : ∀ κ x y st, RUL mi p2 (p2 + 1) (cvI κ y :: cvI κ x :: st) (cvI κ (g x y) :: st)) (d3 : decode mi.2.1 (p2 + 1) = .ok (.putfield idx2, 3)) (hl2 : Cond.fieldLink mi.1 idx2 (T kk).1 (T kk).2.1 (T kk).2.2.1 ∈ TB) (hs : gsub Γ Γ' = true) : SS rt mi ΓL PB PK Γ Γ' pc [p2 + 4] (dUF cl kk g A V) := by
  refine ⟨fun f h o f' h' q => ?_, ?_⟩
  · obtain ⟨⟨a, h1⟩, q1, q⟩ := ob_some.mp q
    dsimp only at q
    split at q
    · obtain ⟨⟨v, h3⟩, q3, q⟩ := ob_some.mp q
      obtain ⟨h4, q4, q⟩ := ob_some.mp q
      cases q
      exact (ha.1 _ _ _ _ q1).tr ((hv.1 _ _ _ _ q3).tr (fI_le q4))
    · cases q
  · intro κ p l e R s m args below meth c nb sb Q C f h o f' h' q L K0 _ _ _
    obtain ⟨⟨a, h1⟩, q1, q⟩ := ob_some.mp q
    dsimp only at q
    split at q
    · rename_i hc
      obtain ⟨⟨v, h3⟩, q3, q⟩ := ob_some.mp q
      obtain ⟨h4, q4, q⟩ := ob_some.mp q
      cases q
      have l3 := fI_le q4
      have l2 := (hv.1 _ _ _ _ q3).tr l3
      have hrc : (cvR κ a).category = 1 := by
        unfold cvR
        rcases rv_or κ a with z | ⟨y, z⟩ <;> rw [z] <;> rfl
      refine ha.2 κ p l e R s m args below meth c nb sb Q C f h a h1 q1 (L.le l2) [] (Nat.le_refl _) ?_
      intro ls H locs b0 b1 b2 b3 b4
      refine lv_dup C.exec C.code d1 hrc ?_
      refine z_get C (f := f) (Γ := Γ) ck hk1 hl1 d2 hc ?_ ls H locs b0 b1 b2 b3 b4
      rw [ht]
      refine hv.2 κ p l e R s m args below meth c nb sb Q C f h1 v h3 q3 (L.le l3) _ (by simp only [List.map_cons, List.map_nil, List.sum_cons, List.sum_nil]; have : (fvl κ h1 a kk (ftag FieldType.int)).category = 1 := rfl; omega) ?_
      refine (hu κ _ _ _).go C ?_
      unfold fI at q4
      split at q4
      · rename_i hc4
        cases q4
        refine z_put C ck hk1 hfin hl2 d3 hc4 (h' := wI h3 a kk (g (hi h1 a kk) v)) (v := .int (g (hi h1 a kk) v)) (by rw [ht]; rfl) (by rw [ht]; rfl) rfl (fun _ => rfl) (ec_wI κ h3 a kk _) (fun q hq k => by rw [hi_wI, if_neg (fun z => hq z.1)]) rfl ?_ (fvl_wI κ h3 a kk _) (GO.gsb hs (K0 rfl _ (List.mem_singleton.mpr rfl)))
        rw [ht]
        show Value.int (hi (wI h3 a kk _) a kk) = _
        rw [hi_wI, if_pos ⟨rfl, rfl⟩]
      · cases q4
    · cases q
/-- a call whose value goes nowhere -/
theorem t_do {E : Ex Unit} (he : SV cvoV mi Γ 0 pc p1 E) (hs : gsub Γ Γ' = true) : SS rt mi ΓL PB PK Γ Γ' pc [p1] (dDo E) := by
  refine ⟨fun f h o f' h' q => ?_, ?_⟩
  · obtain ⟨⟨v, h1⟩, q1, q⟩ := ob_some.mp q
    cases q
    exact he.1 _ _ _ _ q1
  · intro κ p l e R s m args below meth c nb sb Q C f h o f' h' q L K0 _ _ _
    obtain ⟨⟨v, h1⟩, q1, q⟩ := ob_some.mp q
    cases q
    exact he.2 κ p l e R s m args below meth c nb sb Q C f h v _ q1 L [] (Nat.le_refl _) (GO.gsb hs (K0 rfl _ (List.mem_singleton.mpr rfl)))
theorem t_pop {E : Ex Int32} (he : SE cvI mi Γ 0 pc p1 E) (d : decode mi.2.1 p1 = .ok (.pop, 1)) (hs : gsub Γ Γ' = true) : SS rt mi ΓL PB PK Γ Γ' pc [p1 + 1] (dDo E) := by
  refine ⟨fun f h o f' h' q => ?_, ?_⟩
  · obtain ⟨⟨v, h1⟩, q1, q⟩ := ob_some.mp q
    cases q
    exact he.1 _ _ _ _ q1
  · intro κ p l e R s m args below meth c nb sb Q C f h o f' h' q L K0 _ _ _
    obtain ⟨⟨v, h1⟩, q1, q⟩ := ob_some.mp q
    cases q
    refine he.2 κ p l e R s m args below meth c nb sb Q C f h v _ q1 L [] (Nat.le_refl _) ?_
    intro ls H locs a b d1 e1 e2
    exact lv_pop C.exec C.code d rfl (GO.gsb hs (K0 rfl _ (List.mem_singleton.mpr rfl)) ls H locs a b d1 e1 e2)
-- switches
def SWC (rt : (KX → α → Option Value) × Instr) (mi : MI) (ΓL : Gm) (PB PK : List Nat) (Γ Γ' : Gm) (X : List Nat) : List Nat → List (Sm α) → Prop
  | [], [] => True
  | p :: ps, S :: ss => SS rt mi ΓL PB PK Γ Γ' p X S ∧ SWC rt mi ΓL PB PK Γ Γ' X ps ss
  | _, _ => False
theorem SWC.get : ∀ {ps : List Nat} {ss : List (Sm α)}, SWC rt mi ΓL PB PK Γ Γ' X ps ss → ∀ (i : Nat) (S : Sm α), ss[i]? = some S → ∃ p, ps[i]? = some p ∧ SS rt mi ΓL PB PK Γ Γ' p X S
  | [], [], _, i, S, h => by simp at h
  | p :: ps, S0 :: ss, hw, 0, S, h => ⟨p, rfl, by simp at h; rw [← h]; exact hw.1⟩
  | p :: ps, S0 :: ss, hw, i + 1, S, h => by
    obtain ⟨p', g1, g2⟩ := SWC.get hw.2 i S (by simpa using h)
    exact ⟨p', by simpa using g1, g2⟩
theorem t_sw {A : Ex Int32} {cs : List (Sm α)} {df : Sm α} {ps : List Nat} {dflt lo hi2 : Int} {offs : Array Int} {len pD : Nat} (ha : SE cvI mi Γ 0 pc p1 A) (d : decode mi.2.1 p1 = .ok (.tableswitch dflt lo hi2 offs, len)) (hhi : hi2 = lo + cs.length - 1)
    (hoff : offs.toList.map (fun o => (p1 : Int) + o) = ps.map Int.ofNat) (hD : (p1 : Int) + dflt = (pD : Int)) (hc : SWC rt mi Γ' X PK Γ Γ' X ps cs) (hd : SS rt mi Γ' X PK Γ Γ' pD X df) (hPK : PK = []) : SS rt mi ΓL PB PK Γ Γ' pc X (dSw lo A cs df) := by
  have hss : ∀ x : Int32, ∃ pT, SS rt mi Γ' X PK Γ Γ' pT X ((if lo ≤ x.toInt then cs[(x.toInt - lo).toNat]? else none).getD df) ∧ ∀ {p : Program} {l : Launch} {e : Env} {R : Room} {s : State} {m : MethodId} {args : Array Value} {below : List Frame} {meth : Method} {c : Code} {H : Heap} {locs : List Loc} {cells slots : Nat} {Q : State → Prop} {ls : Array Slot} {rest : List Value}, p.tables.exec = Jvm.exec → c.code = mi.2.1 → W p l e R s m args below meth c H locs cells slots Q (F0 m pT ls rest) → W p l e R s m args below meth c H locs cells slots Q (F0 m p1 ls (.int x :: rest)) := by
    intro x
    by_cases h1 : lo ≤ x.toInt
    · rw [if_pos h1]
      rcases hg : cs[(x.toInt - lo).toNat]? with _ | S
      · have hlen := List.getElem?_eq_none_iff.mp hg
        exact ⟨pD, hd, fun a b K => lv_tableOut a b d (Or.inr (by omega)) hD K⟩
      · obtain ⟨hlt, -⟩ := List.getElem?_eq_some_iff.mp hg
        obtain ⟨pT, g1, g2⟩ := hc.get _ S hg
        refine ⟨pT, g2, fun a b K => ?_⟩
        have h2 : (offs.toList.map (fun o => (p1 : Int) + o))[(x.toInt - lo).toNat]? = some (Int.ofNat pT) := by
          rw [hoff, List.getElem?_map, g1]
          rfl
        rw [List.getElem?_map] at h2
        rcases ho : offs.toList[(x.toInt - lo).toNat]? with _ | off
        · rw [ho] at h2; cases h2
        · rw [ho] at h2
          rw [Array.getElem?_toList] at ho
          exact lv_tableIn a b d (by omega) (by omega) ho (by simpa using h2) K
    · rw [if_neg h1]
      exact ⟨pD, hd, fun a b K => lv_tableOut a b d (Or.inl (by omega)) hD K⟩
  refine ⟨fun f h o f' h' q => ?_, ?_⟩
  · obtain ⟨⟨v, h1⟩, q1, q⟩ := ob_some.mp q
    obtain ⟨⟨o1, f1, h2⟩, q2, q⟩ := ob_some.mp q
    cases q
    obtain ⟨pT, g1, -⟩ := hss v
    exact (ha.1 _ _ _ _ q1).tr (g1.1 _ _ _ _ _ q2)
  · intro κ p l e R s m args below meth c nb sb Q C f h o f' h' q L K0 K1 K2 K3
    obtain ⟨⟨v, h1⟩, q1, q⟩ := ob_some.mp q
    obtain ⟨⟨o1, f1, h2⟩, q2, q⟩ := ob_some.mp q
    cases q
    obtain ⟨pT, g1, g2⟩ := hss v
    refine ha.2 κ p l e R s m args below meth c nb sb Q C f h v h1 q1 (L.le (g1.1 _ _ _ _ _ q2)) [] (Nat.le_refl _) ?_
    intro ls H locs a b d1 e1 e2
    refine g2 C.exec C.code (g1.2 κ p l e R s m args below meth c nb sb Q C f h1 o1 _ _ q2 L (fun e0 x hx => ?_) (fun e0 x hx => ?_) (fun e0 x hx => ?_) (fun v0 e0 => ?_) ls H locs a b d1 e1 e2)
    · subst e0
      exact K0 rfl x hx
    · subst e0
      exact K0 rfl x hx
    · rw [hPK] at hx
      cases hx
    · subst e0
      exact K3 v0 rfl
end
