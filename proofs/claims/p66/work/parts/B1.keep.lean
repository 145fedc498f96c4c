set_option maxRecDepth 100000
set_option maxHeartbeats 1000000
/-! what stands where nothing of it is changed -/
theorem RC.keep {D : Nat → Prop} {h g : St} {c : Nat} {S : PT} (H : RC h c S) (q : Ch D h g) (hd : ∀ o, c ≤ o → o < c + 8 → ¬ D o) : RC g c S := fun j k hjk => by
  rw [(q.2 _ (hd (c + j) (by omega) (by have := hjk.1; omega))).1]
  exact H j k hjk
theorem Fresh.keep {D : Nat → Prop} {h g : St} {d : Nat} {P : PT} (H : Fresh h d P) (q : Ch D h g) (hd : ∀ o, d ≤ o → o < d + 14 → ¬ D o) : Fresh g d P := by
  have e0 := (q.2 d (hd d (by omega) (by omega))).1 0
  rcases H with ⟨h1, S, h2⟩ | ⟨h1, S, h2⟩
  · exact Or.inl ⟨by rw [e0]; exact h1, S, h2.keep q (fun o h3 h4 => hd o (by omega) (by omega))⟩
  · exact Or.inr ⟨by rw [e0]; exact h1, S, h2.to q (fun j h3 h4 => hd _ (by omega) (by omega))⟩
theorem AO1.keep {D : Nat → Prop} {h g : St} {a : Nat} {P : PT} (H : AO1 h a P) (q : Ch D h g) (hd : ∀ o, a ≤ o → o < a + 13 → ¬ D o) : AO1 g a P := by
  have e0 := (q.2 a (hd a (by omega) (by omega))).1
  rcases H with h1 | ⟨s, t, h1, h2, h3, h4, h5⟩
  · exact Or.inl (by rw [e0]; exact h1)
  · exact Or.inr ⟨s, t, h1, h2, by rw [e0]; exact h3, by rw [e0]; exact h4, h5.ch q (hd _ (by omega) (by omega)) (hd _ (by omega) (by omega)) (hd _ (by omega) (by omega))⟩
theorem AO2.keep {D : Nat → Prop} {h g : St} {a : Nat} {P : PT} (H : AO2 h a P) (q : Ch D h g) (h0 : ¬ D a ∨ hi g a 16 = hi h a 16) (h3 : ¬ D (a + 3)) : AO2 g a P := by
  have e0 : hi g a 16 = hi h a 16 := h0.elim (fun z => (q.2 a z).1 16) id
  unfold AO2
  rw [e0]
  rcases H with h1 | ⟨s, h1, h2, h4⟩
  · exact Or.inl h1
  · exact Or.inr ⟨s, h1, h2, fun x hx => by rw [(q.2 _ h3).1]; exact h4 x hx⟩
theorem CNs.keep {D : Nat → Prop} {h g W : St} (H : CNs h W) (q : Ch D h g) (h1 : ∀ o, D o → 31 ≤ o ∧ o < 122) : CNs g W := ⟨H.1.tr q.1, fun o ho => by
  have e := q.2 o (fun z => ho (h1 o z))
  exact ⟨fun k => (e.1 k).trans ((H.2 o ho).1 k), fun k => (e.2 k).trans ((H.2 o ho).2 k)⟩⟩
section
variable {W h g : St} {P : PT}
theorem Inv.sh (H : Inv W h P) : Shp h := H.1
theorem Inv.co (H : Inv W h P) : CO h := H.1.1
theorem Inv.pg (H : Inv W h P) : PG h oP P := ⟨H.1.2.1, H.2.1, H.2.2.1⟩
theorem Inv.w (H : Inv W h P) : WFP P := H.2.2.1
theorem Inv.fr (H : Inv W h P) : Fresh h oD P := H.2.2.2.1
theorem Inv.wi (H : Inv W h P) : ∃ S, RC h (oW + 1) S := H.2.2.2.2.1
theorem Inv.a1 (H : Inv W h P) : AO1 h oA P := H.2.2.2.2.2.1
theorem Inv.a2 (H : Inv W h P) : AO2 h oA P := H.2.2.2.2.2.2.1
theorem Inv.cn (H : Inv W h P) : CNs h W := H.2.2.2.2.2.2.2
theorem Inv.s (H : Inv W h P) : SH W h := H.cn.1
theorem Inv.ps (H : Inv W h P) : PS h oP := H.1.2.1
theorem Inv.ds (H : Inv W h P) : DS h oD := H.1.2.2.2.1
theorem Inv.dw (H : Inv W h P) : DS h oW := H.1.2.2.2.2.1
theorem Inv.as (H : Inv W h P) : AS h oA := H.1.2.2.2.2.2
/-- the same, seen from here -/
theorem Inv.rb (H : Inv W h P) : Inv h h P := ⟨H.1, H.2.1, H.2.2.1, H.2.2.2.1, H.2.2.2.2.1, H.2.2.2.2.2.1, H.2.2.2.2.2.2.1, SH.rf h, fun _ _ => ⟨fun _ => rfl, fun _ => rfl⟩⟩
theorem Inv.of {V : St} (H : Inv W h P) (k : CNs W V) : Inv V h P := ⟨H.1, H.2.1, H.2.2.1, H.2.2.2.1, H.2.2.2.2.1, H.2.2.2.2.2.1, H.2.2.2.2.2.2.1, k.1.tr H.cn.1, fun o ho => ⟨fun j => ((H.cn.2 o ho).1 j).trans ((k.2 o ho).1 j), fun j => ((H.cn.2 o ho).2 j).trans ((k.2 o ho).2 j)⟩⟩
theorem CNs.tr {a b c : St} (h1 : CNs b a) (h2 : CNs c b) : CNs c a := ⟨h1.1.tr h2.1, fun o ho => ⟨fun j => ((h2.2 o ho).1 j).trans ((h1.2 o ho).1 j), fun j => ((h2.2 o ho).2 j).trans ((h1.2 o ho).2 j)⟩⟩
theorem Inv.upd {D : Nat → Prop} (H : Inv W h P) (q : Ch D h g) (hD : ∀ o, D o → 72 ≤ o ∧ o < 122) (f : Fresh g oD P) (w : ∃ S, RC g (oW + 1) S) (a1 : AO1 g oA P) (a2 : AO2 g oA P) : Inv W g P := by
  have hc := o_is
  refine ⟨H.sh.to q.1, RP.ch q (fun j hj z => ?_) H.2.1, H.w, f, w, a1, a2, H.cn.keep q (fun o ho => by have := hD o ho; omega)⟩
  have := hD _ z
  omega
/-- a change of a part of what is scratch -/
theorem Inv.part {D : Nat → Prop} (H : Inv W h P) (q : Ch D h g) (hD : ∀ o, D o → 72 ≤ o ∧ o < 122) (f : (∀ o, 72 ≤ o → o < 86 → ¬ D o) ∨ Fresh g oD P) (w : (∀ o, 87 ≤ o → o < 95 → ¬ D o) ∨ ∃ S, RC g (oW + 1) S) (a1 : (∀ o, 102 ≤ o → o < 115 → ¬ D o) ∨ AO1 g oA P) (a2 : (∀ o, 102 ≤ o → o < 115 → ¬ D o) ∨ AO2 g oA P) : Inv W g P := by
  have hc := o_is
  refine H.upd q hD (f.elim (fun z => H.fr.keep q (fun o h1 h2 => z o (by omega) (by omega))) id) (w.elim (fun z => ?_) id) (a1.elim (fun z => H.a1.keep q (fun o h1 h2 => z o (by omega) (by omega))) id) (a2.elim (fun z => H.a2.keep q (Or.inl (z _ (by omega) (by omega))) (z _ (by omega) (by omega))) id)
  obtain ⟨S, hS⟩ := H.wi
  exact ⟨S, hS.keep q (fun o h1 h2 => z o (by omega) (by omega))⟩
theorem Inv.td (H : Inv W h P) (q : Ch (TD oD) h g) (f : Fresh g oD P) : Inv W g P := by
  have hc := o_is
  have n1 : ∀ o, (o < 72 ∨ 86 ≤ o) → ¬ TD oD o := fun o ho z => by unfold TD at z; omega
  exact H.part q (fun o ho => by unfold TD at ho; omega) (Or.inr f) (Or.inl fun o h1 h2 => n1 o (by omega)) (Or.inl fun o h1 h2 => n1 o (by omega)) (Or.inl fun o h1 h2 => n1 o (by omega))
theorem Inv.wh {D : Nat → Prop} (H : Inv W h P) (q : Ch D h g) (hD : ∀ o, D o → (86 ≤ o ∧ o < 102) ∨ (118 ≤ o ∧ o < 122)) (w : ∃ S, RC g (oW + 1) S) : Inv W g P := by
  have hc := o_is
  have n1 : ∀ o, (o < 86 ∨ 102 ≤ o ∧ o < 118 ∨ 122 ≤ o) → ¬ D o := fun o ho z => by have := hD o z; omega
  exact H.part q (fun o ho => by have := hD o ho; omega) (Or.inl fun o h1 h2 => n1 o (by omega)) (Or.inr w) (Or.inl fun o h1 h2 => n1 o (by omega)) (Or.inl fun o h1 h2 => n1 o (by omega))
theorem Inv.al {D : Nat → Prop} (H : Inv W h P) (q : Ch D h g) (hD : ∀ o, D o → 102 ≤ o ∧ o < 115) (a1 : AO1 g oA P) (a2 : AO2 g oA P) : Inv W g P := by
  have hc := o_is
  have n1 : ∀ o, (o < 102 ∨ 115 ≤ o) → ¬ D o := fun o ho z => by have := hD o z; omega
  exact H.part q (fun o ho => by have := hD o ho; omega) (Or.inl fun o h1 h2 => n1 o (by omega)) (Or.inl fun o h1 h2 => n1 o (by omega)) (Or.inr a1) (Or.inr a2)
theorem Inv.today (H : Inv W h P) : ∃ g S, DX11_today (sR fr0 0 oX) h = some (oD, g) ∧ DRel g oD P (asTold P S) ∧ Inv W g P ∧ Ch (TD oD) h g ∧ hi g oD 0 = nI 1 := by
  have hc := o_is
  obtain ⟨g, S, a1, b1, c1, d1⟩ := x_today H.co.koX H.co.roX_6 H.co.roX_2 H.ds H.pg (by omega) H.fr
  exact ⟨g, S, a1, c1, H.td d1 (Or.inr ⟨b1, S, c1⟩), d1, b1⟩
end
/-! a change of what is not the class's -/
def Lw (h g : St) : Prop := ∀ o, o < 122 → hk g o = hk h o ∧ (∀ k, hi g o k = hi h o k) ∧ (∀ k, hl g o k = hl h o k) ∧ (o ≠ 67 → ∀ k, hr g o k = hr h o k)
theorem Lw.rf (h : St) : Lw h h := fun _ _ => ⟨rfl, fun _ => rfl, fun _ => rfl, fun _ _ => rfl⟩
theorem Lw.tr {a b c : St} (h : Lw a b) (k : Lw b c) : Lw a c := fun o ho => ⟨(k o ho).1.trans (h o ho).1, fun j => ((k o ho).2.1 j).trans ((h o ho).2.1 j), fun j => ((k o ho).2.2.1 j).trans ((h o ho).2.2.1 j), fun z j => ((k o ho).2.2.2 z j).trans ((h o ho).2.2.2 z j)⟩
theorem Lw.wI {h : St} {r : Nat} (hr1 : 122 ≤ r) (k : Nat) (v : Int32) : Lw h (wI h r k v) := fun o ho => ⟨rfl, fun j => by rw [wI_hi, if_neg (fun z => by omega)], fun j => rfl, fun _ j => rfl⟩
theorem Lw.wL {h : St} {r : Nat} (hr1 : 122 ≤ r) (k : Nat) (v : Int64) : Lw h (wL h r k v) := fun o ho => ⟨rfl, fun j => rfl, fun j => by rw [wL_hl, if_neg (fun z => by omega)], fun _ j => rfl⟩
theorem Lw.wN {h : St} (hr1 : 122 ≤ hn h) (kd : Nat × Nat) (n : Nat) : Lw h (wN h kd n) := fun o ho => ⟨wN_hk (by omega), fun j => by rw [wN_hi (by omega)], fun j => by rw [wN_hl (by omega)], fun _ j => by rw [wN_hr (by omega)]⟩
section
variable {h g : St} {P S : PT}
theorem CO.lw (H : CO h) (k : Lw h g) : CO g := by
  have a : ∀ i, i < 18 → (soK.getD i (0, (0, 0))).1 < 122 := by decide
  have b : ∀ i, i < 22 → (soR.getD i (0, (0, 0))).1 < 122 ∧ (soR.getD i (0, (0, 0))).1 ≠ 67 := by decide
  exact ⟨fun i hi1 => by rw [(k _ (a i hi1)).1]; exact H.1 i hi1, fun i hi1 => by rw [(k _ (b i hi1).1).2.2.2 (b i hi1).2]; exact H.2 i hi1⟩
theorem PS.lw {p : Nat} (H : PS h p) (k : Lw h g) (hp : p + 16 ≤ 67 ∨ (67 < p ∧ p + 16 ≤ 122)) : PS g p := ⟨H.1, fun j hj => by rw [(k _ (by omega)).1]; exact H.2.1 j hj, fun j hj => by rw [(k _ (by omega)).2.2.2 (by omega)]; exact H.2.2.1 j hj, fun j hj => by rw [(k _ (by omega)).2.2.2 (by omega)]; exact H.2.2.2 j hj⟩
theorem CS.lw {c : Nat} (H : CS h c) (k : Lw h g) (hp : 67 < c ∧ c + 8 ≤ 122) : CS g c := ⟨H.1, by rw [(k _ (by omega)).1]; exact H.2.1, fun j hj h1 => by rw [(k _ (by omega)).1]; exact H.2.2.1 j hj h1, fun j hj => by rw [(k _ (by omega)).2.2.2 (by omega)]; exact H.2.2.2 j hj⟩
theorem DS.lw {d : Nat} (H : DS h d) (k : Lw h g) (hp : 67 < d ∧ d + 14 ≤ 122) : DS g d := ⟨H.1.lw k (by omega), by rw [(k _ (by omega)).1]; exact H.2.1, by rw [(k _ (by omega)).2.2.2 (by omega)]; exact H.2.2.1, fun j hj => by rw [(k _ (by omega)).2.2.2 (by omega)]; exact H.2.2.2.1 j hj, fun j hj => by rw [(k _ (by omega)).1]; exact H.2.2.2.2 j hj⟩
theorem AS.lw {a : Nat} (H : AS h a) (k : Lw h g) (hp : 67 < a ∧ a + 13 ≤ 122) : AS g a := ⟨H.1, by rw [(k _ (by omega)).1]; exact H.2.1, fun j hj => by rw [(k _ (by omega)).1]; exact H.2.2.1 j hj, fun j hj => by rw [(k _ (by omega)).2.2.2 (by omega)]; exact H.2.2.2 j hj⟩
theorem Shp.lw (H : Shp h) (k : Lw h g) : Shp g := ⟨H.1.lw k, H.2.1.lw k (by decide), H.2.2.1.lw k (by decide), H.2.2.2.1.lw k (by decide), H.2.2.2.2.1.lw k (by decide), H.2.2.2.2.2.lw k (by decide)⟩
theorem RP.lw {p : Nat} (H : RP h p P) (k : Lw h g) (hp : p + 16 ≤ 122) : RP g p P := ⟨fun a b hab => by rw [(k _ (by unfold PIn at hab; omega)).2.1]; exact H.1 a b hab, fun b hb => by rw [(k _ (by omega)).2.1, (k _ (by omega)).2.1]; exact H.2 b hb⟩
theorem RC.lw {c : Nat} (H : RC h c S) (k : Lw h g) (hp : c + 8 ≤ 122) : RC g c S := fun a b hab => by rw [(k _ (by have := hab.1; omega)).2.1]; exact H a b hab
theorem DRel.lw {d : Nat} (H : DRel h d P S) (k : Lw h g) (hp : d + 14 ≤ 122) : DRel g d P S := ⟨fun day hd => (H.1 day hd).to (fun j h1 h2 => (k _ (by omega)).2.1), fun day hd => by rw [(k _ (by omega)).2.1]; exact H.2.1 day hd, H.2.2.lw k (by omega)⟩
theorem Fresh.lw {d : Nat} (H : Fresh h d P) (k : Lw h g) (hp : d + 14 ≤ 122) : Fresh g d P := by
  have e := (k d (by omega)).2.1 0
  rcases H with ⟨h1, S, h2⟩ | ⟨h1, S, h2⟩
  · exact Or.inl ⟨by rw [e]; exact h1, S, h2.lw k (by omega)⟩
  · exact Or.inr ⟨by rw [e]; exact h1, S, h2.lw k hp⟩
theorem SR.lw {a s t : Nat} (H : SR h a P s t) (k : Lw h g) (hp : a + 13 ≤ 122) : SR g a P s t := by
  obtain ⟨sn, mw, mh, h1, h2, h3, h4, h5, h6⟩ := H
  exact ⟨sn, mw, mh, fun x hx => by rw [(k _ (by omega)).2.1]; exact h1 x hx, h2, fun x hx => by rw [(k _ (by omega)).2.1]; exact h3 x hx, h4, fun x hx => by rw [(k _ (by omega)).2.1]; exact h5 x hx, h6⟩
theorem AO1.lw {a : Nat} (H : AO1 h a P) (k : Lw h g) (hp : a + 13 ≤ 122) : AO1 g a P := by
  have e := (k a (by omega)).2.1
  rcases H with h1 | ⟨s, t, h1, h2, h3, h4, h5⟩
  · exact Or.inl (by rw [e]; exact h1)
  · exact Or.inr ⟨s, t, h1, h2, by rw [e]; exact h3, by rw [e]; exact h4, h5.lw k hp⟩
theorem AO2.lw {a : Nat} (H : AO2 h a P) (k : Lw h g) (hp : a + 13 ≤ 122) : AO2 g a P := by
  have e := (k a (by omega)).2.1
  unfold AO2
  rw [e]
  rcases H with h1 | ⟨s, h1, h2, h4⟩
  · exact Or.inl h1
  · exact Or.inr ⟨s, h1, h2, fun x hx => by rw [(k _ (by omega)).2.1]; exact h4 x hx⟩
theorem Inv.lw {W : St} (H : Inv W h P) (k : Lw h g) : Inv g g P := by
  obtain ⟨S, hS⟩ := H.wi
  exact ⟨H.sh.lw k, H.2.1.lw k (by decide), H.w, H.fr.lw k (by decide), ⟨S, hS.lw k (by decide)⟩, H.a1.lw k (by decide), H.a2.lw k (by decide), SH.rf g, fun _ _ => ⟨fun _ => rfl, fun _ => rfl⟩⟩
end
