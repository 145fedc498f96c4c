set_option maxRecDepth 100000
set_option maxHeartbeats 1000000
/-! what stands where nothing of it is changed -/
theorem RC.keep {D : Nat → Prop} {h g : St} {c : Nat} {S : PT} (H : RC h c S) (q : Ch D h g) (hd : ∀ o, c ≤ o → o < c + 8 → ¬ D o) : RC g c S := fun j k hjk => by
  rw [(q.2 _ (hd (c + j) (by omega) (by have := hjk.1; omega))).1]
  exact H j k hjk
theorem Fresh.keep {D : Nat → Prop} {h g : St} {d : Nat} {P : PT} (H : Fresh h d P) (q : Ch D h g) (hd : ∀ o, d ≤ o → o < d + 14 → ¬ D o) : Fresh g d P := by
  have e0 := (q.2 d (hd d (by omega) (by omega))).1 0
  rcases H with ⟨h1, S, h2⟩ | ⟨h1, S, h2⟩
  · exact Or.inl ⟨by rw [e0]; exact h1, S, h2.keep q (fun o h3 h4 => hd o (by omega) (by omega))⟩
  · exact Or.inr ⟨by rw [e0]; exact h1, S, h2.to q (fun j h3 h4 => hd _ (by omega) (by omega))⟩
theorem AO1.keep {D : Nat → Prop} {h g : St} {a : Nat} {P : PT} (H : AO1 h a P) (q : Ch D h g) (hd : ∀ o, a ≤ o → o < a + 13 → ¬ D o) : AO1 g a P := by
  have e0 := (q.2 a (hd a (by omega) (by omega))).1
  rcases H with h1 | ⟨s, t, h1, h2, h3, h4, h5⟩
  · exact Or.inl (by rw [e0]; exact h1)
  · exact Or.inr ⟨s, t, h1, h2, by rw [e0]; exact h3, by rw [e0]; exact h4, h5.ch q (hd _ (by omega) (by omega)) (hd _ (by omega) (by omega)) (hd _ (by omega) (by omega))⟩
theorem AO2.keep {D : Nat → Prop} {h g : St} {a : Nat} {P : PT} (H : AO2 h a P) (q : Ch D h g) (h0 : ¬ D a ∨ hi g a 16 = hi h a 16) (h3 : ¬ D (a + 3)) : AO2 g a P := by
  have e0 : hi g a 16 = hi h a 16 := h0.elim (fun z => (q.2 a z).1 16) id
  unfold AO2
  rw [e0]
  rcases H with h1 | ⟨s, h1, h2, h4⟩
  · exact Or.inl h1
  · exact Or.inr ⟨s, h1, h2, fun x hx => by rw [(q.2 _ h3).1]; exact h4 x hx⟩
theorem WO.keep {D : Nat → Prop} {h g : St} {P : PT} (H : WO h P) (q : Ch D h g) (hd : ∀ o, 115 ≤ o → o < 118 → ¬ D o) : WO g P := by
  unfold WO
  simp only [(q.2 115 (hd _ (by omega) (by omega))).1, (q.2 115 (hd _ (by omega) (by omega))).2, (q.2 116 (hd _ (by omega) (by omega))).2, (q.2 117 (hd _ (by omega) (by omega))).2]
  exact H
theorem MP.ch {h g : St} {m a : Nat} {P : PT} (H : MP h m a P) (q : ∀ r, m + 6 ≤ r → r < m + 16 → ∀ k, hi g r k = hi h r k) : MP g m a P := by
  unfold MP
  simp only [q (m + 6) (by omega) (by omega), q (m + 7) (by omega) (by omega), q (m + 8) (by omega) (by omega), q (m + 9) (by omega) (by omega), q (m + 10) (by omega) (by omega), q (m + 11) (by omega) (by omega), q (m + 12) (by omega) (by omega), q (m + 13) (by omega) (by omega), q (m + 14) (by omega) (by omega), q (m + 15) (by omega) (by omega)]
  exact H
theorem SLr.keep {D : Nat → Prop} {h g : St} (H : SLr h) (q : Ch D h g) (h1 : ∀ o, 69 ≤ o → o < 72 → ¬ D o) (h2 : ∀ o, oM + 1 ≤ o → o < oM + 4 → ¬ D o) : SLr g := by
  unfold SLr
  simp only [(q.2 69 (h1 _ (by omega) (by omega))).1, (q.2 70 (h1 _ (by omega) (by omega))).1, (q.2 71 (h1 _ (by omega) (by omega))).2, (q.2 (oM + 1) (h2 _ (by omega) (by omega))).1, (q.2 (oM + 2) (h2 _ (by omega) (by omega))).1, (q.2 (oM + 3) (h2 _ (by omega) (by omega))).2]
  exact H
theorem TPr.keep {D : Nat → Prop} {h g : St} (H : TPr h) (q : Ch D h g) (h1 : ∀ o, 32 ≤ o → o < 35 → ¬ D o) (h2 : ¬ D (oM + 5)) (h3 : ∀ k, k = 6 ∨ k = 14 ∨ k = 15 → hi g oM k = hi h oM k) : TPr g := by
  unfold TPr
  simp only [(q.2 32 (h1 _ (by omega) (by omega))).1, (q.2 33 (h1 _ (by omega) (by omega))).1, (q.2 34 (h1 _ (by omega) (by omega))).1, (q.2 (oM + 5) h2).1, h3 6 (Or.inl rfl), h3 14 (Or.inr (Or.inl rfl)), h3 15 (Or.inr (Or.inr rfl))]
  exact H
theorem IMr.keep {D : Nat → Prop} {h g : St} (H : IMr h) (q : Ch D h g) (h1 : ∀ o, oM + 6 ≤ o → o < oM + 17 → ¬ D o) (h2 : ∀ o, 158 ≤ o → ¬ D o) : IMr g := by
  unfold IMr
  rw [q.1.1]
  refine ⟨fun k hk1 => ?_, H.2⟩
  have h3 := (q.2 (oM + 16) (h1 _ (by omega) (by omega))).1 k
  rcases H.1 k hk1 with ⟨a1, a2⟩ | ⟨a1, a2, a3, P, a4, a5⟩
  · exact Or.inl ⟨a1, by rw [h3]; exact a2⟩
  · refine Or.inr ⟨a1, by rw [q.1.2.2.1]; exact a2, by rw [h3]; exact a3, P, a4.ch q (fun j hj => h2 _ (by omega)), a5.ch (fun r r1 r2 => (q.2 r (h1 r r1 (by omega))).1)⟩
theorem NMr.keep {h g : St} (H : NMr h) (q : SH h g) : NMr g := by
  unfold NMr cnI
  rw [q.1, q.2.2.1, q.2.2.2]
  exact H
theorem CNs.keep {D : Nat → Prop} {h g : St} {L : Nat} {xs : Nat → Int32} (H : CNs h L xs) (q : Ch D h g) (h1 : ∀ o, o < 31 → ¬ D o) : CNs g L xs := fun i hi1 => by
  rw [q.1.2.1]
  exact ⟨(H i hi1).1, fun k => by rw [(q.2 i (h1 i hi1)).1]; exact (H i hi1).2 k⟩
def scr (o : Nat) : Prop := (72 ≤ o ∧ o < 122) ∨ mD oM o
section
variable {L : Nat} {xs : Nat → Int32} {h g : St} {P : PT}
theorem Inv.sh (H : Inv L xs h P) : Shp h := H.1
theorem Inv.co (H : Inv L xs h P) : CO h := H.1.1
theorem Inv.pg (H : Inv L xs h P) : PG h oP P := ⟨H.1.2.1, H.2.1, H.2.2.1⟩
theorem Inv.w (H : Inv L xs h P) : WFP P := H.2.2.1
theorem Inv.fr (H : Inv L xs h P) : Fresh h oD P := H.2.2.2.1
theorem Inv.wi (H : Inv L xs h P) : ∃ S, RC h (oW + 1) S := H.2.2.2.2.1
theorem Inv.a1 (H : Inv L xs h P) : AO1 h oA P := H.2.2.2.2.2.1
theorem Inv.a2 (H : Inv L xs h P) : AO2 h oA P := H.2.2.2.2.2.2.1
theorem Inv.wo (H : Inv L xs h P) : WO h P := H.2.2.2.2.2.2.2.1
theorem Inv.mg (H : Inv L xs h P) : MG h oM P := ⟨H.1.2.2.2.2.2.2, H.2.2.2.2.2.2.2.2.1, H.2.2.1⟩
theorem Inv.sl (H : Inv L xs h P) : SLr h := H.2.2.2.2.2.2.2.2.2.1
theorem Inv.tp (H : Inv L xs h P) : TPr h := H.2.2.2.2.2.2.2.2.2.2.1
theorem Inv.im (H : Inv L xs h P) : IMr h := H.2.2.2.2.2.2.2.2.2.2.2.1
theorem Inv.nm (H : Inv L xs h P) : NMr h := H.2.2.2.2.2.2.2.2.2.2.2.2.1
theorem Inv.cn (H : Inv L xs h P) : CNs h L xs := H.2.2.2.2.2.2.2.2.2.2.2.2.2
theorem Inv.ps (H : Inv L xs h P) : PS h oP := H.1.2.1
theorem Inv.ds (H : Inv L xs h P) : DS h oD := H.1.2.2.2.1
theorem Inv.dw (H : Inv L xs h P) : DS h oW := H.1.2.2.2.2.1
theorem Inv.as (H : Inv L xs h P) : AS h oA := H.1.2.2.2.2.2.1
theorem Inv.ms (H : Inv L xs h P) : MS h oM := H.1.2.2.2.2.2.2
theorem Inv.upd (H : Inv L xs h P) (q : Ch scr h g) (hm : ∀ k, k = 6 ∨ k = 14 ∨ k = 15 → hi g oM k = hi h oM k) (f : Fresh g oD P) (w : ∃ S, RC g (oW + 1) S) (a1 : AO1 g oA P) (a2 : AO2 g oA P) (wo : WO g P) : Inv L xs g P := by
  have hc := o_is
  have ns : ∀ o, (o < 72 ∨ (122 < o ∧ o < 139) ∨ 158 ≤ o) → ¬ scr o := fun o ho z => by
    unfold scr mD at z
    omega
  refine ⟨H.sh.to q.1, RP.ch q (fun j hj => ns _ (by omega)) H.2.1, H.w, f, w, a1, a2, wo, H.mg.p.ch (fun r r1 r2 => (q.2 r (ns r (by omega))).1), H.sl.keep q (fun o h1 h2 => ns o (by omega)) (fun o h1 h2 => ns o (by omega)), H.tp.keep q (fun o h1 h2 => ns o (by omega)) (ns _ (by omega)) hm, H.im.keep q (fun o h1 h2 => ns o (by omega)) (fun o h1 => ns o (by omega)), H.nm.keep q.1, H.cn.keep q (fun o ho => ns o (by omega))⟩
/-- a change of a part of what is scratch -/
theorem Inv.part {D : Nat → Prop} (H : Inv L xs h P) (q : Ch D h g) (hs : ∀ o, D o → scr o) (hm : ∀ k, k = 6 ∨ k = 14 ∨ k = 15 → hi g oM k = hi h oM k) (f : (∀ o, 72 ≤ o → o < 86 → ¬ D o) ∨ Fresh g oD P) (w : (∀ o, 87 ≤ o → o < 95 → ¬ D o) ∨ ∃ S, RC g (oW + 1) S) (a1 : (∀ o, 102 ≤ o → o < 115 → ¬ D o) ∨ AO1 g oA P) (a2 : (∀ o, 102 ≤ o → o < 115 → ¬ D o) ∨ AO2 g oA P) (wo : (∀ o, 115 ≤ o → o < 118 → ¬ D o) ∨ WO g P) : Inv L xs g P := by
  have hc := o_is
  refine H.upd (q.mono hs) hm (f.elim (fun z => H.fr.keep q (fun o h1 h2 => z o (by omega) (by omega))) id) (w.elim (fun z => ?_) id) (a1.elim (fun z => H.a1.keep q (fun o h1 h2 => z o (by omega) (by omega))) id) (a2.elim (fun z => H.a2.keep q (Or.inl (z _ (by omega) (by omega))) (z _ (by omega) (by omega))) id) (wo.elim (fun z => H.wo.keep q z) id)
  obtain ⟨S, hS⟩ := H.wi
  exact ⟨S, hS.keep q (fun o h1 h2 => z o (by omega) (by omega))⟩
theorem Inv.cm (H : Inv L xs h P) (q : CM oM h g) : Inv L xs g P := by
  have hc := o_is
  have n1 : ∀ o, o < 122 → ¬ mD oM o := fun o ho z => by unfold mD at z; omega
  exact H.part q.1 (fun o ho => Or.inr ho) q.2 (Or.inl fun o h1 h2 => n1 o (by omega)) (Or.inl fun o h1 h2 => n1 o (by omega)) (Or.inl fun o h1 h2 => n1 o (by omega)) (Or.inl fun o h1 h2 => n1 o (by omega)) (Or.inl fun o h1 h2 => n1 o (by omega))
theorem Inv.td (H : Inv L xs h P) (q : Ch (TD oD) h g) (f : Fresh g oD P) : Inv L xs g P := by
  have hc := o_is
  have n1 : ∀ o, (o < 72 ∨ 86 ≤ o) → ¬ TD oD o := fun o ho z => by unfold TD at z; omega
  exact H.part q (fun o ho => by unfold TD at ho; unfold scr; omega) (fun k _ => (q.2 oM (n1 _ (by omega))).1 k) (Or.inr f) (Or.inl fun o h1 h2 => n1 o (by omega)) (Or.inl fun o h1 h2 => n1 o (by omega)) (Or.inl fun o h1 h2 => n1 o (by omega)) (Or.inl fun o h1 h2 => n1 o (by omega))
theorem Inv.wh {D : Nat → Prop} (H : Inv L xs h P) (q : Ch D h g) (hD : ∀ o, D o → (86 ≤ o ∧ o < 102) ∨ (118 ≤ o ∧ o < 122)) (w : ∃ S, RC g (oW + 1) S) : Inv L xs g P := by
  have hc := o_is
  have n1 : ∀ o, (o < 86 ∨ 102 ≤ o ∧ o < 118 ∨ 122 ≤ o) → ¬ D o := fun o ho z => by have := hD o z; omega
  exact H.part q (fun o ho => by have := hD o ho; unfold scr; omega) (fun k _ => (q.2 oM (n1 _ (by omega))).1 k) (Or.inl fun o h1 h2 => n1 o (by omega)) (Or.inr w) (Or.inl fun o h1 h2 => n1 o (by omega)) (Or.inl fun o h1 h2 => n1 o (by omega)) (Or.inl fun o h1 h2 => n1 o (by omega))
theorem Inv.al {D : Nat → Prop} (H : Inv L xs h P) (q : Ch D h g) (hD : ∀ o, D o → 102 ≤ o ∧ o < 115) (a1 : AO1 g oA P) (a2 : AO2 g oA P) : Inv L xs g P := by
  have hc := o_is
  have n1 : ∀ o, (o < 102 ∨ 115 ≤ o) → ¬ D o := fun o ho z => by have := hD o z; omega
  exact H.part q (fun o ho => by have := hD o ho; unfold scr; omega) (fun k _ => (q.2 oM (n1 _ (by omega))).1 k) (Or.inl fun o h1 h2 => n1 o (by omega)) (Or.inl fun o h1 h2 => n1 o (by omega)) (Or.inr a1) (Or.inr a2) (Or.inl fun o h1 h2 => n1 o (by omega))
theorem Inv.today (H : Inv L xs h P) : ∃ g S, DX11_today (sR fr0 0 oX) h = some (oD, g) ∧ DRel g oD P (asTold P S) ∧ Inv L xs g P ∧ Ch (TD oD) h g ∧ hi g oD 0 = nI 1 := by
  have hc := o_is
  obtain ⟨g, S, a1, b1, c1, d1⟩ := x_today H.co.koX H.co.roX_6 H.co.roX_2 H.ds H.pg (by omega) H.fr
  exact ⟨g, S, a1, c1, H.td d1 (Or.inr ⟨b1, S, c1⟩), d1, b1⟩
/-- the model lays and runs -/
theorem Inv.laysNow (H : Inv L xs h P) (S : PT) : ∃ g, DX12_laysNow (sR fr0 0 oM) h = some ((), g) ∧ MR g oM P (asTold P S) ∧ Inv L xs g P ∧ CM oM h g := by
  obtain ⟨g, a1, b1, c1⟩ := m_laysNow H.mg S
  exact ⟨g, a1, b1, H.cm c1, c1⟩
theorem Inv.thr (H : Inv L xs h P) : Inv L xs (wI h oM 0 (nI 0)) P := H.cm (CM.wm h 0 _ (by decide))
end
