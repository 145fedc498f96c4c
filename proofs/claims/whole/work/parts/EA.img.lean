set_option maxRecDepth 100000
set_option maxHeartbeats 1000000
/-! Inv, where the images change -/
section
variable {L : Nat} {xs : Nat → Int32} {h g : St} {P : PT}
theorem Inv.img (H : Inv L xs h P) (k : LoK h g) (hv : ∀ o, ¬ (158 ≤ o ∨ o = 122 ∨ (128 ≤ o ∧ o < 139)) → (∀ j, hi g o j = hi h o j) ∧ ∀ j, hl g o j = hl h o j) (hm : ∀ k, k = 6 ∨ k = 14 ∨ k = 15 → hi g oM k = hi h oM k) (hM : MP g oM 0 P) (hI : IMr g) (hN : NMr g) : Inv L xs g P := by
  have hc := o_is
  have q : Ch (fun o => 158 ≤ o ∨ o = 122 ∨ (128 ≤ o ∧ o < 139)) h (hi g, hl g, hr h, hk h, hn h, hs h) := ⟨⟨rfl, rfl, rfl, rfl⟩, hv⟩
  have ns : ∀ o, (o < 122 ∨ (122 < o ∧ o < 128) ∨ (139 ≤ o ∧ o < 158)) → ¬ (158 ≤ o ∨ o = 122 ∨ (128 ≤ o ∧ o < 139)) := fun o ho z => by omega
  have r1 : RP (hi g, hl g, hr h, hk h, hn h, hs h) oP P := RP.ch q (fun j hj => ns _ (by omega)) H.2.1
  have r2 : Fresh (hi g, hl g, hr h, hk h, hn h, hs h) oD P := H.fr.keep q (fun o h1 h2 => ns o (by omega))
  have r3 : AO1 (hi g, hl g, hr h, hk h, hn h, hs h) oA P := H.a1.keep q (fun o h1 h2 => ns o (by omega))
  have r4 : AO2 (hi g, hl g, hr h, hk h, hn h, hs h) oA P := H.a2.keep q (Or.inl (ns _ (by omega))) (ns _ (by omega))
  have r5 : WO (hi g, hl g, hr h, hk h, hn h, hs h) P := H.wo.keep q (fun o h1 h2 => ns o (by omega))
  have r6 : SLr (hi g, hl g, hr h, hk h, hn h, hs h) := H.sl.keep q (fun o h1 h2 => ns o (by omega)) (fun o h1 h2 => ns o (by omega))
  have r7 : TPr (hi g, hl g, hr h, hk h, hn h, hs h) := H.tp.keep q (fun o h1 h2 => ns o (by omega)) (ns _ (by omega)) hm
  have r8 : CNs (hi g, hl g, hr h, hk h, hn h, hs h) L xs := H.cn.keep q (fun o ho => ns o (by omega))
  obtain ⟨S, hS⟩ := H.wi
  have r9 : RC (hi g, hl g, hr h, hk h, hn h, hs h) (oW + 1) S := hS.keep q (fun o h1 h2 => ns o (by omega))
  refine ⟨H.sh.lo k, r1, H.w, r2, ⟨S, r9⟩, r3, r4, r5, hM, r6, r7, hI, hN, fun i hi1 => ⟨?_, (r8 i hi1).2⟩⟩
  rw [k.1 i (by omega)]
  exact (H.cn i hi1).1
end
