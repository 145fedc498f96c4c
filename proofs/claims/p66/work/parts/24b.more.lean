/-! one more statement -/
section
variable {α : Type} {rt : (KX → α → Option Value) × Instr} {mi : MI} {ΓL Γ Γ' : Gm} {PB PK : List Nat} {k pc pn p1 p2 : Nat}
theorem t_astore {i : Nat} {A : Ex Nat} (ha : SE cvR mi Γ 0 pc p1 A) (d : decode mi.2.1 p1 = .ok (.astore i, 2)) (hn : Nat.blt i mi.2.2.1 = true) (ok : gok1 Γ Γ' i 2 = true) : SS rt mi ΓL PB PK Γ Γ' pc [p1 + 2] (dSetR i A) := by
  refine t_1 (fun x f h => some (sR f i x, h)) (fun f h => by unfold dSetR; rcases A f h with _ | ⟨x, h1⟩ <;> rfl) (fun x f h f2 h2 q => by cases q; exact LE.rf _) (fun κ p l e R s m args below meth c nb sb Q C f h x f2 h2 q _ K => ?_) ha
  cases q
  intro ls H locs a b d1 e1 e2
  have hv : lvv κ (sR f i x) (i, 2) = (i, rv κ x) := by simp [lvv, gR, sR]
  have k1 : ∀ ls', lv_has ls' mi.2.2.1 ((i, rv κ x) :: (Γ.map (lvv κ f)).filter (fun q => !(q.1 == i) && !(q.1 + 1 == i && q.2.category == 2))) → _ := fun ls' a' => K ls' H locs (lv_in1 ok a' hv (lvv_sR κ f i x)) b d1 e1 e2
  unfold cvR
  rcases rv_or κ x with z | ⟨y, z⟩ <;> rw [z] at k1 ⊢
  · exact lv_astoreN C.exec C.code d a (by simpa using hn) rfl k1
  · exact lv_astore C.exec C.code d a (by simpa using hn) rfl k1
end
