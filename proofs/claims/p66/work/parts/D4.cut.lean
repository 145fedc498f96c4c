set_option maxRecDepth 100000
set_option maxHeartbeats 1000000
/-! calls: undo, anew -/
section
variable {W : St} {h g : St} {P P' : PT}
theorem PIn.le (e0 : ∀ k, P' 0 k = P 0 k) (e7 : ∀ k, P' 7 k = P 7 k) (e9 : P' 9 1 ≤ P 9 1) {j k : Nat} (h : PIn P' j k) : PIn P j k := by
  unfold PIn at h ⊢
  simp only [e0, e7] at h
  rcases h with h | h | h | h | h | h | h | h | h | h | ⟨h1, h2, h3⟩
  · exact Or.inl h
  · exact Or.inr (Or.inl h)
  · exact Or.inr (Or.inr (Or.inl h))
  · exact Or.inr (Or.inr (Or.inr (Or.inl h)))
  · exact Or.inr (Or.inr (Or.inr (Or.inr (Or.inl h))))
  · exact Or.inr (Or.inr (Or.inr (Or.inr (Or.inr (Or.inl h)))))
  · exact Or.inr (Or.inr (Or.inr (Or.inr (Or.inr (Or.inr (Or.inl h))))))
  · exact Or.inr (Or.inr (Or.inr (Or.inr (Or.inr (Or.inr (Or.inr (Or.inl h)))))))
  · exact Or.inr (Or.inr (Or.inr (Or.inr (Or.inr (Or.inr (Or.inr (Or.inr (Or.inl h))))))))
  · exact Or.inr (Or.inr (Or.inr (Or.inr (Or.inr (Or.inr (Or.inr (Or.inr (Or.inr (Or.inl h)))))))))
  · exact Or.inr (Or.inr (Or.inr (Or.inr (Or.inr (Or.inr (Or.inr (Or.inr (Or.inr (Or.inr ⟨h1, h2, by omega⟩)))))))))
theorem PIn.j16 {j k : Nat} (h : PIn P j k) : j < 16 := by
  unfold PIn at h
  omega
theorem PIn.k3 {k : Nat} (h : PIn P 9 k) : k < 3 := by
  unfold PIn at h
  omega
theorem n_lessone {l : Nat} (hl : 1 ≤ l) : nI l - nI 1 = nI (l - 1) := by
  rw [Int32.sub_eq_add_neg]
  exact n_pred hl
end
