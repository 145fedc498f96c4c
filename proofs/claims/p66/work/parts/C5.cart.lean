set_option maxRecDepth 100000
set_option maxHeartbeats 1000000
/-! calls: cart -/
theorem n_rng1 (v : Int32) {n : Nat} (h1 : 1 ≤ n) (hn1 : n < 2 ^ 30) : (lN 1 ≤ v.toInt64 ∧ v.toInt64 ≤ lN n - lN 1) = (nI 0 < v ∧ v ≤ nI (n - 1)) := by
  have e1 : (lN n - lN 1).toInt = (n : Int) - 1 := by
    rw [fb_subL] <;> rw [lN_toInt (n := n) (by omega), lN_toInt (n := 1) (by decide)] <;> omega
  have h2 := fb_rng v
  rw [fa_le64, fa_le64, fa_le, fa_lt, Int32.toInt_toInt64, e1, lN_toInt (n := 1) (by decide), nI_toInt (n := 0) (by decide), nI_toInt (n := n - 1) (by omega)]
  exact propext (by omega)
theorem n_of1 {v : Int32} {n : Nat} (hn1 : n < 2 ^ 30) (h : nI 0 < v ∧ v ≤ nI n) : ∃ k, 0 < k ∧ k ≤ n ∧ v = nI k := by
  obtain ⟨k, h1, rfl⟩ := n_ofle hn1 ⟨Int32.le_of_lt h.1, h.2⟩
  have := (fa_lt (nI 0) (nI k)).mp h.1
  rw [nI_toInt (n := 0) (by decide), nI_toInt (n := k) (by omega)] at this
  exact ⟨k, by omega, h1, rfl⟩
section
variable {W : St} {h g : St} {P : PT}
theorem cart_b (H : Inv W h P) : 1 ≤ 2 ^ P 0 6 ∧ 2 ^ P 0 6 ≤ 32 := by
  have hb := H.w.all
  exact ⟨Nat.one_le_two_pow, show 2 ^ P 0 6 ≤ 2 ^ 5 from Nat.pow_le_pow_right (by decide) (by omega)⟩
theorem G_cart (H : Inv W h P) (v : Int32) : DX5_isCart (sI (sR fr0 0 oP) 1 v) h = some (if nI 0 < v ∧ v ≤ nI (2 ^ P 0 6 - 1) then nI 1 else nI 0, h) := by
  have hp := cart_b H
  by_cases z : nI 0 < v ∧ v ≤ nI (2 ^ P 0 6 - 1)
  · rw [if_pos z]
    obtain ⟨k, h1, h2, rfl⟩ := n_of1 (by omega) z
    exact g_cartT H.pg h1 (by omega)
  · rw [if_neg z]
    exact g_cartF H.pg z
end
