set_option maxRecDepth 100000
set_option maxHeartbeats 1000000
/-! calls: rub -/
section
variable {W : St} {h g : St} {P P' : PT}
def rubP (P : PT) (s i : Nat) : PT := up (up (up P 14 (P 9 2) (s + 1)) 15 (P 9 2) (i + 1)) 9 2 (P 9 2 + 1)
theorem rubP_lo (P : PT) (s i : Nat) {j : Nat} (k : Nat) (q : j < 9 ∨ (10 ≤ j ∧ j ≤ 13) ∨ (j = 9 ∧ k ≠ 2) ∨ (14 ≤ j ∧ k ≠ P 9 2)) : rubP P s i j k = P j k := by
  unfold rubP
  rw [up_o _ _ (by omega), up_o _ _ (by omega), up_o _ _ (by omega)]
theorem rubP_2 (P : PT) (s i : Nat) : rubP P s i 9 2 = P 9 2 + 1 := up_eq _ _ _ _
theorem rubP_14 (P : PT) (s i : Nat) : rubP P s i 14 (P 9 2) = s + 1 := by
  unfold rubP
  rw [up_o _ _ (by omega), up_o _ _ (by omega), up_eq]
theorem rubP_15 (P : PT) (s i : Nat) : rubP P s i 15 (P 9 2) = i + 1 := by
  unfold rubP
  rw [up_o _ _ (by omega), up_eq]
end
