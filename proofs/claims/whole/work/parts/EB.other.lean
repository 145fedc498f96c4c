set_option maxRecDepth 100000
set_option maxHeartbeats 2000000
/-! the other slots of the model's copy -/
section
variable {L : Nat} {xs : Nat → Int32} {h g : St} {P P' : PT}
theorem MP.other {a b c : Nat} (H : MP h oM c P) (hW : WFP P) (e : CPd h g a b) (hcb : c ≠ b) : MP g oM c P := by
  have hb := hW.all
  have n0 : ∀ k, k < 1 → hi g (oM + 6) (1 * c + k) = hi h (oM + 6) (1 * c + k) := fun k hk1 => (e 0 (by decide) (1 * c + k)).trans (if_neg (show ¬ (1 * b ≤ 1 * c + k ∧ 1 * c + k < 1 * b + 1) by omega))
  have n1 : ∀ k, k < 9 → hi g (oM + 7) (9 * c + k) = hi h (oM + 7) (9 * c + k) := fun k hk1 => (e 1 (by decide) (9 * c + k)).trans (if_neg (show ¬ (9 * b ≤ 9 * c + k ∧ 9 * c + k < 9 * b + 9) by omega))
  have n2 : ∀ k, k < 8 → hi g (oM + 8) (8 * c + k) = hi h (oM + 8) (8 * c + k) := fun k hk1 => (e 2 (by decide) (8 * c + k)).trans (if_neg (show ¬ (8 * b ≤ 8 * c + k ∧ 8 * c + k < 8 * b + 8) by omega))
  have n3 : ∀ k, k < 24 → hi g (oM + 9) (24 * c + k) = hi h (oM + 9) (24 * c + k) := fun k hk1 => (e 3 (by decide) (24 * c + k)).trans (if_neg (show ¬ (24 * b ≤ 24 * c + k ∧ 24 * c + k < 24 * b + 24) by omega))
  have n4 : ∀ k, k < 10 → hi g (oM + 10) (10 * c + k) = hi h (oM + 10) (10 * c + k) := fun k hk1 => (e 4 (by decide) (10 * c + k)).trans (if_neg (show ¬ (10 * b ≤ 10 * c + k ∧ 10 * c + k < 10 * b + 10) by omega))
  have n5 : ∀ k, k < 3 → hi g (oM + 11) (3 * c + k) = hi h (oM + 11) (3 * c + k) := fun k hk1 => (e 5 (by decide) (3 * c + k)).trans (if_neg (show ¬ (3 * b ≤ 3 * c + k ∧ 3 * c + k < 3 * b + 3) by omega))
  have n6 : ∀ k, k < 3 → hi g (oM + 12) (3 * c + k) = hi h (oM + 12) (3 * c + k) := fun k hk1 => (e 6 (by decide) (3 * c + k)).trans (if_neg (show ¬ (3 * b ≤ 3 * c + k ∧ 3 * c + k < 3 * b + 3) by omega))
  have n7 : ∀ k, k < 18 → hi g (oM + 13) (18 * c + k) = hi h (oM + 13) (18 * c + k) := fun k hk1 => (e 7 (by decide) (18 * c + k)).trans (if_neg (show ¬ (18 * b ≤ 18 * c + k ∧ 18 * c + k < 18 * b + 18) by omega))
  have n8 : ∀ k, k < 48 → hi g (oM + 14) (48 * c + k) = hi h (oM + 14) (48 * c + k) := fun k hk1 => (e 8 (by decide) (48 * c + k)).trans (if_neg (show ¬ (48 * b ≤ 48 * c + k ∧ 48 * c + k < 48 * b + 48) by omega))
  have n9 : ∀ k, k < 80 → hi g (oM + 15) (80 * c + k) = hi h (oM + 15) (80 * c + k) := fun k hk1 => (e 9 (by decide) (80 * c + k)).trans (if_neg (show ¬ (80 * b ≤ 80 * c + k ∧ 80 * c + k < 80 * b + 80) by omega))
  have w05 : P 0 5 ≤ 12 := hW.2.2.2.2.1
  have w06 : P 0 6 ≤ 5 := hW.2.2.2.2.2.1
  have w07 : P 0 7 ≤ 3 := hW.2.2.2.2.2.2.1
  have w04 : P 0 4 ≤ 8 := hW.2.2.2.1
  have w90 : P 9 0 ≤ 12 := hW.2.2.2.2.2.2.2.1
  have w92 : P 9 2 ≤ 20 := hW.2.2.2.2.2.2.2.2.2.1
  obtain ⟨b1, b2, b3, b4, b5, b6, b7, b8, b9, b10⟩ := H
  refine ⟨?_, fun w hw => ?_, fun k hk1 => ?_, fun k hk1 => ⟨?_, ?_⟩, fun k hk1 => ⟨?_, ?_⟩, fun s hs => ⟨?_, ?_, fun i hi1 => ?_⟩, fun k t hk1 ht => ?_, fun j t hj ht => ?_, fun j hj hz => ?_, b10⟩
  · have e0 := n0 0 (by decide)
    rw [show 1 * c + 0 = c by omega] at e0
    rw [e0]; exact b1
  · rw [n1 w hw]; exact b2 w hw
  · rw [n2 k (by omega)]; exact b3 k hk1
  · rw [show 24 * c + 2 * k = 24 * c + (2 * k) by omega, n3 (2 * k) (by omega)]; exact (b4 k hk1).1
  · rw [show 24 * c + 2 * k + 1 = 24 * c + (2 * k + 1) by omega, n3 (2 * k + 1) (by omega)]; exact (b4 k hk1).2
  · rw [n4 (2 * k) (by omega)]; exact (b5 k hk1).1
  · rw [show 10 * c + 2 * k + 1 = 10 * c + (2 * k + 1) by omega, n4 (2 * k + 1) (by omega)]; exact (b5 k hk1).2
  · rw [n5 s (by omega)]; exact (b6 s hs).1
  · rw [n6 s (by omega)]; exact (b6 s hs).2.1
  · have hq := hW.sl hs
    rw [show 18 * c + 6 * s + i = 18 * c + (6 * s + i) by omega, n7 (6 * s + i) (by omega), show 18 * c + (6 * s + i) = 18 * c + 6 * s + i by omega]
    exact (b6 s hs).2.2 i hi1
  · rw [show 48 * c + 4 * k + t = 48 * c + (4 * k + t) by omega, n8 (4 * k + t) (by omega), show 48 * c + (4 * k + t) = 48 * c + 4 * k + t by omega]
    exact b7 k t hk1 ht
  · rw [show 80 * c + 4 * j + t = 80 * c + (4 * j + t) by omega, n9 (4 * j + t) (by omega), show 80 * c + (4 * j + t) = 80 * c + 4 * j + t by omega]
    exact b8 j t hj ht
  · rw [show 80 * c + 4 * j + 3 = 80 * c + (4 * j + 3) by omega, n9 (4 * j + 3) (by omega), show 80 * c + (4 * j + 3) = 80 * c + 4 * j + 3 by omega]
    exact b9 j hj hz
end
