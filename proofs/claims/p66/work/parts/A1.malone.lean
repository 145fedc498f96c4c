set_option maxRecDepth 100000
set_option maxHeartbeats 1000000
/-! ALONE, in the model -/
theorem pop_pos : ∀ n, n < 256 → 0 < n → 1 ≤ pop n := by decide +kernel
theorem pop_8 (n : Nat) (_ : n < 256) : pop n ≤ 8 := fb_ct_le _ 8
theorem pop_12 (n : Nat) : pop n ≤ 8 := fb_ct_le _ 8
theorem met_pos {n i : Nat} (h : n.testBit i = true) : 0 < n := by
  refine Nat.pos_of_ne_zero fun z => ?_
  rw [z, Nat.zero_testBit] at h
  cases h
theorem lbN_lt {P : PT} (hW : WFP P) {s : Nat} (hs : s < P 0 7) : ∀ k, lbN P s k < 2 ^ P 7 s := by
  intro k
  induction k with
  | zero => exact lf0_lt hW hs
  | succ k ih =>
    have := rubL_le P s (lbN P s k) (P 0 2)
    show rubL P s (lbN P s k) (P 0 2) < _
    omega
section
variable {h : St} {m : Nat} {P : PT} {s t k : Nat} {X : BQ}
end
