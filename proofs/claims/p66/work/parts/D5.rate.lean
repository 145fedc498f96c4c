set_option maxRecDepth 100000
set_option maxHeartbeats 1000000
/-! calls: rate -/
section
variable {W : St} {h g : St} {P P' : PT}
theorem up_o (P : PT) {a b : Nat} (v : Nat) {j k : Nat} (q : ¬ j = a ∨ ¬ k = b) : up P a b v j k = P j k := by
  unfold up
  rw [if_neg (by omega)]
end
