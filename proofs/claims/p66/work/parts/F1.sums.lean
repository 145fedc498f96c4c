set_option maxRecDepth 100000
set_option maxHeartbeats 1000000
/-! RAIN: all sets of DAYS against those of the busy DAYS; in lowest terms -/
theorem sm_mul (c : Nat) (f : Nat → Nat) : ∀ n, fb_sm (fun i => c * f i) n = c * fb_sm f n := by
  intro n
  induction n with
  | zero => rfl
  | succ n ih =>
    show fb_sm (fun i => c * f i) n + c * f n = c * (fb_sm f n + f n)
    rw [ih, Nat.mul_add]
