set_option maxRecDepth 100000
set_option maxHeartbeats 4000000
/-! the small helpers of the class -/
theorem nf_slx : ∀ l, l < 32 → (((nI l).toUInt32 &&& Int32.toUInt32 31).toBitVec % 32).toNat = l := by decide +kernel
theorem n_inb {k n : Nat} (hn : n < 2 ^ 31) (hk : k < n) : inb (nI k) n = true := by
  unfold inb
  rw [nI_clamp (by omega)]
  simp [nI_pos' (show k < 2 ^ 31 by omega), hk]
