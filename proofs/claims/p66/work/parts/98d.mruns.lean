set_option maxRecDepth 100000
set_option maxHeartbeats 1000000
/-! the model runs -/
theorem car6 (P S : PT) (i : Nat) (b : Bool) (c : Nat) : carS P S i b 6 c = S 6 c := by
  unfold carS outS
  split <;> simp [up]
theorem car7 (P S : PT) (i : Nat) (b : Bool) (c : Nat) : carS P S i b 7 c = if c = i then loadS P S (P 11 i) (P 12 i) + 1 else S 7 c := by
  unfold carS outS
  split <;> simp [up]
section
variable {h : St} {m : Nat} {P S T : PT}
theorem WFS4 (hW : WFP P) (hS : WFX P S) (d : Nat) {k : Nat} (hk1 : k < 24) : runN P S d 4 k < 64 := (WFB_run hW hS d).2.2.2.2.2.2.2.1 k hk1
end
