set_option maxRecDepth 100000
set_option maxHeartbeats 1000000
/-! calls: DAY by DAY -/
section
variable {W : St}
theorem WFS3 {P S : PT} (hW : WFP P) (hS : WFX P S) (d : Nat) {s : Nat} (hs : s < P 0 7) : runN P S d 3 s < 2 ^ P 7 s := (WFB_run hW hS d).2.2.2.2.2.1 s hs
end
