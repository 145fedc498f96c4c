set_option maxRecDepth 100000
set_option maxHeartbeats 1000000
/-! calls: firsts, ask, leaves, laws -/
section
variable {W : St} {h g : St} {P : PT} {u w n s : Nat} {val : Nat → Int64}
/-- by LAWS -/
def lyL (P : PT) (s l : Nat) : Nat → Nat := fun d => runN P (whT P 0 l) d 2 s
def lwB (P : PT) (s : Nat) (val : Nat → Int64) (n2 : Nat) (k : Nat) : Bool := decide (wt P s (runN P (whT P 0 k) (P 0 1) 3 s) = wt P s (tdN P (P 0 1) 3 s)) && asS val (lyL P s k) n2
def lwM (b : Nat → Bool) : Nat → Nat
  | 0 => 0
  | k + 1 => if b k = true then lwM b k ||| 2 ^ k else lwM b k
theorem lwM_y {b : Nat → Bool} {k : Nat} (h : b k = true) : lwM b (k + 1) = lwM b k ||| 2 ^ k := if_pos h
theorem lwM_n {b : Nat → Bool} {k : Nat} (h : b k = false) : lwM b (k + 1) = lwM b k := if_neg (by rw [h]; decide)
end
section
variable {W : St}
end
