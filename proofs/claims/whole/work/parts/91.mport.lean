set_option maxRecDepth 100000
set_option maxHeartbeats 1000000
/-! a Port in the model's rows: slot a -/
def cnA (P : PT) : Nat → Nat
  | 0 => 0
  | j + 1 => if P 15 j = 0 then cnA P j + 1 else cnA P j
def hsP (P : PT) (w : Nat) : Nat := if w < 7 then P 0 (w + 1) else if w = 7 then P 9 0 else P 9 2
/-- of an act: its four numbers -/
def acP (P : PT) (j t : Nat) : Int32 := if P 15 j = 0 then nI (P (10 + t) (P 9 0 + cnA P j)) else if t = 0 then -nI 1 else if t = 1 then nI (P 14 j) + -nI 1 else nI (P 15 j) + -nI 1
def MP (h : St) (m a : Nat) (P : PT) : Prop := hi h (m + 6) a = nI (P 0 0) ∧ (∀ w, w < 9 → hi h (m + 7) (9 * a + w) = nI (hsP P w)) ∧ (∀ k, k < P 0 4 → hi h (m + 8) (8 * a + k) = nI (P 1 k)) ∧ (∀ k, k < P 0 5 → hi h (m + 9) (24 * a + 2 * k) = nI (P 2 k) ∧ hi h (m + 9) (24 * a + 2 * k + 1) = nI (P 3 k)) ∧ (∀ k, k < P 0 6 → hi h (m + 10) (10 * a + 2 * k) = nI (P 4 k) ∧ hi h (m + 10) (10 * a + 2 * k + 1) = nI (P 5 k)) ∧ (∀ s, s < P 0 7 → hi h (m + 11) (3 * a + s) = nI (P 6 s) ∧ hi h (m + 12) (3 * a + s) = nI (P 7 s) ∧ ∀ i, i < P 7 s → hi h (m + 13) (18 * a + 6 * s + i) = nI (P 8 (6 * s + i))) ∧ (∀ k t, k < P 9 0 → t < 4 → hi h (m + 14) (48 * a + 4 * k + t) = nI (P (10 + t) k)) ∧ (∀ j t, j < P 9 2 → t < 3 → hi h (m + 15) (80 * a + 4 * j + t) = acP P j t) ∧ (∀ j, j < P 9 2 → P 15 j = 0 → hi h (m + 15) (80 * a + 4 * j + 3) = nI (P 13 (P 9 0 + cnA P j))) ∧ P 9 1 = P 9 0 + cnA P (P 9 2)
