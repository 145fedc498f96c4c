set_option maxRecDepth 100000
set_option maxHeartbeats 4000000
/-! what is meant, in plain numbers: of a Port's value P -/
abbrev PT : Type := Nat → Nat → Nat
def wtN (P : PT) (s l : Nat) : Nat → Nat
  | 0 => 0
  | k + 1 => wtN P s l k + if l.testBit k = true then P 8 (6 * s + k) else 0
def wt (P : PT) (s l : Nat) : Nat := wtN P s l 6
/-- the word that a law takes, from 1; 0: none -/
def bsN (P : PT) (s l law : Nat) : Nat → Nat
  | 0 => 0
  | k + 1 => if l.testBit k = true ∧ (bsN P s l law k = 0 ∨ law = 3 ∨ (law = 2 ∧ P 8 (6 * s + (bsN P s l law k - 1)) < P 8 (6 * s + k))) then k + 1 else bsN P s l law k
def clr (a b : Nat) : Nat := a &&& (b ^^^ 2147483647)
def rubL (P : PT) (s l law : Nat) : Nat := if law = 0 ∨ bsN P s l law 6 = 0 then l else clr l (2 ^ (bsN P s l law 6 - 1))
def doN (P : PT) (h lost : Nat) : Nat → Nat
  | 0 => 0
  | w + 1 => (doN P h lost w ||| if w + 1 ≠ lost ∧ P 2 w = h then 2 ^ P 3 w else 0) ||| if w + 1 ≠ lost ∧ P 3 w = h then 2 ^ P 2 w else 0
def doors (P : PT) (h lost : Nat) : Nat := doN P h lost (P 0 5)
def climb (P : PT) (a b : Nat) : Nat := P 1 b - P 1 a
def stN (P : PT) (set : Nat) : Nat → Nat
  | 0 => 0
  | c + 1 => stN P set c + if set.testBit c = true then P 5 c else 0
def strong (P : PT) (set : Nat) : Nat := stN P set (P 0 6)
def ruN (P : PT) (s : Nat) : Nat → Nat
  | 0 => 0
  | j + 1 => ruN P s j ||| if P 15 j ≠ 0 ∧ P 14 j = s + 1 then 2 ^ (P 15 j - 1) else 0
def allW (P : PT) (s : Nat) : Nat := 2 ^ P 7 s - 1
def lf0 (P : PT) (s : Nat) : Nat := clr (allW P s) (ruN P s (P 9 2))
def buN (P : PT) : Nat → Nat
  | 0 => 0
  | i + 1 => buN P i ||| if P 13 i < P 0 1 then 2 ^ P 13 i else 0
theorem or_lt {a b k : Nat} (ha : a < 2 ^ k) (hb : b < 2 ^ k) : a ||| b < 2 ^ k := Nat.or_lt_two_pow ha hb
theorem clr_le (a b : Nat) : clr a b ≤ a := Nat.and_le_left
theorem clr_bit (a b : Nat) {i : Nat} (hi : i < 31) : (clr a b).testBit i = (a.testBit i && !b.testBit i) := by
  unfold clr
  rw [Nat.testBit_and, Nat.testBit_xor, show (2147483647 : Nat) = 2 ^ 31 - 1 by decide, Nat.testBit_two_pow_sub_one]
  simp [hi]
theorem wtN_le {P : PT} {s l : Nat} (h : ∀ i, i < 6 → l.testBit i = true → P 8 (6 * s + i) ≤ 30) : ∀ k, k ≤ 6 → wtN P s l k ≤ 30 * k := by
  intro k
  induction k with
  | zero => intro _; exact Nat.le_refl _
  | succ k ih =>
    intro hk
    have h1 := ih (by omega)
    unfold wtN
    by_cases hb : l.testBit k = true
    · rw [if_pos hb]
      have := h k (by omega) hb
      omega
    · rw [if_neg hb]
      omega
theorem bsN_le (P : PT) (s l law : Nat) : ∀ k, bsN P s l law k ≤ k := by
  intro k
  induction k with
  | zero => exact Nat.le_refl _
  | succ k ih =>
    unfold bsN
    split
    · exact Nat.le_refl _
    · omega
theorem pow_lt {a b : Nat} (h : a < b) : 2 ^ a < 2 ^ b := Nat.pow_lt_pow_right (by decide) h
