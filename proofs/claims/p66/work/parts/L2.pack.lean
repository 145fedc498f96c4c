set_option maxRecDepth 100000
set_option maxHeartbeats 1000000
/-! numbers that hold several: fields of bits -/
def fld (n i w : Nat) : Nat := n / 2 ^ i % 2 ^ w
theorem fld_bit (n i w j : Nat) : (fld n i w).testBit j = (decide (j < w) && n.testBit (j + i)) := by
  unfold fld
  rw [Nat.testBit_mod_two_pow, Nat.testBit_div_two_pow]
theorem fld_lt (n i w : Nat) : fld n i w < 2 ^ w := Nat.mod_lt _ (Nat.two_pow_pos w)
def setF (n i w v : Nat) : Nat := clr n ((2 ^ w - 1) * 2 ^ i) ||| v * 2 ^ i
theorem setF_bit {n i w v u : Nat} (hv : v < 2 ^ w) (hu : u < 31) : (setF n i w v).testBit u = if i ≤ u ∧ u < i + w then v.testBit (u - i) else n.testBit u := by
  unfold setF
  rw [Nat.testBit_or, clr_bit _ _ hu, Nat.testBit_mul_two_pow, Nat.testBit_mul_two_pow, Nat.testBit_two_pow_sub_one]
  by_cases z : i ≤ u ∧ u < i + w
  · rw [if_pos z]
    have z1 : decide (i ≤ u) = true := decide_eq_true z.1
    have z2 : decide (u - i < w) = true := decide_eq_true (by omega)
    rw [z1, z2]
    simp
  · rw [if_neg z]
    by_cases y : i ≤ u
    · have z2 : decide (u - i < w) = false := decide_eq_false (by omega)
      have z3 : v.testBit (u - i) = false := Nat.testBit_lt_two_pow (Nat.lt_of_lt_of_le hv (Nat.pow_le_pow_right (by decide) (by omega)))
      rw [z2, z3]
      simp
    · have z1 : decide (i ≤ u) = false := decide_eq_false y
      rw [z1]
      simp
theorem setF_in {n i w v a b : Nat} (hv : v < 2 ^ w) (hab : a + b ≤ w) (hB : i + w ≤ 31) : fld (setF n i w v) (i + a) b = fld v a b := by
  refine Nat.eq_of_testBit_eq fun j => ?_
  rw [fld_bit, fld_bit]
  by_cases z : j < b
  · rw [setF_bit hv (by omega), if_pos (by omega), show j + (i + a) - i = j + a by omega]
  · rw [decide_eq_false z, Bool.false_and, Bool.false_and]
theorem setF_out {n i w v j b : Nat} (hv : v < 2 ^ w) (ho : j + b ≤ i ∨ i + w ≤ j) (hB : j + b ≤ 31) : fld (setF n i w v) j b = fld n j b := by
  refine Nat.eq_of_testBit_eq fun t => ?_
  rw [fld_bit, fld_bit]
  by_cases z : t < b
  · rw [setF_bit hv (by omega), if_neg (by omega)]
  · rw [decide_eq_false z, Bool.false_and, Bool.false_and]
theorem mul_pow_lt {v w i B : Nat} (hv : v < 2 ^ w) (hB : i + w ≤ B) : v * 2 ^ i < 2 ^ B := by
  have h1 : v * 2 ^ i < 2 ^ w * 2 ^ i := Nat.mul_lt_mul_of_pos_right hv (Nat.two_pow_pos i)
  rw [← Nat.pow_add] at h1
  exact Nat.lt_of_lt_of_le h1 (Nat.pow_le_pow_right (by decide) (by omega))
theorem setF_lt {n i w v B : Nat} (hn1 : n < 2 ^ B) (hv : v < 2 ^ w) (hB : i + w ≤ B) : setF n i w v < 2 ^ B := or_lt (Nat.lt_of_le_of_lt (clr_le _ _) hn1) (mul_pow_lt hv hB)
theorem orF_bit {n i w v u : Nat} (hv : v < 2 ^ w) : (n ||| v * 2 ^ i).testBit u = if i ≤ u ∧ u < i + w then (n.testBit u || v.testBit (u - i)) else n.testBit u := by
  rw [Nat.testBit_or, Nat.testBit_mul_two_pow]
  by_cases z : i ≤ u ∧ u < i + w
  · rw [if_pos z, decide_eq_true z.1, Bool.true_and]
  · rw [if_neg z]
    by_cases y : i ≤ u
    · have z3 : v.testBit (u - i) = false := Nat.testBit_lt_two_pow (Nat.lt_of_lt_of_le hv (Nat.pow_le_pow_right (by decide) (by omega)))
      rw [z3, Bool.and_false, Bool.or_false]
    · rw [decide_eq_false y, Bool.false_and, Bool.or_false]
theorem orF_in {n i w v : Nat} (hv : v < 2 ^ w) : fld (n ||| v * 2 ^ i) i w = fld n i w ||| v := by
  refine Nat.eq_of_testBit_eq fun j => ?_
  rw [Nat.testBit_or, fld_bit, fld_bit]
  by_cases z : j < w
  · rw [orF_bit hv, if_pos (by omega), show j + i - i = j by omega, decide_eq_true z, Bool.true_and, Bool.true_and]
  · have z3 : v.testBit j = false := Nat.testBit_lt_two_pow (Nat.lt_of_lt_of_le hv (Nat.pow_le_pow_right (by decide) (by omega)))
    rw [decide_eq_false z, z3, Bool.false_and, Bool.false_and, Bool.or_false]
theorem orF_out {n i w v j b : Nat} (hv : v < 2 ^ w) (ho : j + b ≤ i ∨ i + w ≤ j) : fld (n ||| v * 2 ^ i) j b = fld n j b := by
  refine Nat.eq_of_testBit_eq fun t => ?_
  rw [fld_bit, fld_bit]
  by_cases z : t < b
  · rw [orF_bit hv, if_neg (by omega)]
  · rw [decide_eq_false z, Bool.false_and, Bool.false_and]
theorem fld_0 (i w : Nat) : fld 0 i w = 0 := by unfold fld; rw [Nat.zero_div, Nat.zero_mod]
/-- where carriers are, where slates lie and what is left of them, what is gone already, what is known -/
def PKm (P S : PT) (n : Nat) : Prop := n < 2 ^ 20 ∧ ∀ m, m < P 0 6 → fld n (4 * m) 4 = S 1 m
def PKs (P S : PT) (n : Nat) : Prop := n < 2 ^ 30 ∧ ∀ s, s < P 0 7 → fld n (10 * s) 4 = S 2 s ∧ fld n (10 * s + 4) 6 = S 3 s
def PKg (S : PT) (n : Nat) : Prop := n < 2 ^ 11 ∧ (∀ m, m < 5 → n.testBit m = (S 0 6).testBit m) ∧ ∀ s, s < 3 → n.testBit (8 + s) = (S 0 7).testBit s
def PKk (S : PT) (s n : Nat) : Prop := n < 2 ^ 48 ∧ ∀ x, x < 8 → fld n (6 * x) 6 = S 4 (8 * s + x)
theorem PKm.set {P S S' : PT} {n m v : Nat} (H : PKm P S n) (h6 : P 0 6 ≤ 5) (hm : m < P 0 6) (hv : v < 16) (e : ∀ j, S' 1 j = if j = m then v else S 1 j) : PKm P S' (setF n (4 * m) 4 v) := by
  refine ⟨setF_lt H.1 (show v < 2 ^ 4 from hv) (by omega), fun j hj => ?_⟩
  rw [e j]
  by_cases z : j = m
  · subst z
    rw [if_pos rfl]
    have := setF_in (n := n) (i := 4 * j) (w := 4) (v := v) (a := 0) (b := 4) hv (by decide) (by omega)
    rw [Nat.add_zero] at this
    rw [this]
    unfold fld
    rw [Nat.pow_zero, Nat.div_one, Nat.mod_eq_of_lt (show v < 2 ^ 4 from hv)]
  · rw [if_neg z, setF_out (show v < 2 ^ 4 from hv) (by omega) (by omega)]
    exact H.2 j hj
theorem PKs.set {P S S' : PT} {n s to l : Nat} (H : PKs P S n) (h7 : P 0 7 ≤ 3) (hs : s < P 0 7) (ht : to < 16) (hl : l < 64) (e2 : ∀ j, S' 2 j = if j = s then to else S 2 j) (e3 : ∀ j, S' 3 j = if j = s then l else S 3 j) : PKs P S' (setF n (10 * s) 10 (to ||| l * 2 ^ 4)) := by
  have ev : to ||| l * 2 ^ 4 = to + l * 2 ^ 4 := n_or2 (show to < 2 ^ 4 from ht)
  have hv : to ||| l * 2 ^ 4 < 2 ^ 10 := by rw [ev]; omega
  refine ⟨setF_lt H.1 hv (by omega), fun j hj => ?_⟩
  rw [e2 j, e3 j]
  by_cases z : j = s
  · subst z
    rw [if_pos rfl, if_pos rfl]
    have a1 := setF_in (n := n) (i := 10 * j) (w := 10) (v := to ||| l * 2 ^ 4) (a := 0) (b := 4) hv (by decide) (by omega)
    have a2 := setF_in (n := n) (i := 10 * j) (w := 10) (v := to ||| l * 2 ^ 4) (a := 4) (b := 6) hv (by decide) (by omega)
    rw [Nat.add_zero] at a1
    rw [a1, a2, ev]
    unfold fld
    omega
  · rw [if_neg z, if_neg z, setF_out hv (by omega) (by omega), setF_out hv (by omega) (by omega)]
    exact H.2 j hj
theorem PKk.set {S S' : PT} {n s t x l : Nat} (H : PKk S t n) (hx : x < 8) (hl : l < 64) (e : ∀ y, y < 8 → S' 4 (8 * s + y) = if y = x then S 4 (8 * s + x) ||| l else S 4 (8 * s + y)) (hts : t = s) : PKk S' s (n ||| l * 2 ^ (6 * x)) := by
  subst hts
  refine ⟨or_lt H.1 (mul_pow_lt (show l < 2 ^ 6 from hl) (by omega)), fun y hy => ?_⟩
  rw [e y hy]
  by_cases z : y = x
  · subst z
    rw [if_pos rfl, orF_in (show l < 2 ^ 6 from hl), H.2 y hy]
  · rw [if_neg z, orF_out (show l < 2 ^ 6 from hl) (by omega)]
    exact H.2 y hy
theorem PKg.set {S S' : PT} {n m s : Nat} (H : PKg S n) (hm : m < 5) (hs : s < 3) (e6 : S' 0 6 = S 0 6 ||| 2 ^ m) (e7 : S' 0 7 = S 0 7 ||| 2 ^ s) : PKg S' (n ||| (2 ^ m ||| 2 ^ (8 + s))) := by
  refine ⟨or_lt H.1 (or_lt (pow_lt (by omega)) (pow_lt (by omega))), fun j hj => ?_, fun j hj => ?_⟩
  · rw [e6, Nat.testBit_or, Nat.testBit_or, Nat.testBit_or, H.2.1 j hj, bit_pw, bit_pw, decide_eq_false (show ¬ j = 8 + s by omega), Bool.or_false]
  · rw [e7, Nat.testBit_or, Nat.testBit_or, Nat.testBit_or, H.2.2 j hj, bit_pw, bit_pw, bit_pw, decide_eq_false (show ¬ 8 + j = m by omega), Bool.false_or]
    congr 1
    exact decide_eq_decide.mpr (by omega)
