set_option maxRecDepth 100000
set_option maxHeartbeats 1000000
/-! RAIN: all sets of DAYS against those of the busy DAYS; in lowest terms -/
def AgR (S T : PT) : Prop := ∀ j k, ¬ (j = 0 ∧ k = 3) → S j k = T j k
theorem AgR.rf (S : PT) : AgR S S := fun _ _ _ => rfl
theorem AgR.up {S T : PT} (h : AgR S T) (j k v : Nat) : AgR (up S j k v) (up T j k v) := fun a b hab => by
  show (if a = j ∧ b = k then v else S a b) = if a = j ∧ b = k then v else T a b
  split
  · rfl
  · exact h a b hab
theorem AgR.hin {P S T : PT} (h : AgR S T) (i : Nat) : hinS P S i = hinS P T i := by
  unfold hinS loadS
  simp only [h 0 6 (by decide), h 0 7 (by decide), h 0 2 (by decide), h 0 1 (by decide), fun x => h 1 x (by omega), fun x => h 2 x (by omega), fun x => h 3 x (by omega)]
theorem AgR.out {P S T : PT} (h : AgR S T) (i : Nat) : AgR (outS P S i) (outS P T i) := by
  unfold outS loadS
  simp only [h 0 6 (by decide), h 0 7 (by decide), fun x => h 2 x (by omega), fun x => h 3 x (by omega)]
  exact ((((h.up _ _ _).up _ _ _).up _ _ _).up _ _ _).up _ _ _
theorem AgR.car {P S T : PT} (h : AgR S T) (i : Nat) (b : Bool) : AgR (carS P S i b) (carS P T i b) := by
  unfold carS wetS
  simp only [h 0 0 (by decide), fun x => h 3 x (by omega), fun x => h 4 x (by omega), fun x => h 5 x (by omega)]
  split
  · exact ((h.out i).up _ _ _).up _ _ _
  · exact (((h.out i).up _ _ _).up _ _ _).up _ _ _
theorem AgR.step {P S T : PT} (h : AgR S T) {d i : Nat} (hb : P 13 i = d → (S 0 3).testBit d = (T 0 3).testBit d) : AgR (stepS P S d i) (stepS P T d i) := by
  unfold stepS
  by_cases z : P 13 i = d
  · rw [if_pos z, if_pos z, h.hin i, hb z]
    split
    · exact (h.up _ _ _).car i _
    · exact h.up _ _ _
  · rw [if_neg z, if_neg z]
    exact h
theorem day0 (P S : PT) (d : Nat) : ∀ n k, k < 6 → dayN P S d n 0 k = S 0 k := by
  intro n
  induction n with
  | zero =>
    intro k hk1
    have h6 : ¬ k = 6 := by omega
    have h7 : ¬ k = 7 := by omega
    show up (up S 0 6 0) 0 7 0 0 k = _
    simp [up, h6, h7]
  | succ n ih =>
    intro k hk1
    show stepS P (dayN P S d n) d n 0 k = _
    have e : up (dayN P S d n) 6 n (hinS P (dayN P S d n) n) 0 k = dayN P S d n 0 k := by simp [up]
    unfold stepS
    split
    · split
      · rw [car0 _ _ _ _ _ hk1, e]; exact ih k hk1
      · rw [e]; exact ih k hk1
    · exact ih k hk1
theorem AgR.day {P S T : PT} (h : AgR S T) {d : Nat} (hb : ∀ i, i < P 9 1 → P 13 i = d → (S 0 3).testBit d = (T 0 3).testBit d) : ∀ n, n ≤ P 9 1 → AgR (dayN P S d n) (dayN P T d n) := by
  intro n
  induction n with
  | zero => intro _; exact (h.up 0 6 0).up 0 7 0
  | succ n ih =>
    intro hn1
    refine (ih (by omega)).step (fun z => ?_)
    rw [day0 P S d n 3 (by decide), day0 P T d n 3 (by decide)]
    exact hb n (by omega) z
theorem AgR.beg {P S T : PT} (h : AgR S T) : AgR (begS P S) (begS P T) := fun j k hjk => by
  unfold begS fsS
  simp only [h 0 4 (by decide), h 0 5 (by decide), h j k hjk]
theorem AgR.run {P S T : PT} (h : AgR S T) : ∀ d, (∀ i, i < P 9 1 → P 13 i < d → (S 0 3).testBit (P 13 i) = (T 0 3).testBit (P 13 i)) → AgR (runN P S d) (runN P T d) := by
  intro d
  induction d with
  | zero => intro _; exact h.beg
  | succ d ih =>
    intro hb
    refine (ih (fun i h1 h2 => hb i h1 (by omega))).day (fun i h1 h2 => ?_) _ (Nat.le_refl _)
    rw [run0 _ _ _ _ (by decide), run0 _ _ _ _ (by decide), ← h2]
    exact hb i h1 (by omega)
theorem buN_bit (P : PT) {i : Nat} : ∀ n, i < n → P 13 i < P 0 1 → (buN P n).testBit (P 13 i) = true := by
  intro n
  induction n with
  | zero => intro q; omega
  | succ n ih =>
    intro q z
    show (buN P n ||| if P 13 n < P 0 1 then 2 ^ P 13 n else 0).testBit (P 13 i) = true
    rw [Nat.testBit_or]
    by_cases y : i = n
    · subst y
      rw [if_pos z, Nat.testBit_two_pow_self]
      simp
    · rw [ih (by omega) z]
      rfl
theorem buN_lt (P : PT) : ∀ n, buN P n < 2 ^ P 0 1 := by
  intro n
  induction n with
  | zero => exact Nat.two_pow_pos _
  | succ n ih =>
    show (buN P n ||| if P 13 n < P 0 1 then 2 ^ P 13 n else 0) < _
    refine or_lt ih ?_
    split
    · exact pow_lt (by assumption)
    · exact Nat.two_pow_pos _
/-- RAIN on a DAY without CARRIES is none -/
theorem rain_busy (P : PT) (r : Nat) {j k : Nat} (hj : j ≠ 0) : runN P (whT P 3 r) (P 0 1) j k = runN P (whT P 3 (r &&& bsP P)) (P 0 1) j k := by
  have h : AgR (whT P 3 r) (whT P 3 (r &&& bsP P)) := fun a b hab => by
    unfold whT up
    rw [if_neg (fun q => hab q), if_neg (fun q => hab q)]
  have e : ∀ v, whT P 3 v 0 3 = v := fun v => by
    unfold whT up
    exact if_pos ⟨rfl, rfl⟩
  refine h.run (P 0 1) (fun i h1 h2 => ?_) j k (by omega)
  rw [e, e, Nat.testBit_and]
  have := buN_bit P (P 9 1) h1 h2
  unfold bsP
  rw [this, Bool.and_true]
/-- the weight of a set of DAYS -/
def wS (o : Nat) : Nat → Nat → Nat
  | 0, _ => 1
  | d + 1, t => wS o d t * (if t.testBit d = true then o else 10 - o)
def lk (o B r : Nat) : Nat := o ^ pop r * (10 - o) ^ (pop B - pop r)
theorem bit2 (t : Nat) {s : Nat} (hs : s < 2) (d : Nat) : (2 * t + s).testBit (d + 1) = t.testBit d := by
  rw [Nat.testBit_succ]
  congr 1
  omega
theorem wS_low (o : Nat) {s : Nat} (hs : s < 2) (t : Nat) : ∀ d, wS o (d + 1) (2 * t + s) = (if s = 1 then o else 10 - o) * wS o d t := by
  intro d
  induction d with
  | zero =>
    show 1 * (if (2 * t + s).testBit 0 = true then o else 10 - o) = _ * 1
    rw [Nat.one_mul, Nat.mul_one]
    rcases (show s = 0 ∨ s = 1 by omega) with rfl | rfl
    · have : (2 * t + 0).testBit 0 = false := by rw [Nat.testBit_zero]; simp
      rw [this]; simp
    · have : (2 * t + 1).testBit 0 = true := by rw [Nat.testBit_zero]; simp
      rw [this]; simp
  | succ d ih =>
    show wS o (d + 1) (2 * t + s) * (if (2 * t + s).testBit (d + 1) = true then o else 10 - o) = _ * (wS o d t * (if t.testBit d = true then o else 10 - o))
    rw [ih, bit2 t hs, Nat.mul_assoc]
theorem and2 (a b : Nat) {s t : Nat} (hs : s < 2) (ht : t < 2) : (2 * a + s) &&& (2 * b + t) = 2 * (a &&& b) + s * t := by
  have hst : s * t < 2 := by
    rcases (show s = 0 ∨ s = 1 by omega) with rfl | rfl <;> omega
  refine Nat.eq_of_testBit_eq fun i => ?_
  rcases i with _ | i
  · rw [Nat.testBit_and, Nat.testBit_zero, Nat.testBit_zero, Nat.testBit_zero]
    rcases (show s = 0 ∨ s = 1 by omega) with rfl | rfl <;> rcases (show t = 0 ∨ t = 1 by omega) with rfl | rfl <;> simp
  · rw [Nat.testBit_and, bit2 a hs, bit2 b ht, bit2 _ hst, Nat.testBit_and]
theorem and2_00 (a b : Nat) : (2 * a) &&& (2 * b) = 2 * (a &&& b) := and2 a b (s := 0) (t := 0) (by decide) (by decide)
theorem and2_01 (a b : Nat) : (2 * a) &&& (2 * b + 1) = 2 * (a &&& b) := and2 a b (s := 0) (t := 1) (by decide) (by decide)
theorem and2_11 (a b : Nat) : (2 * a + 1) &&& (2 * b + 1) = 2 * (a &&& b) + 1 := and2 a b (s := 1) (t := 1) (by decide) (by decide)
theorem and2_0t (a b : Nat) {t : Nat} (ht : t < 2) : (2 * a) &&& (2 * b + t) = 2 * (a &&& b) := by
  have := and2 a b (s := 0) (t := t) (by decide) ht
  rw [Nat.zero_mul] at this
  exact this
theorem and2_1t (a b : Nat) {t : Nat} (ht : t < 2) : (2 * a + 1) &&& (2 * b + t) = 2 * (a &&& b) + t := by
  have := and2 a b (s := 1) (t := t) (by decide) ht
  rw [Nat.one_mul] at this
  exact this
theorem sm_two (f : Nat → Nat) : ∀ n, fb_sm f (2 * n) = fb_sm (fun j => f (2 * j) + f (2 * j + 1)) n := by
  intro n
  induction n with
  | zero => rfl
  | succ n ih =>
    show fb_sm f (2 * n) + f (2 * n) + f (2 * n + 1) = fb_sm (fun j => f (2 * j) + f (2 * j + 1)) n + (f (2 * n) + f (2 * n + 1))
    rw [ih, Nat.add_assoc]
theorem sm_mul (c : Nat) (f : Nat → Nat) : ∀ n, fb_sm (fun i => c * f i) n = c * fb_sm f n := by
  intro n
  induction n with
  | zero => rfl
  | succ n ih =>
    show fb_sm (fun i => c * f i) n + c * f n = c * (fb_sm f n + f n)
    rw [ih, Nat.mul_add]
/-- the next set -/
def nxR (B r : Nat) : Nat := (r + 256 - B) &&& B
theorem sub7 {x B w : Nat} (hB : B < 2 ^ w) : (x + 2 ^ w) &&& B = x &&& B := by
  have h1 : B = B &&& (2 ^ w - 1) := by rw [Nat.and_two_pow_sub_one_eq_mod, Nat.mod_eq_of_lt hB]
  rw [h1, Nat.and_comm B, ← Nat.and_assoc, ← Nat.and_assoc, Nat.and_two_pow_sub_one_eq_mod, Nat.and_two_pow_sub_one_eq_mod, Nat.add_mod_right]
theorem nx_w {B r w : Nat} (hB : B < 2 ^ w) (hw : w ≤ 8) : nxR B r = (r + 2 ^ w - B) &&& B := by
  unfold nxR
  have h : ∀ e, (r + 2 ^ w - B + e * 2 ^ w) &&& B = (r + 2 ^ w - B) &&& B := by
    intro e
    induction e with
    | zero => rw [Nat.zero_mul]; rfl
    | succ e ih => rw [Nat.succ_mul, ← Nat.add_assoc, sub7 hB, ih]
  have h2 : 256 = 2 ^ w * 2 ^ (8 - w) := by
    rw [← Nat.pow_add, show w + (8 - w) = 8 by omega]
  have h3 : 1 ≤ 2 ^ (8 - w) := Nat.two_pow_pos _
  have h4 : (2 ^ (8 - w) - 1) * 2 ^ w = 2 ^ (8 - w) * 2 ^ w - 2 ^ w := by rw [Nat.sub_mul, Nat.one_mul]
  have h5 : 2 ^ (8 - w) * 2 ^ w = 256 := by rw [Nat.mul_comm]; exact h2.symm
  rw [← h (2 ^ (8 - w) - 1), h4, h5]
  congr 1
  have h6 : 2 ^ w ≤ 256 := by rw [← h5]; exact Nat.le_mul_of_pos_left _ h3
  omega
theorem nx_b : ∀ w B r, B < 2 ^ w → r &&& B = r → (r + (2 ^ w - 1) - B) &&& B = r := by
  intro w
  induction w with
  | zero => intro B r hB hr; have : B = 0 := by omega
            subst this; rw [Nat.and_zero] at hr ⊢; exact hr
  | succ w ih =>
    intro B r hB hr
    obtain ⟨b, t, ht, rfl⟩ : ∃ b t, t < 2 ∧ B = 2 * b + t := ⟨B / 2, B % 2, Nat.mod_lt _ (by decide), by omega⟩
    obtain ⟨a, s, hs, rfl⟩ : ∃ a s, s < 2 ∧ r = 2 * a + s := ⟨r / 2, r % 2, Nat.mod_lt _ (by decide), by omega⟩
    rw [and2 a b hs ht] at hr
    have hb : b < 2 ^ w := by rw [Nat.pow_succ] at hB; omega
    have hp : 1 ≤ 2 ^ w := Nat.two_pow_pos _
    have hst : s * t = s ∧ a &&& b = a := by
      have h3 : s * t < 2 := by
        rcases (show s = 0 ∨ s = 1 by omega) with rfl | rfl <;> omega
      omega
    have ha : a ≤ b := by rw [← hst.2]; exact Nat.and_le_right
    have h1 := ih b a hb hst.2
    have hse : 1 + s - t < 2 ∧ (1 + s - t) * t = s ∧ t ≤ 1 + s := by
      rcases (show s = 0 ∨ s = 1 by omega) with rfl | rfl <;> rcases (show t = 0 ∨ t = 1 by omega) with rfl | rfl <;> simp at hst ⊢
    have h2 : 2 * a + s + (2 ^ (w + 1) - 1) - (2 * b + t) = 2 * (a + (2 ^ w - 1) - b) + (1 + s - t) := by
      rw [Nat.pow_succ]
      have := hse.2.2
      omega
    rw [h2, and2 _ _ hse.1 ht, h1, hse.2.1]
theorem rn_s (B i : Nat) : rnN B (i + 1) = nxR B (rnN B i) := rfl
theorem rn_sub (B : Nat) : ∀ i, rnN B i &&& B = rnN B i := by
  intro i
  cases i with
  | zero => exact Nat.zero_and _
  | succ i => show ((rnN B i + 256 - B) &&& B) &&& B = _; rw [Nat.and_assoc, Nat.and_self]; rfl
theorem rn_le (B i : Nat) : rnN B i ≤ B := by
  rw [← rn_sub]; exact Nat.and_le_right
theorem rn_0 {B : Nat} (hB : B < 128) : ∀ i, rnN (2 * B) i = 2 * rnN B i := by
  intro i
  induction i with
  | zero => rfl
  | succ i ih =>
    have hl := rn_le B i
    rw [rn_s, rn_s, ih, nx_w (w := 8) (by omega) (by decide), nx_w (w := 7) (B := B) hB (by decide)]
    rw [← and2_00]
    congr 1
    omega
theorem rn_1 {B : Nat} (hB : B < 128) : ∀ i, rnN (2 * B + 1) (2 * i) = 2 * rnN B i ∧ rnN (2 * B + 1) (2 * i + 1) = 2 * rnN B i + 1 := by
  have hst : ∀ i, rnN (2 * B + 1) (2 * i) = 2 * rnN B i → rnN (2 * B + 1) (2 * i + 1) = 2 * rnN B i + 1 := by
    intro i h
    have hl := rn_le B i
    rw [rn_s, h, nx_w (w := 8) (by omega) (by decide)]
    have h1 := nx_b 7 B (rnN B i) hB (rn_sub B i)
    have h2 := and2_11 (rnN B i + (2 ^ 7 - 1) - B) B
    rw [h1] at h2
    rw [show 2 * rnN B i + 2 ^ 8 - (2 * B + 1) = 2 * (rnN B i + (2 ^ 7 - 1) - B) + 1 by omega, h2]
  intro i
  induction i with
  | zero => exact ⟨rfl, hst 0 rfl⟩
  | succ i ih =>
    have hl := rn_le B i
    have h : rnN (2 * B + 1) (2 * (i + 1)) = 2 * rnN B (i + 1) := by
      rw [show 2 * (i + 1) = 2 * i + 1 + 1 by omega, rn_s, ih.2, rn_s, nx_w (w := 8) (by omega) (by decide), nx_w (w := 7) (B := B) hB (by decide)]
      rw [← and2_01]
      congr 1
      omega
    exact ⟨h, hst (i + 1) h⟩
theorem pop_2 : ∀ n, n < 128 → pop (2 * n) = pop n ∧ pop (2 * n + 1) = pop n + 1 := by decide +kernel
theorem pop_rn (B i : Nat) : pop (rnN B i) ≤ pop B := pop_sub (fun j _ h => by
  rw [← rn_sub, Nat.testBit_and] at h
  simp only [Bool.and_eq_true] at h
  exact h.2)
theorem rain_sum {o : Nat} (ho : o ≤ 10) : ∀ d, d ≤ 8 → ∀ B (f : Nat → Nat), B < 2 ^ d → pop B ≤ d ∧ fb_sm (fun t => wS o d t * f (t &&& B)) (2 ^ d) = 10 ^ (d - pop B) * fb_sm (fun i => lk o B (rnN B i) * f (rnN B i)) (2 ^ pop B) := by
  intro d
  induction d with
  | zero =>
    intro _ B f hB
    have : B = 0 := by omega
    subst this
    have e : pop 0 = 0 := by decide
    refine ⟨by rw [e]; exact Nat.le_refl _, ?_⟩
    rw [e]
    show 0 + 1 * f (0 &&& 0) = 1 * (0 + lk o 0 (rnN 0 0) * f (rnN 0 0))
    have e2 : lk o 0 (rnN 0 0) = 1 := by
      show o ^ pop 0 * (10 - o) ^ (pop 0 - pop 0) = 1
      rw [e]; simp
    rw [e2, Nat.and_zero]
    show _ = 1 * (0 + 1 * f 0)
    simp
  | succ d ih =>
    intro hd B f hB
    obtain ⟨b, t, ht, rfl⟩ : ∃ b t, t < 2 ∧ B = 2 * b + t := ⟨B / 2, B % 2, Nat.mod_lt _ (by decide), by omega⟩
    have hb : b < 2 ^ d := by rw [Nat.pow_succ] at hB; omega
    have hp : 2 ^ d ≤ 2 ^ 7 := Nat.pow_le_pow_right (by decide) (by omega)
    have hb7 : b < 128 := by omega
    have hp2 := pop_2 b hb7
    have hT : fb_sm (fun u => wS o (d + 1) u * f (u &&& (2 * b + t))) (2 ^ (d + 1)) = fb_sm (fun u => wS o d u * ((10 - o) * f (2 * (u &&& b)) + o * f (2 * (u &&& b) + t))) (2 ^ d) := by
      rw [show 2 ^ (d + 1) = 2 * 2 ^ d by rw [Nat.pow_succ, Nat.mul_comm], sm_two]
      refine fb_sm_cong (fun u _ => ?_)
      have a0 := and2_0t u b ht
      have a1 := and2_1t u b ht
      have w0 := wS_low o (s := 0) (by decide) u d
      have w1 := wS_low o (s := 1) (by decide) u d
      rw [if_neg (by decide)] at w0
      have w0 : wS o (d + 1) (2 * u) = (10 - o) * wS o d u := w0
      rw [if_pos rfl] at w1
      show wS o (d + 1) (2 * u) * f (2 * u &&& (2 * b + t)) + wS o (d + 1) (2 * u + 1) * f ((2 * u + 1) &&& (2 * b + t)) = _
      rw [a0, a1, w0, w1, Nat.mul_add, Nat.mul_comm (10 - o), Nat.mul_comm o, Nat.mul_assoc, Nat.mul_assoc]
    obtain ⟨h1, h2⟩ := ih (by omega) b (fun r => (10 - o) * f (2 * r) + o * f (2 * r + t)) hb
    rw [hT]
    refine ⟨?_, h2.trans ?_⟩
    · rcases (show t = 0 ∨ t = 1 by omega) with rfl | rfl
      · show pop (2 * b) ≤ d + 1
        rw [hp2.1]; omega
      · rw [hp2.2]; omega
    rcases (show t = 0 ∨ t = 1 by omega) with rfl | rfl
    · show 10 ^ (d - pop b) * fb_sm (fun i => lk o b (rnN b i) * ((10 - o) * f (2 * rnN b i) + o * f (2 * rnN b i))) (2 ^ pop b) = 10 ^ (d + 1 - pop (2 * b)) * fb_sm (fun i => lk o (2 * b) (rnN (2 * b) i) * f (rnN (2 * b) i)) (2 ^ pop (2 * b))
      rw [hp2.1, show d + 1 - pop b = (d - pop b) + 1 by omega, Nat.pow_succ, Nat.mul_assoc, ← sm_mul 10 (fun i => lk o (2 * b) (rnN (2 * b) i) * f (rnN (2 * b) i))]
      congr 1
      refine fb_sm_cong (fun i _ => ?_)
      have e : lk o (2 * b) (2 * rnN b i) = lk o b (rnN b i) := by
        unfold lk
        have hl := rn_le b i
        rw [hp2.1, (pop_2 (rnN b i) (by omega)).1]
      rw [rn_0 hb7, e]
      show lk o b (rnN b i) * ((10 - o) * f (2 * rnN b i) + o * f (2 * rnN b i)) = _
      rw [← Nat.add_mul, show 10 - o + o = 10 by omega, Nat.mul_left_comm]
    · rw [hp2.2, show d + 1 - (pop b + 1) = d - pop b by omega, show 2 ^ (pop b + 1) = 2 * 2 ^ pop b by rw [Nat.pow_succ, Nat.mul_comm], sm_two]
      congr 1
      refine fb_sm_cong (fun i _ => ?_)
      have hr := rn_1 hb7 i
      have hl := rn_le b i
      have hq := pop_2 (rnN b i) (by omega)
      have hpr := pop_rn b i
      have e0 : lk o (2 * b + 1) (2 * rnN b i) = lk o b (rnN b i) * (10 - o) := by
        unfold lk
        rw [hp2.2, hq.1, show pop b + 1 - pop (rnN b i) = pop b - pop (rnN b i) + 1 by omega, Nat.pow_succ, Nat.mul_assoc]
      have e1 : lk o (2 * b + 1) (2 * rnN b i + 1) = lk o b (rnN b i) * o := by
        unfold lk
        rw [hp2.2, hq.2, show pop b + 1 - (pop (rnN b i) + 1) = pop b - pop (rnN b i) by omega, Nat.pow_succ, Nat.mul_assoc, Nat.mul_assoc, Nat.mul_comm o]
      show lk o b (rnN b i) * ((10 - o) * f (2 * rnN b i) + o * f (2 * rnN b i + 1)) = lk o (2 * b + 1) (rnN (2 * b + 1) (2 * i)) * f (rnN (2 * b + 1) (2 * i)) + lk o (2 * b + 1) (rnN (2 * b + 1) (2 * i + 1)) * f (rnN (2 * b + 1) (2 * i + 1))
      rw [hr.1, hr.2, e0, e1, Nat.mul_add, Nat.mul_assoc, Nat.mul_assoc]
/-- in lowest terms: the same behind a common factor -/
theorem low_same {M A C X : Nat} (hM : 0 < M) : M * X / Nat.gcd (M * A) (M * C) = X / Nat.gcd A C := by
  rw [Nat.gcd_mul_left, Nat.mul_div_mul_left _ _ hM]
