set_option maxRecDepth 100000
set_option maxHeartbeats 1000000
/-! a SLATE that is brought ALONE, in plain numbers: a state is 256 HOUSE + HOUSES where it has been -/
def lbN (P : PT) (s : Nat) : Nat → Nat
  | 0 => lf0 P s
  | k + 1 => rubL P s (lbN P s k) (P 0 2)
abbrev okE (P : PT) (s t c x : Nat) : Prop := (doors P (c / 256) 0).testBit x = true ∧ wt P s (lbN P s (pop (c % 256) - 1)) + climb P (c / 256) x ≤ t
def toE (c x : Nat) : Nat := 256 * x + (c % 256 ||| 2 ^ x)
abbrev BQ : Type := (Nat → Nat) × Nat × (Nat → Nat)
def stE (P : PT) (s t k : Nat) (X : BQ) (x : Nat) : BQ := if okE P s t (X.1 k) x ∧ X.2.2 (toE (X.1 k) x) = 0 then (fun i => if i = X.2.1 then toE (X.1 k) x else X.1 i, X.2.1 + 1, fun c => if c = toE (X.1 k) x then X.2.2 (X.1 k) + 1 else X.2.2 c) else X
def rwE (P : PT) (s t k : Nat) (X : BQ) : Nat → BQ
  | 0 => X
  | x + 1 => stE P s t k (rwE P s t k X x) x
def c0E (P : PT) (s : Nat) : Nat := 256 * P 6 s + 2 ^ P 6 s
def bfE (P : PT) (s t : Nat) : Nat → BQ
  | 0 => (fun _ => c0E P s, 1, fun c => if c = c0E P s then 1 else 0)
  | k + 1 => if k < (bfE P s t k).2.1 then rwE P s t k (bfE P s t k) (P 0 4) else bfE P s t k
def edE (P : PT) (s t : Nat) (c d : Nat) : Prop := ∃ x, x < P 0 4 ∧ okE P s t c x ∧ d = toE c x
/-- a state that can be -/
def OKc (P : PT) (s c : Nat) : Prop := c / 256 < P 0 4 ∧ (c % 256).testBit (c / 256) = true ∧ (c % 256).testBit (P 6 s) = true
def WE (P : PT) (s : Nat) (X : BQ) : Prop := (∀ i, i < X.2.1 → X.2.2 (X.1 i) ≠ 0) ∧ (∀ c, X.2.2 c ≠ 0 → ∃ i, i < X.2.1 ∧ X.1 i = c) ∧ (∀ i j, i < j → j < X.2.1 → X.1 i ≠ X.1 j) ∧ (∀ i j, i ≤ j → j < X.2.1 → X.2.2 (X.1 i) ≤ X.2.2 (X.1 j)) ∧ (∀ i, i < X.2.1 → X.2.2 (X.1 i) ≤ i + 1) ∧ (∀ c, X.2.2 c ≠ 0 → OKc P s c) ∧ 1 ≤ X.2.1
/-- while state k is left -/
def NE (k : Nat) (X : BQ) : Prop := ∀ i, i < X.2.1 → X.2.2 (X.1 i) ≤ X.2.2 (X.1 k) + 1
theorem toE_div {c x : Nat} (hx : x < 8) : toE c x / 256 = x := by
  have h1 : c % 256 ||| 2 ^ x < 2 ^ 8 := or_lt (Nat.mod_lt _ (by decide)) (pow_lt hx)
  unfold toE
  omega
theorem toE_mod {c x : Nat} (hx : x < 8) : toE c x % 256 = (c % 256 ||| 2 ^ x) := by
  have h1 : c % 256 ||| 2 ^ x < 2 ^ 8 := or_lt (Nat.mod_lt _ (by decide)) (pow_lt hx)
  unfold toE
  omega
theorem OKc.to {P : PT} {s c x : Nat} (h : OKc P s c) (hx : x < P 0 4) (h8 : P 0 4 ≤ 8) : OKc P s (toE c x) := by
  unfold OKc
  rw [toE_div (by omega), toE_mod (by omega), fb_bit_set, fb_bit_set, h.2.2]
  exact ⟨hx, by simp, by simp⟩
theorem OKc.lt {P : PT} {s c : Nat} (h : OKc P s c) (h8 : P 0 4 ≤ 8) : c < 2048 := by
  have := h.1
  omega
theorem doors_h {P : PT} (hW : WFP P) {a x : Nat} (h : (doors P a 0).testBit x = true) : x < P 0 4 := ((door_adj P a x).mp h).lt hW |>.2
section
variable {P : PT} {s t k x : Nat} {X : BQ}
theorem stE_Q (h : k < X.2.1) : (stE P s t k X x).1 k = X.1 k := by
  unfold stE
  split
  · show (if k = X.2.1 then _ else X.1 k) = _
    rw [if_neg (by omega)]
  · rfl
theorem stE_D (c : Nat) (h : X.2.2 c ≠ 0) : (stE P s t k X x).2.2 c = X.2.2 c := by
  unfold stE
  split
  · rename_i q
    show (if c = toE (X.1 k) x then _ else X.2.2 c) = _
    rw [if_neg (fun z => h (by rw [z]; exact q.2))]
  · rfl
theorem stE_n : X.2.1 ≤ (stE P s t k X x).2.1 := by
  unfold stE
  split
  · show X.2.1 ≤ X.2.1 + 1
    omega
  · exact Nat.le_refl _
theorem stE_to (h : okE P s t (X.1 k) x) : (stE P s t k X x).2.2 (toE (X.1 k) x) ≠ 0 := by
  unfold stE
  split
  · show (if toE (X.1 k) x = toE (X.1 k) x then _ else _) ≠ 0
    rw [if_pos rfl]
    omega
  · rename_i q
    exact fun z => q ⟨h, z⟩
theorem stE_W (hw : WE P s X) (hn : NE k X) (hk : k < X.2.1) (hx : x < P 0 4) (h8 : P 0 4 ≤ 8) : WE P s (stE P s t k X x) ∧ NE k (stE P s t k X x) := by
  obtain ⟨w1, w2, w3, w4, w5, w6, w7⟩ := hw
  unfold stE
  split
  · rename_i q
    obtain ⟨q1, q2⟩ := q
    have hq : ∀ i, i < X.2.1 → X.1 i ≠ toE (X.1 k) x := fun i hi1 z => w1 i hi1 (by rw [z]; exact q2)
    have eQ : ∀ i, i < X.2.1 → (if i = X.2.1 then toE (X.1 k) x else X.1 i) = X.1 i := fun i hi1 => if_neg (by omega)
    have eD : ∀ i, i < X.2.1 → (if X.1 i = toE (X.1 k) x then X.2.2 (X.1 k) + 1 else X.2.2 (X.1 i)) = X.2.2 (X.1 i) := fun i hi1 => if_neg (hq i hi1)
    have hv : ∀ i, i < X.2.1 + 1 → (if (if i = X.2.1 then toE (X.1 k) x else X.1 i) = toE (X.1 k) x then X.2.2 (X.1 k) + 1 else X.2.2 (if i = X.2.1 then toE (X.1 k) x else X.1 i)) = if i = X.2.1 then X.2.2 (X.1 k) + 1 else X.2.2 (X.1 i) := by
      intro i hi1
      by_cases z : i = X.2.1
      · rw [if_pos z, if_pos rfl, if_pos z]
      · rw [if_neg z, if_neg (hq i (by omega)), if_neg z]
    refine ⟨⟨fun i hi1 => ?_, fun c hc => ?_, fun i j hij hj => ?_, fun i j hij hj => ?_, fun i hi1 => ?_, fun c hc => ?_, ?_⟩, fun i hi1 => ?_⟩
    · show (if (if i = X.2.1 then toE (X.1 k) x else X.1 i) = toE (X.1 k) x then X.2.2 (X.1 k) + 1 else X.2.2 (if i = X.2.1 then toE (X.1 k) x else X.1 i)) ≠ 0
      rw [hv i hi1]
      split
      · omega
      · exact w1 i (by have : i < X.2.1 + 1 := hi1; omega)
    · by_cases z : c = toE (X.1 k) x
      · exact ⟨X.2.1, Nat.lt_succ_self _, by show (if X.2.1 = X.2.1 then _ else _) = _; rw [if_pos rfl, z]⟩
      · have hc : (if c = toE (X.1 k) x then X.2.2 (X.1 k) + 1 else X.2.2 c) ≠ 0 := hc
        rw [if_neg z] at hc
        obtain ⟨i, h1, h2⟩ := w2 c hc
        exact ⟨i, Nat.lt_succ_of_lt h1, by show (if i = X.2.1 then _ else X.1 i) = c; rw [if_neg (by omega), h2]⟩
    · have hj : j < X.2.1 + 1 := hj
      show (if i = X.2.1 then toE (X.1 k) x else X.1 i) ≠ (if j = X.2.1 then toE (X.1 k) x else X.1 j)
      rw [if_neg (show ¬ i = X.2.1 by omega)]
      by_cases z : j = X.2.1
      · rw [if_pos z]; exact hq i (by omega)
      · rw [if_neg z]; exact w3 i j hij (by omega)
    · have hj : j < X.2.1 + 1 := hj
      show (if (if i = X.2.1 then toE (X.1 k) x else X.1 i) = toE (X.1 k) x then X.2.2 (X.1 k) + 1 else X.2.2 (if i = X.2.1 then toE (X.1 k) x else X.1 i)) ≤ (if (if j = X.2.1 then toE (X.1 k) x else X.1 j) = toE (X.1 k) x then X.2.2 (X.1 k) + 1 else X.2.2 (if j = X.2.1 then toE (X.1 k) x else X.1 j))
      rw [hv i (by omega), hv j hj]
      by_cases z : j = X.2.1
      · rw [if_pos z]
        split
        · exact Nat.le_refl _
        · exact hn i (by omega)
      · rw [if_neg z, if_neg (by omega)]
        exact w4 i j hij (by omega)
    · have hi1 : i < X.2.1 + 1 := hi1
      show (if (if i = X.2.1 then toE (X.1 k) x else X.1 i) = toE (X.1 k) x then X.2.2 (X.1 k) + 1 else X.2.2 (if i = X.2.1 then toE (X.1 k) x else X.1 i)) ≤ i + 1
      rw [hv i hi1]
      split
      · have := w5 k hk; omega
      · exact w5 i (by omega)
    · by_cases z : c = toE (X.1 k) x
      · rw [z]
        exact (w6 _ (w1 k hk)).to hx h8
      · have hc : (if c = toE (X.1 k) x then X.2.2 (X.1 k) + 1 else X.2.2 c) ≠ 0 := hc
        rw [if_neg z] at hc
        exact w6 c hc
    · show 1 ≤ X.2.1 + 1
      omega
    · have hi1 : i < X.2.1 + 1 := hi1
      show (if (if i = X.2.1 then toE (X.1 k) x else X.1 i) = toE (X.1 k) x then X.2.2 (X.1 k) + 1 else X.2.2 (if i = X.2.1 then toE (X.1 k) x else X.1 i)) ≤ (if (if k = X.2.1 then toE (X.1 k) x else X.1 k) = toE (X.1 k) x then X.2.2 (X.1 k) + 1 else X.2.2 (if k = X.2.1 then toE (X.1 k) x else X.1 k)) + 1
      rw [hv i hi1, hv k (by omega), if_neg (show ¬ k = X.2.1 by omega)]
      split
      · exact Nat.le_refl _
      · exact hn i (by omega)
  · exact ⟨⟨w1, w2, w3, w4, w5, w6, w7⟩, hn⟩
theorem rwE_all (hw : WE P s X) (hn : NE k X) (hk : k < X.2.1) (h8 : P 0 4 ≤ 8) : ∀ x, x ≤ P 0 4 → WE P s (rwE P s t k X x) ∧ NE k (rwE P s t k X x) ∧ k < (rwE P s t k X x).2.1 ∧ (rwE P s t k X x).1 k = X.1 k ∧ (∀ c, X.2.2 c ≠ 0 → (rwE P s t k X x).2.2 c = X.2.2 c) ∧ X.2.1 ≤ (rwE P s t k X x).2.1 ∧ ∀ y, y < x → okE P s t (X.1 k) y → (rwE P s t k X x).2.2 (toE (X.1 k) y) ≠ 0 := by
  intro x
  induction x with
  | zero => intro _; exact ⟨hw, hn, hk, rfl, fun _ _ => rfl, Nat.le_refl _, fun y hy => absurd hy (Nat.not_lt_zero y)⟩
  | succ x ih =>
    intro hx
    obtain ⟨i1, i2, i3, i4, i5, i6, i7⟩ := ih (by omega)
    have h1 := stE_W (t := t) i1 i2 i3 (x := x) (by omega) h8
    refine ⟨h1.1, h1.2, Nat.lt_of_lt_of_le i3 stE_n, ?_, fun c hc => ?_, Nat.le_trans i6 stE_n, fun y hy hok => ?_⟩
    · show (stE P s t k (rwE P s t k X x) x).1 k = _
      rw [stE_Q i3, i4]
    · show (stE P s t k (rwE P s t k X x) x).2.2 c = _
      rw [stE_D _ (by rw [i5 c hc]; exact hc), i5 c hc]
    · show (stE P s t k (rwE P s t k X x) x).2.2 _ ≠ 0
      by_cases z : y = x
      · subst z
        have := stE_to (k := k) (X := rwE P s t k X y) (x := y) (P := P) (s := s) (t := t) (by rw [i4]; exact hok)
        rw [i4] at this
        exact this
      · have h2 := i7 y (by omega) hok
        rw [stE_D _ h2]
        exact h2
end
section
variable {P : PT} {s t : Nat}
theorem WE0 (hW : WFP P) (hs : s < P 0 7) : WE P s (bfE P s t 0) := by
  have hb := hW.all
  have h6 := (hW.sl hs).1
  have hc : c0E P s / 256 = P 6 s ∧ c0E P s % 256 = 2 ^ P 6 s := by
    have h1 : 2 ^ P 6 s < 2 ^ 8 := pow_lt (by omega)
    unfold c0E
    generalize 2 ^ P 6 s = q at h1
    omega
  refine ⟨fun i _ => ?_, fun c h => ?_, fun i j hij hj => ?_, fun i j _ _ => Nat.le_refl _, fun i _ => ?_, fun c h => ?_, Nat.le_refl _⟩
  · show (if c0E P s = c0E P s then 1 else 0) ≠ 0
    rw [if_pos rfl]; decide
  · refine ⟨0, Nat.one_pos, ?_⟩
    by_cases z : c = c0E P s
    · exact z.symm
    · exact absurd (if_neg z) h
  · have hj : j < 1 := hj
    omega
  · show (if c0E P s = c0E P s then 1 else 0) ≤ i + 1
    rw [if_pos rfl]; omega
  · by_cases z : c = c0E P s
    · subst z
      unfold OKc
      rw [hc.1, hc.2]
      simp [h6]
    · exact absurd (if_neg z) h
theorem bfE_W (hW : WFP P) (hs : s < P 0 7) : ∀ k, WE P s (bfE P s t k) ∧ (k < (bfE P s t k).2.1 → NE k (bfE P s t k)) ∧ (∀ i, i < k → i < (bfE P s t k).2.1 → ∀ y, y < P 0 4 → okE P s t ((bfE P s t k).1 i) y → (bfE P s t k).2.2 (toE ((bfE P s t k).1 i) y) ≠ 0) := by
  have hb := hW.all
  have h8 := hb.2.2.2.1
  intro k
  induction k with
  | zero =>
    refine ⟨WE0 hW hs, fun _ i _ => ?_, fun i hi1 => absurd hi1 (Nat.not_lt_zero i)⟩
    show _ ≤ _ + 1
    exact Nat.le_succ _
  | succ k ih =>
    obtain ⟨i1, i2, i3⟩ := ih
    show WE P s (if k < (bfE P s t k).2.1 then rwE P s t k (bfE P s t k) (P 0 4) else bfE P s t k) ∧ (k + 1 < (if k < (bfE P s t k).2.1 then rwE P s t k (bfE P s t k) (P 0 4) else bfE P s t k).2.1 → NE (k + 1) (if k < (bfE P s t k).2.1 then rwE P s t k (bfE P s t k) (P 0 4) else bfE P s t k)) ∧ (∀ i, i < k + 1 → i < (if k < (bfE P s t k).2.1 then rwE P s t k (bfE P s t k) (P 0 4) else bfE P s t k).2.1 → ∀ y, y < P 0 4 → okE P s t ((if k < (bfE P s t k).2.1 then rwE P s t k (bfE P s t k) (P 0 4) else bfE P s t k).1 i) y → (if k < (bfE P s t k).2.1 then rwE P s t k (bfE P s t k) (P 0 4) else bfE P s t k).2.2 (toE ((if k < (bfE P s t k).2.1 then rwE P s t k (bfE P s t k) (P 0 4) else bfE P s t k).1 i) y) ≠ 0)
    by_cases z : k < (bfE P s t k).2.1
    · rw [if_pos z]
      obtain ⟨j1, j2, j3, j4, j5, j6, j7⟩ := rwE_all (t := t) i1 (i2 z) z h8 (P 0 4) (Nat.le_refl _)
      obtain ⟨Y, hY⟩ : ∃ Y, Y = rwE P s t k (bfE P s t k) (P 0 4) := ⟨_, rfl⟩
      rw [← hY] at j1 j2 j3 j4 j5 j6 j7 ⊢
      have hQ : ∀ i, i < (bfE P s t k).2.1 → Y.1 i = (bfE P s t k).1 i := by
        intro i hi1
        rw [hY]
        have : ∀ x, x ≤ P 0 4 → (rwE P s t k (bfE P s t k) x).1 i = (bfE P s t k).1 i ∧ i < (rwE P s t k (bfE P s t k) x).2.1 := by
          intro x
          induction x with
          | zero => intro _; exact ⟨rfl, hi1⟩
          | succ x ihx =>
            intro hx
            have h1 := ihx (by omega)
            refine ⟨?_, Nat.lt_of_lt_of_le h1.2 stE_n⟩
            show (stE P s t k (rwE P s t k (bfE P s t k) x) x).1 i = _
            rw [← h1.1]
            unfold stE
            split
            · show (if i = _ then _ else _) = _
              rw [if_neg (by have := h1.2; omega)]
            · rfl
        exact (this _ (Nat.le_refl _)).1
      refine ⟨j1, fun hk1 i hi1 => ?_, fun i hi1 hi2 y hy hok => ?_⟩
      · have h1 := j2 i hi1
        have h2 := j1.2.2.2.1 k (k + 1) (by omega) hk1
        omega
      · by_cases zk : i = k
        · subst zk
          rw [j4] at hok ⊢
          exact j7 y hy hok
        · rw [hQ i (by omega)] at hok ⊢
          have h1 := i3 i (by omega) (by omega) y hy hok
          rw [j5 _ h1]
          exact h1
    · rw [if_neg z]
      exact ⟨i1, fun h => absurd h (by omega), fun i hi1 hi2 y hy hok => i3 i (by omega) hi2 y hy hok⟩
theorem WE.le {X : BQ} (h : WE P s X) (h8 : P 0 4 ≤ 8) : X.2.1 ≤ 2048 := fb_holes 2048 X.2.1 X.1 (fun i hi1 => (h.2.2.2.2.2.1 _ (h.1 i hi1)).lt h8) h.2.2.1
theorem bfE_end (k : Nat) (hk : (bfE P s t k).2.1 ≤ k) : ∀ j, bfE P s t (k + j) = bfE P s t k := by
  intro j
  induction j with
  | zero => rfl
  | succ j ih =>
    show (if k + j < (bfE P s t (k + j)).2.1 then _ else bfE P s t (k + j)) = _
    rw [ih, if_neg (by omega)]
def fiE (P : PT) (s t : Nat) : BQ := bfE P s t 2048
theorem fiE_of (k : Nat) (hk : (bfE P s t k).2.1 ≤ k) (h2 : k ≤ 2048) : bfE P s t k = fiE P s t := by
  have := bfE_end k hk (2048 - k)
  rw [show k + (2048 - k) = 2048 by omega] at this
  exact this.symm
theorem fiE_W (hW : WFP P) (hs : s < P 0 7) : WE P s (fiE P s t) := (bfE_W hW hs 2048).1
theorem bfE_cl (hW : WFP P) (hs : s < P 0 7) {N : Nat} (hN : 2048 ≤ N) {c y : Nat} (hc : (bfE P s t N).2.2 c ≠ 0) (hy : y < P 0 4) (hok : okE P s t c y) : (bfE P s t N).2.2 (toE c y) ≠ 0 := by
  obtain ⟨h1, -, h5⟩ := bfE_W (t := t) hW hs N
  have h2 := h1.le hW.all.2.2.2.1
  obtain ⟨i, h3, h4⟩ := h1.2.1 c hc
  have h6 := h5 i (by omega) h3 y hy
  rw [h4] at h6
  exact h6 hok
theorem fiE_eq : fiE P s t = bfE P s t 2048 := rfl
theorem fiE_cl (hW : WFP P) (hs : s < P 0 7) {c y : Nat} (hc : (fiE P s t).2.2 c ≠ 0) (hy : y < P 0 4) (hok : okE P s t c y) : (fiE P s t).2.2 (toE c y) ≠ 0 := by
  rw [fiE_eq] at hc ⊢
  exact bfE_cl hW hs (Nat.le_refl _) hc hy hok
end
