set_option maxRecDepth 100000
set_option maxHeartbeats 1000000
/-! what isn't done has no load; who is out on a DAY -/
section
variable {P S : PT}
theorem step7o (U : PT) (d i c : Nat) (h : ¬ (P 13 i = d ∧ c = i)) : stepS P U d i 7 c = U 7 c ∧ stepS P U d i 6 c = U 6 c := by
  unfold stepS
  by_cases z : P 13 i = d
  · have hc : ¬ c = i := fun q => h ⟨z, q⟩
    rw [if_pos z]
    split
    · rw [car6, car7, if_neg hc]
      exact ⟨by simp [up], by simp [up, hc]⟩
    · exact ⟨by simp [up], by simp [up, hc]⟩
  · rw [if_neg z]
    exact ⟨rfl, rfl⟩
/-- which stand untouched -/
theorem day7 (U : PT) (d : Nat) : ∀ k c, ¬ (P 13 c = d ∧ c < k) → dayN P U d k 7 c = U 7 c ∧ dayN P U d k 6 c = U 6 c := by
  intro k
  induction k with
  | zero =>
    intro c _
    exact ⟨by show up (up U 0 6 0) 0 7 0 7 c = _; simp [up], by show up (up U 0 6 0) 0 7 0 6 c = _; simp [up]⟩
  | succ k ih =>
    intro c hc
    have h1 := ih c (fun q => hc ⟨q.1, by omega⟩)
    have h2 := step7o (P := P) (dayN P U d k) d k c (fun q => hc ⟨by rw [q.2]; exact q.1, by omega⟩)
    exact ⟨h2.1.trans h1.1, h2.2.trans h1.2⟩
theorem run7 (S : PT) : ∀ d c, d ≤ P 13 c → runN P S d 7 c = 0 := by
  intro d
  induction d with
  | zero => intro c _; simp [runN, begS]
  | succ d ih =>
    intro c hc
    show dayN P (runN P S d) d (P 9 1) 7 c = 0
    rw [(day7 (P := P) (runN P S d) d (P 9 1) c (fun q => by omega)).1]
    exact ih c (by omega)
theorem none7 (S : PT) : ∀ d i, i < 32 → runN P S d 6 i ≠ 0 → runN P S d 7 i = 0 := by
  intro d
  induction d with
  | zero => intro i _ _; simp [runN, begS]
  | succ d ih =>
    intro i hi1
    have hk : ∀ k, dayN P (runN P S d) d k 6 i ≠ 0 → dayN P (runN P S d) d k 7 i = 0 := by
      intro k
      induction k with
      | zero =>
        intro h6
        have e := day7 (P := P) (runN P S d) d 0 i (fun q => by omega)
        rw [e.2] at h6
        rw [e.1]
        exact ih i hi1 h6
      | succ k ihk =>
        intro h6
        have h6 : stepS P (dayN P (runN P S d) d k) d k 6 i ≠ 0 := h6
        show stepS P (dayN P (runN P S d) d k) d k 7 i = 0
        by_cases z : P 13 k = d ∧ i = k
        · have e := day7 (P := P) (runN P S d) d k i (fun q => by omega)
          have e7 : runN P S d 7 i = 0 := run7 S d i (by rw [z.2]; omega)
          unfold stepS at h6 ⊢
          rw [if_pos z.1] at h6 ⊢
          split at h6
          · rename_i y
            rw [car6] at h6
            rw [z.2, up_eq] at h6
            exact absurd y h6
          · rename_i y
            rw [if_neg y]
            have : up (dayN P (runN P S d) d k) 6 k (hinS P (dayN P (runN P S d) d k) k) 7 i = dayN P (runN P S d) d k 7 i := by simp [up]
            rw [this, e.1, e7]
        · have e := step7o (P := P) (dayN P (runN P S d) d k) d k i z
          rw [e.2] at h6
          rw [e.1]
          exact ihk h6
    exact hk (P 9 1)
/-- who is out on a DAY -/
theorem car06 (U : PT) (i : Nat) (b : Bool) : carS P U i b 0 6 = U 0 6 ||| 2 ^ P 10 i := by
  unfold carS outS
  split <;> simp [up]
theorem out_bit (U : PT) (d m : Nat) : ∀ k, (dayN P U d k 0 6).testBit m = true ↔ ∃ i, i < k ∧ P 13 i = d ∧ dayN P U d k 6 i = 0 ∧ P 10 i = m := by
  intro k
  induction k with
  | zero =>
    have e : dayN P U d 0 0 6 = 0 := by show up (up U 0 6 0) 0 7 0 0 6 = 0; simp [up]
    rw [e, Nat.zero_testBit]
    exact ⟨fun z => (by cases z), fun ⟨i, hi1, _⟩ => absurd hi1 (Nat.not_lt_zero i)⟩
  | succ k ih =>
    have e6 : ∀ i, i ≠ k → dayN P U d (k + 1) 6 i = dayN P U d k 6 i := fun i hi1 => (step7o (P := P) (dayN P U d k) d k i (fun q => hi1 q.2)).2
    by_cases z : P 13 k = d
    · by_cases y : hinS P (dayN P U d k) k = 0
      · have e0 : dayN P U d (k + 1) 0 6 = dayN P U d k 0 6 ||| 2 ^ P 10 k := by
          show stepS P (dayN P U d k) d k 0 6 = _
          unfold stepS
          rw [if_pos z, if_pos y, car06]
          have : up (dayN P U d k) 6 k (hinS P (dayN P U d k) k) 0 6 = dayN P U d k 0 6 := by simp [up]
          rw [this]
        have ek : dayN P U d (k + 1) 6 k = 0 := by
          show stepS P (dayN P U d k) d k 6 k = 0
          unfold stepS
          rw [if_pos z, if_pos y, car6, up_eq]
          exact y
        rw [e0, fb_bit_set, Bool.or_eq_true, ih]
        refine ⟨fun q => ?_, fun ⟨i, h1, h2, h3, h4⟩ => ?_⟩
        · rcases q with ⟨i, h1, h2, h3, h4⟩ | q
          · exact ⟨i, by omega, h2, by rw [e6 i (by omega)]; exact h3, h4⟩
          · exact ⟨k, by omega, z, ek, (of_decide_eq_true q).symm⟩
        · by_cases ik : i = k
          · subst ik
            exact Or.inr (decide_eq_true h4.symm)
          · rw [e6 i ik] at h3
            exact Or.inl ⟨i, by omega, h2, h3, h4⟩
      · have e0 : dayN P U d (k + 1) 0 6 = dayN P U d k 0 6 := by
          show stepS P (dayN P U d k) d k 0 6 = _
          unfold stepS
          rw [if_pos z, if_neg y]
          simp [up]
        have ek : dayN P U d (k + 1) 6 k ≠ 0 := by
          show stepS P (dayN P U d k) d k 6 k ≠ 0
          unfold stepS
          rw [if_pos z, if_neg y, up_eq]
          exact y
        rw [e0, ih]
        refine ⟨fun ⟨i, h1, h2, h3, h4⟩ => ⟨i, by omega, h2, by rw [e6 i (by omega)]; exact h3, h4⟩, fun ⟨i, h1, h2, h3, h4⟩ => ?_⟩
        by_cases ik : i = k
        · subst ik; exact absurd h3 ek
        · rw [e6 i ik] at h3
          exact ⟨i, by omega, h2, h3, h4⟩
    · have e0 : dayN P U d (k + 1) = dayN P U d k := by
        show stepS P (dayN P U d k) d k = _
        unfold stepS
        rw [if_neg z]
      rw [e0, ih]
      refine ⟨fun ⟨i, h1, h2, h3, h4⟩ => ⟨i, by omega, h2, h3, h4⟩, fun ⟨i, h1, h2, h3, h4⟩ => ?_⟩
      by_cases ik : i = k
      · subst ik; exact absurd h2 z
      · exact ⟨i, by omega, h2, h3, h4⟩
theorem run6 (S : PT) (i : Nat) : ∀ e d, P 13 i < d → runN P S (d + e) 6 i = runN P S d 6 i := by
  intro e
  induction e with
  | zero => intro d _; rfl
  | succ e ih =>
    intro d hd
    show dayN P (runN P S (d + e)) (d + e) (P 9 1) 6 i = _
    rw [(day7 (P := P) (runN P S (d + e)) (d + e) (P 9 1) i (fun q => by omega)).2]
    exact ih d hd
theorem out_td (d m : Nat) (hd : d < P 0 1) : (tdN P (d + 1) 0 6).testBit m = true ↔ ∃ i, i < P 9 1 ∧ P 13 i = d ∧ tdN P (P 0 1) 6 i = 0 ∧ P 10 i = m := by
  have h := out_bit (P := P) (runN P (asTold P Z0) d) d m (P 9 1)
  have e : ∀ i, P 13 i = d → tdN P (P 0 1) 6 i = dayN P (runN P (asTold P Z0) d) d (P 9 1) 6 i := by
    intro i hi1
    have := run6 (P := P) (asTold P Z0) i (P 0 1 - (d + 1)) (d + 1) (by omega)
    rw [show d + 1 + (P 0 1 - (d + 1)) = P 0 1 by omega] at this
    exact this
  refine ⟨fun q => ?_, fun ⟨i, h1, h2, h3, h4⟩ => ?_⟩
  · obtain ⟨i, h1, h2, h3, h4⟩ := h.mp q
    exact ⟨i, h1, h2, by rw [e i h2]; exact h3, h4⟩
  · exact h.mpr ⟨i, h1, h2, by rw [← e i h2]; exact h3, h4⟩
/-- OR of those that are out -/
def orN (P T : PT) (d : Nat) : Nat → Nat
  | 0 => 0
  | i + 1 => if T 6 i = 0 ∧ P 13 i = d then orN P T d i ||| 2 ^ P 10 i else orN P T d i
theorem orN_bit (P T : PT) (d m : Nat) : ∀ n, (orN P T d n).testBit m = true ↔ ∃ i, i < n ∧ P 13 i = d ∧ T 6 i = 0 ∧ P 10 i = m := by
  intro n
  induction n with
  | zero =>
    show (0 : Nat).testBit m = true ↔ _
    rw [Nat.zero_testBit]
    exact ⟨fun z => (by cases z), fun ⟨i, hi1, _⟩ => absurd hi1 (Nat.not_lt_zero i)⟩
  | succ n ih =>
    show (if T 6 n = 0 ∧ P 13 n = d then orN P T d n ||| 2 ^ P 10 n else orN P T d n).testBit m = true ↔ _
    by_cases z : T 6 n = 0 ∧ P 13 n = d
    · rw [if_pos z, fb_bit_set, Bool.or_eq_true, ih]
      refine ⟨fun q => ?_, fun ⟨i, h1, h2, h3, h4⟩ => ?_⟩
      · rcases q with ⟨i, h1, h2, h3, h4⟩ | q
        · exact ⟨i, by omega, h2, h3, h4⟩
        · exact ⟨n, by omega, z.2, z.1, (of_decide_eq_true q).symm⟩
      · by_cases ik : i = n
        · subst ik; exact Or.inr (decide_eq_true h4.symm)
        · exact Or.inl ⟨i, by omega, h2, h3, h4⟩
    · rw [if_neg z, ih]
      refine ⟨fun ⟨i, h1, h2, h3, h4⟩ => ⟨i, by omega, h2, h3, h4⟩, fun ⟨i, h1, h2, h3, h4⟩ => ?_⟩
      by_cases ik : i = n
      · subst ik; exact absurd ⟨h3, h2⟩ z
      · exact ⟨i, by omega, h2, h3, h4⟩
theorem or_td (d : Nat) (hd : d < P 0 1) : orN P (tdN P (P 0 1)) d (P 9 1) = tdN P (d + 1) 0 6 := by
  apply Nat.eq_of_testBit_eq
  intro m
  have h1 := orN_bit P (tdN P (P 0 1)) d m (P 9 1)
  have h2 := out_td d m hd
  rw [← h2] at h1
  cases ha : (orN P (tdN P (P 0 1)) d (P 9 1)).testBit m
  · cases hb : (tdN P (d + 1) 0 6).testBit m
    · rfl
    · rw [h1.mpr hb] at ha; cases ha
  · exact (h1.mp ha).symm
theorem orN_lt (hW : WFP P) (T : PT) (d : Nat) : ∀ n, n ≤ P 9 1 → orN P T d n < 2 ^ 5 := by
  have hb := hW.all
  intro n
  induction n with
  | zero => intro _; exact Nat.two_pow_pos 5
  | succ n ih =>
    intro hn1
    have h1 := ih (by omega)
    have h2 := hW.cy (k := n) (by omega)
    show (if T 6 n = 0 ∧ P 13 n = d then orN P T d n ||| 2 ^ P 10 n else orN P T d n) < _
    split
    · exact or_lt h1 (pow_lt (by omega))
    · exact h1
end
