set_option maxRecDepth 100000
set_option maxHeartbeats 1000000
/-! the text of a PORT: its tokens, plainly -/
def kb (b : Int32) : Nat := if nI 97 ≤ b ∧ b ≤ nI 122 then 1 else if nI 48 ≤ b ∧ b ≤ nI 57 then 2 else if b = nI 59 then 3 else 4
def blk (b : Int32) : Bool := decide (b = nI 32 ∨ b = nI 10)
def dgv (b : Int32) : Nat := (b.toInt - 48).toNat
def ltv (b : Int32) : Nat := (b.toInt - 96).toNat
/-- of any tape -/
def skp (B : Nat → Int32) (n p : Nat) : Nat := p + fa_first (fun i => !(blk (B (p + i)))) (n - p)
def kd (B : Nat → Int32) (n q : Nat) : Nat := if q < n then kb (B q) else 0
def enq (B : Nat → Int32) (n q : Nat) : Nat := if q < n then (if kb (B q) ≤ 2 then q + 1 + fa_first (fun i => decide (kb (B (q + 1 + i)) ≠ kb (B q))) (n - (q + 1)) else q + 1) else q
def nxt (B : Nat → Int32) (n q : Nat) : Nat := skp B n (enq B n q)
/-- values, as the class and as the model keep them -/
def nvF (B : Nat → Int32) (q : Nat) : Nat → Nat
  | 0 => 0
  | k + 1 => min 1000 (nvF B q k * 10 + dgv (B (q + k)))
def mvF (B : Nat → Int32) (q : Nat) : Nat → Nat
  | 0 => 0
  | k + 1 => if 100000 < mvF B q k then 1000000 else 10 * mvF B q k + dgv (B (q + k))
def nv (B : Nat → Int32) (n q : Nat) : Nat := if kd B n q = 2 then nvF B q (enq B n q - q) else 0
def mv (B : Nat → Int32) (n q : Nat) : Nat := if kd B n q = 2 then mvF B q (enq B n q - q) else 0
def wF (t : Nat → Int32) : Nat → Nat
  | 0 => 0
  | k + 1 => 27 * wF t k + ltv (t k)
def wL12 (t : Nat → Int32) (k : Nat) : Int64 := if k ≤ 12 then lN (wF t k) else -lN 1
def wd (B : Nat → Int32) (n q : Nat) : Int64 := if kd B n q = 1 then wL12 (fun i => B (q + i)) (enq B n q - q) else lN 0
theorem kb_1 {b : Int32} : kb b = 1 ↔ nI 97 ≤ b ∧ b ≤ nI 122 := by
  unfold kb
  split
  · rename_i z; exact ⟨fun _ => z, fun _ => rfl⟩
  · rename_i z
    refine ⟨fun y => ?_, fun y => absurd y z⟩
    split at y
    · omega
    · split at y <;> omega
theorem kb_2 {b : Int32} : kb b = 2 ↔ nI 48 ≤ b ∧ b ≤ nI 57 := by
  unfold kb
  split
  · rename_i z
    refine ⟨fun y => by omega, fun y => ?_⟩
    exact absurd (Int32.le_trans z.1 y.2) (by decide)
  · split
    · rename_i z; exact ⟨fun _ => z, fun _ => rfl⟩
    · rename_i z
      refine ⟨fun y => ?_, fun y => absurd y z⟩
      split at y <;> omega
theorem kb_pos (b : Int32) : 1 ≤ kb b ∧ kb b ≤ 4 := by
  unfold kb
  split
  · omega
  · split
    · omega
    · split <;> omega
theorem kb_bl {b : Int32} (h : 1 ≤ kb b ∧ kb b ≤ 3) : blk b = false := by
  unfold blk
  rw [decide_eq_false_iff_not]
  rintro (z | z)
  · rw [z] at h; revert h; decide
  · rw [z] at h; revert h; decide
theorem dgv_le {b : Int32} (h : kb b = 2) : b = nI (48 + dgv b) ∧ dgv b ≤ 9 := by
  obtain ⟨h1, h2⟩ := kb_2.1 h
  rw [fa_le] at h1 h2
  have e1 : (nI 48).toInt = 48 := by decide
  have e2 : (nI 57).toInt = 57 := by decide
  rw [e1] at h1
  rw [e2] at h2
  unfold dgv
  refine ⟨?_, by omega⟩
  rw [fa_eq, nI_toInt (by omega)]
  omega
theorem ltv_le {b : Int32} (h : kb b = 1) : b = nI (96 + ltv b) ∧ 1 ≤ ltv b ∧ ltv b ≤ 26 := by
  obtain ⟨h1, h2⟩ := kb_1.1 h
  rw [fa_le] at h1 h2
  have e1 : (nI 97).toInt = 97 := by decide
  have e2 : (nI 122).toInt = 122 := by decide
  rw [e1] at h1
  rw [e2] at h2
  unfold ltv
  refine ⟨?_, by omega, by omega⟩
  rw [fa_eq, nI_toInt (by omega)]
  omega
section
variable {B : Nat → Int32} {n p q : Nat}
theorem skp_le (h : p ≤ n) : p ≤ skp B n p ∧ skp B n p ≤ n := by
  have := fa_first_le (fun i => !(blk (B (p + i)))) (n - p)
  unfold skp
  omega
theorem skp_bl {i : Nat} (h1 : p + i < skp B n p) : p + i < n ∧ blk (B (p + i)) = true := by
  have hl := fa_first_le (fun i => !(blk (B (p + i)))) (n - p)
  unfold skp at h1
  have := fa_first_no (fun i => !(blk (B (p + i)))) (n - p) i (by omega)
  refine ⟨by omega, ?_⟩
  simpa using this
theorem skp_st (h : skp B n p < n) : blk (B (skp B n p)) = false := by
  unfold skp at h ⊢
  have := fa_first_yes (fun i => !(blk (B (p + i)))) (n - p) (by omega)
  simpa using this
theorem kd_0 (h : kd B n q = 0) : n ≤ q := by
  unfold kd at h
  by_cases z : q < n
  · rw [if_pos z] at h
    have := kb_pos (B q)
    omega
  · omega
theorem kd_lt (h : q < n) : kd B n q = kb (B q) := by
  unfold kd
  rw [if_pos h]
theorem kd_ge (h : n ≤ q) : kd B n q = 0 := by
  unfold kd
  rw [if_neg (by omega)]
theorem kd_le : kd B n q ≤ 4 := by
  unfold kd
  split
  · exact (kb_pos _).2
  · omega
theorem enq_ge (h : n ≤ q) : enq B n q = q := by
  unfold enq
  rw [if_neg (by omega)]
theorem enq_lt (h : q < n) : q + 1 ≤ enq B n q ∧ enq B n q ≤ n := by
  have := fa_first_le (fun i => decide (kb (B (q + 1 + i)) ≠ kb (B q))) (n - (q + 1))
  unfold enq
  rw [if_pos h]
  split <;> omega
theorem enq_le (h : q ≤ n) : q ≤ enq B n q ∧ enq B n q ≤ n := by
  by_cases z : q < n
  · have := enq_lt (B := B) z; omega
  · rw [enq_ge (by omega)]; omega
theorem enq_one (h : q < n) (k : 3 ≤ kb (B q)) : enq B n q = q + 1 := by
  unfold enq
  rw [if_pos h, if_neg (by omega)]
theorem enq_in (h : q < n) {i : Nat} (k : kb (B q) ≤ 2) (hi1 : q + i < enq B n q) : q + i < n ∧ kb (B (q + i)) = kb (B q) := by
  have hl := fa_first_le (fun i => decide (kb (B (q + 1 + i)) ≠ kb (B q))) (n - (q + 1))
  unfold enq at hi1
  rw [if_pos h, if_pos k] at hi1
  cases i with
  | zero => exact ⟨by omega, rfl⟩
  | succ i =>
    have := fa_first_no (fun i => decide (kb (B (q + 1 + i)) ≠ kb (B q))) (n - (q + 1)) i (by omega)
    refine ⟨by omega, ?_⟩
    rw [show q + (i + 1) = q + 1 + i by omega]
    simpa using this
theorem enq_st (h : q < n) (k : kb (B q) ≤ 2) (hi1 : enq B n q < n) : kb (B (enq B n q)) ≠ kb (B q) := by
  unfold enq at hi1 ⊢
  rw [if_pos h, if_pos k] at hi1 ⊢
  have := fa_first_yes (fun i => decide (kb (B (q + 1 + i)) ≠ kb (B q))) (n - (q + 1)) (by omega)
  simpa using this
theorem nxt_le (h : q ≤ n) : q ≤ nxt B n q ∧ nxt B n q ≤ n := by
  have h1 := enq_le (B := B) h
  have h2 := skp_le (B := B) h1.2
  unfold nxt
  omega
theorem nxt_lt (h : q < n) : q < nxt B n q ∧ nxt B n q ≤ n := by
  have h1 := enq_lt (B := B) h
  have h2 := skp_le (B := B) h1.2
  unfold nxt
  omega
theorem nvF_le (B : Nat → Int32) (q : Nat) : ∀ k, nvF B q k ≤ 1000
  | 0 => by unfold nvF; omega
  | k + 1 => by unfold nvF; omega
theorem nv_le (B : Nat → Int32) (n q : Nat) : nv B n q ≤ 1000 := by
  unfold nv
  split
  · exact nvF_le B q _
  · omega
theorem mvF_le (B : Nat → Int32) (q : Nat) : ∀ k, (∀ i, i < k → dgv (B (q + i)) ≤ 9) → mvF B q k ≤ 1000009
  | 0, _ => by unfold mvF; omega
  | k + 1, h => by
    have := h k (by omega)
    unfold mvF
    split <;> omega
theorem nvF_mv (B : Nat → Int32) (q : Nat) : ∀ k, nvF B q k = min 1000 (mvF B q k)
  | 0 => by unfold nvF mvF; omega
  | k + 1 => by
    have ih := nvF_mv B q k
    unfold nvF mvF
    split <;> omega
theorem nv_mv (B : Nat → Int32) (n q : Nat) : nv B n q = min 1000 (mv B n q) := by
  unfold nv mv
  split
  · exact nvF_mv B q _
  · omega
theorem tok_dg (h : kd B n q = 2) {i : Nat} (hi1 : i < enq B n q - q) : dgv (B (q + i)) ≤ 9 ∧ kb (B (q + i)) = 2 := by
  have hq : q < n := by
    by_cases z : q < n
    · exact z
    · rw [kd_ge (by omega)] at h; omega
  rw [kd_lt hq] at h
  have := (enq_in hq (by omega) (show q + i < enq B n q by omega)).2
  rw [h] at this
  exact ⟨(dgv_le this).2, this⟩
theorem mv_le : mv B n q ≤ 1000009 := by
  unfold mv
  split
  · rename_i h
    exact mvF_le B q _ (fun i hi1 => (tok_dg h hi1).1)
  · omega
theorem wF_lt {t : Nat → Int32} : ∀ {k : Nat}, (∀ i, i < k → ltv (t i) ≤ 26) → wF t k + 1 ≤ 27 ^ k
  | 0, _ => by unfold wF; omega
  | k + 1, h => by
    have ih := wF_lt (t := t) (k := k) (fun i hi1 => h i (by omega))
    have := h k (by omega)
    unfold wF
    rw [Nat.pow_succ]
    omega
theorem wF_inj {t u : Nat → Int32} : ∀ {k l : Nat}, (∀ i, i < k → 1 ≤ ltv (t i) ∧ ltv (t i) ≤ 26) → (∀ i, i < l → 1 ≤ ltv (u i) ∧ ltv (u i) ≤ 26) → wF t k = wF u l → k = l ∧ ∀ i, i < k → ltv (t i) = ltv (u i)
  | 0, 0, _, _, _ => ⟨rfl, fun i hi1 => absurd hi1 (Nat.not_lt_zero i)⟩
  | 0, l + 1, _, h2, e => by
    have := h2 l (by omega)
    unfold wF at e
    omega
  | k + 1, 0, h1, _, e => by
    have := h1 k (by omega)
    unfold wF at e
    omega
  | k + 1, l + 1, h1, h2, e => by
    have a := h1 k (by omega)
    have b := h2 l (by omega)
    have e2 : 27 * wF t k + ltv (t k) = 27 * wF u l + ltv (u l) := e
    obtain ⟨r1, r2⟩ := wF_inj (t := t) (u := u) (k := k) (l := l) (fun i hi1 => h1 i (by omega)) (fun i hi1 => h2 i (by omega)) (by omega)
    refine ⟨by omega, fun i hi1 => ?_⟩
    by_cases z : i = k
    · subst z
      subst r1
      omega
    · exact r2 i (by omega)
end
