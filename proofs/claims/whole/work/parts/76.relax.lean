set_option maxRecDepth 100000
set_option maxHeartbeats 1000000
/-! distances by bettering: from 1, 0: none yet -/
def imp (w : Nat → Nat → Nat) (D : Nat → Nat) (x y : Nat) : Nat → Nat := if D x ≠ 0 ∧ (D y = 0 ∨ D x + w x y < D y) then fun k => if k = y then D x + w x y else D k else D
def Sound (A : Nat → Nat → Prop) (w : Nat → Nat → Nat) (n a : Nat) (D : Nat → Nat) : Prop := ∀ b, D b ≠ 0 → ∃ v k, isWk A n a b v k ∧ wkC w v k + 1 = D b
def Better (D E : Nat → Nat) : Prop := ∀ k, D k ≠ 0 → E k ≠ 0 ∧ E k ≤ D k
def DoneTo (A : Nat → Nat → Prop) (w : Nat → Nat → Nat) (n a t : Nat) (D : Nat → Nat) : Prop := ∀ b v k, k ≤ t → isWk A n a b v k → D b ≠ 0 ∧ D b ≤ wkC w v k + 1
theorem Better.rf (D : Nat → Nat) : Better D D := fun _ h => ⟨h, Nat.le_refl _⟩
theorem Better.tr {D E F : Nat → Nat} (h : Better D E) (k : Better E F) : Better D F := fun i z => ⟨(k i (h i z).1).1, Nat.le_trans (k i (h i z).1).2 (h i z).2⟩
section
variable {A : Nat → Nat → Prop} {w : Nat → Nat → Nat} {n a : Nat} {D E : Nat → Nat}
theorem imp_better (x y : Nat) : Better D (imp w D x y) := by
  intro k hk1
  unfold imp
  split
  · rename_i hc
    by_cases z : k = y
    · subst z
      show (if k = k then _ else _) ≠ 0 ∧ (if k = k then _ else _) ≤ _
      rw [if_pos rfl]
      rcases hc.2 with h | h
      · exact absurd h hk1
      · exact ⟨by omega, by omega⟩
    · show (if k = y then _ else _) ≠ 0 ∧ (if k = y then _ else _) ≤ _
      rw [if_neg z]
      exact ⟨hk1, Nat.le_refl _⟩
  · exact ⟨hk1, Nat.le_refl _⟩
theorem imp_at {x y : Nat} (hx : D x ≠ 0) : imp w D x y y ≠ 0 ∧ imp w D x y y ≤ D x + w x y := by
  unfold imp
  split
  · show (if y = y then _ else _) ≠ 0 ∧ (if y = y then _ else _) ≤ _
    rw [if_pos rfl]
    exact ⟨by omega, Nat.le_refl _⟩
  · rename_i hc
    by_cases z : D y = 0
    · exact absurd ⟨hx, Or.inl z⟩ hc
    · exact ⟨z, Nat.le_of_not_lt fun q => hc ⟨hx, Or.inr q⟩⟩
theorem imp_sound {x y : Nat} (hD : Sound A w n a D) (hA : A x y) (hy : y < n) : Sound A w n a (imp w D x y) := by
  intro b hb1
  unfold imp at hb1 ⊢
  split at hb1
  · rename_i hc
    rw [if_pos hc]
    by_cases z : b = y
    · subst z
      obtain ⟨v, k, h1, h2⟩ := hD x hc.1
      obtain ⟨u, h3, h4⟩ := wk_snoc h1 hA hy w
      refine ⟨u, k + 1, h3, ?_⟩
      show _ = if b = b then _ else _
      rw [if_pos rfl]
      omega
    · have e : (fun k => if k = y then D x + w x y else D k) b = D b := if_neg z
      rw [e] at hb1
      show ∃ v k, isWk A n a b v k ∧ wkC w v k + 1 = if b = y then _ else D b
      rw [if_neg z]
      exact hD b hb1
  · rename_i hc
    rw [if_neg hc]
    exact hD b hb1
theorem done_next {t : Nat} (h0 : DoneTo A w n a t D) (hB : Better D E) (hr : ∀ x y, A x y → x < n → y < n → ∃ F, Better D F ∧ Better (imp w F x y) E) : DoneTo A w n a (t + 1) E := by
  intro b v k hk1 hw
  by_cases z : k ≤ t
  · obtain ⟨h1, h2⟩ := h0 b v k z hw
    obtain ⟨h3, h4⟩ := hB b h1
    exact ⟨h3, by omega⟩
  · have hk2 : k = t + 1 := by omega
    subst hk2
    obtain ⟨h1, h2, h3, h4⟩ := wk_last hw
    obtain ⟨h5, h6⟩ := h0 (v t) v t (Nat.le_refl _) h1
    obtain ⟨F, h7, h8⟩ := hr _ _ h2 h4 h3
    obtain ⟨h9, h10⟩ := h7 _ h5
    obtain ⟨h11, h12⟩ := imp_at (w := w) (y := b) h9
    obtain ⟨h13, h14⟩ := h8 _ h11
    refine ⟨h13, ?_⟩
    have e : wkC w v (t + 1) = wkC w v t + w (v t) b := by
      unfold wkC
      rw [fb_sm_succ]
      show _ + w (v t) (v (t + 1)) = _
      rw [hw.2.1]
    omega
theorem done_dist (hS : Sound A w n a D) {t : Nat} (ht : n ≤ t + 1) (hD : DoneTo A w n a t D) (b : Nat) : DistIs A w n a b (D b) := by
  by_cases z : D b = 0
  · refine Or.inl ⟨z, fun v k hk1 => ?_⟩
    obtain ⟨v', k', h1, -, h2, -⟩ := wk_cut w k v hk1
    exact (hD b v' k' (by omega) h2).1 z
  · refine Or.inr ⟨by omega, ?_, fun v k hk1 => ?_⟩
    · obtain ⟨v, k, h1, h2⟩ := hS b z
      exact ⟨v, k, h1, by omega⟩
    · obtain ⟨v', k', h1, -, h2, h3⟩ := wk_cut w k v hk1
      have := (hD b v' k' (by omega) h2).2
      omega
end
