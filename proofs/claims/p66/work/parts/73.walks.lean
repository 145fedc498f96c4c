set_option maxRecDepth 100000
set_option maxHeartbeats 1000000
/-! ways from HOUSE to HOUSE: a way that is cut where it comes back -/
def wkC (w : Nat → Nat → Nat) (v : Nat → Nat) (k : Nat) : Nat := fb_sm (fun m => w (v m) (v (m + 1))) k
def isWk (A : Nat → Nat → Prop) (n a b : Nat) (v : Nat → Nat) (k : Nat) : Prop := v 0 = a ∧ v k = b ∧ (∀ m, m < k → A (v m) (v (m + 1))) ∧ ∀ m, m ≤ k → v m < n
theorem wk_cut {A : Nat → Nat → Prop} {n a b : Nat} (w : Nat → Nat → Nat) : ∀ (k : Nat) (v : Nat → Nat), isWk A n a b v k → ∃ v' k', k' < n ∧ k' ≤ k ∧ isWk A n a b v' k' ∧ wkC w v' k' ≤ wkC w v k := by
  intro k
  induction k using Nat.strongRecOn with
  | _ k ih =>
    intro v hv
    obtain ⟨h0, hk1, hA, hn1⟩ := hv
    by_cases hlt : k < n
    · exact ⟨v, k, hlt, Nat.le_refl _, ⟨h0, hk1, hA, hn1⟩, Nat.le_refl _⟩
    · obtain ⟨i, j, hij, hj, hvv⟩ := fb_twice (m := n) (n := k + 1) (f := v) (fun i hi1 => hn1 i (by omega)) (by omega)
      obtain ⟨u, hu⟩ : ∃ u : Nat → Nat, ∀ m, u m = if m ≤ i then v m else v (m + (j - i)) := ⟨_, fun _ => rfl⟩
      have hul : ∀ m, m ≤ i → u m = v m := fun m hm => by rw [hu, if_pos hm]
      have hur : ∀ m, i ≤ m → u m = v (m + (j - i)) := fun m hm => by
        rw [hu]
        by_cases z : m ≤ i
        · have : m = i := by omega
          rw [if_pos z, this, hvv, show i + (j - i) = j by omega]
        · rw [if_neg z]
      have hwu : isWk A n a b u (k - (j - i)) := by
        refine ⟨by rw [hul 0 (by omega)]; exact h0, by rw [hur _ (by omega), show k - (j - i) + (j - i) = k by omega]; exact hk1, fun m hm => ?_, fun m hm => ?_⟩
        · by_cases z : m < i
          · rw [hul m (by omega), hul (m + 1) (by omega)]
            exact hA m (by omega)
          · rw [hur m (by omega), hur (m + 1) (by omega), show m + 1 + (j - i) = m + (j - i) + 1 by omega]
            exact hA _ (by omega)
        · by_cases z : m ≤ i
          · rw [hul m z]; exact hn1 m (by omega)
          · rw [hur m (by omega)]; exact hn1 _ (by omega)
      have hc : wkC w u (k - (j - i)) ≤ wkC w v k := by
        unfold wkC
        have e1 : k - (j - i) = i + (k - j) := by omega
        have e2 : k = i + ((j - i) + (k - j)) := by omega
        rw [e1, fb_sm_split]
        rw [show fb_sm (fun m => w (v m) (v (m + 1))) k = fb_sm (fun m => w (v m) (v (m + 1))) (i + ((j - i) + (k - j))) by rw [← e2], fb_sm_split, fb_sm_split (fun k => w (v (i + k)) (v (i + k + 1)))]
        have s1 : fb_sm (fun m => w (u m) (u (m + 1))) i = fb_sm (fun m => w (v m) (v (m + 1))) i := fb_sm_cong (fun m hm => by
          show w (u m) (u (m + 1)) = _
          rw [hul m (by omega), hul (m + 1) (by omega)])
        have s2 : fb_sm (fun m => w (u (i + m)) (u (i + m + 1))) (k - j) = fb_sm (fun m => w (v (i + (j - i + m))) (v (i + (j - i + m) + 1))) (k - j) := fb_sm_cong (fun m hm => by
          show w (u (i + m)) (u (i + m + 1)) = _
          rw [hur (i + m) (by omega), hur (i + m + 1) (by omega), show i + m + (j - i) = i + (j - i + m) by omega, show i + m + 1 + (j - i) = i + (j - i + m) + 1 by omega])
        rw [s1, s2]
        omega
      obtain ⟨v', k', h1, h2, h3, h4⟩ := ih (k - (j - i)) (by omega) u hwu
      exact ⟨v', k', h1, by omega, h3, by omega⟩
/-- one step more -/
theorem wk_snoc {A : Nat → Nat → Prop} {n a b : Nat} {v : Nat → Nat} {k : Nat} (h : isWk A n a b v k) {y : Nat} (hA : A b y) (hy : y < n) (w : Nat → Nat → Nat) : ∃ v', isWk A n a y v' (k + 1) ∧ wkC w v' (k + 1) = wkC w v k + w b y := by
  obtain ⟨h0, h1, h2, h3⟩ := h
  obtain ⟨u, hu⟩ : ∃ u : Nat → Nat, ∀ m, u m = if m ≤ k then v m else y := ⟨_, fun _ => rfl⟩
  have hul : ∀ m, m ≤ k → u m = v m := fun m hm => by rw [hu, if_pos hm]
  have huk : u (k + 1) = y := by rw [hu, if_neg (by omega)]
  refine ⟨u, ⟨by rw [hul 0 (by omega)]; exact h0, huk, fun m hm => ?_, fun m hm => ?_⟩, ?_⟩
  · by_cases z : m < k
    · rw [hul m (by omega), hul (m + 1) (by omega)]; exact h2 m z
    · rw [show m = k by omega, huk, hul k (Nat.le_refl _), h1]; exact hA
  · by_cases z : m ≤ k
    · rw [hul m z]; exact h3 m z
    · rw [show m = k + 1 by omega, huk]; exact hy
  · unfold wkC
    rw [fb_sm_succ]
    show _ + w (u k) (u (k + 1)) = _
    rw [huk, hul k (Nat.le_refl _), h1, fb_sm_cong (fun m hm => by
      show w (u m) (u (m + 1)) = w (v m) (v (m + 1))
      rw [hul m (by omega), hul (m + 1) (by omega)])]
theorem wk_last {A : Nat → Nat → Prop} {n a y : Nat} {v : Nat → Nat} {k : Nat} (h : isWk A n a y v (k + 1)) : isWk A n a (v k) v k ∧ A (v k) y ∧ y < n ∧ v k < n := by
  obtain ⟨h0, h1, h2, h3⟩ := h
  refine ⟨⟨h0, rfl, fun m hm => h2 m (by omega), fun m hm => h3 m (by omega)⟩, ?_, ?_, h3 k (by omega)⟩
  · rw [← h1]; exact h2 k (by omega)
  · rw [← h1]; exact h3 _ (Nat.le_refl _)
