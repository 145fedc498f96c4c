set_option maxRecDepth 100000
set_option maxHeartbeats 1000000
section
variable {P : PT} {D : Nat → Nat}
theorem rdN_better (D : Nat → Nat) (i : Nat) : ∀ n, Better (rdN P D i) (rdN P D (i + n)) := by
  intro n
  induction n with
  | zero => exact Better.rf _
  | succ n ih => exact (ih.tr (imp_better _ _)).tr (imp_better _ _)
theorem rdN_sound (hW : WFP P) {a : Nat} (hS : Sound (Adj P) (climb P) (P 0 4) a D) : ∀ i, i ≤ P 0 5 → Sound (Adj P) (climb P) (P 0 4) a (rdN P D i) := by
  have hw := hW.2.2.2.2.2.2.2.2.2.2.2.2.2.2.2.2.1
  intro i
  induction i with
  | zero => intro _; exact hS
  | succ i ih =>
    intro hi1
    have h1 := hw i (by omega)
    exact imp_sound (imp_sound (ih (by omega)) ⟨i, by omega, Or.inl ⟨rfl, rfl⟩⟩ h1.2.1) ⟨i, by omega, Or.inr ⟨rfl, rfl⟩⟩ h1.1
theorem lcN_sound (hW : WFP P) {a : Nat} (hS : Sound (Adj P) (climb P) (P 0 4) a D) : ∀ t, Sound (Adj P) (climb P) (P 0 4) a (lcN P D t) := by
  intro t
  induction t with
  | zero => exact hS
  | succ t ih => exact rdN_sound hW ih _ (Nat.le_refl _)
theorem lcN_done {a : Nat} (h0 : DoneTo (Adj P) (climb P) (P 0 4) a 0 D) : ∀ t, DoneTo (Adj P) (climb P) (P 0 4) a t (lcN P D t) := by
  intro t
  induction t with
  | zero => exact h0
  | succ t ih =>
    refine done_next ih (by have := rdN_better (P := P) (lcN P D t) 0 (P 0 5); rw [Nat.zero_add] at this; exact this) (fun x y hA _ _ => ?_)
    obtain ⟨k, hk1, hh⟩ := hA
    have b0 : Better (lcN P D t) (rdN P (lcN P D t) k) := by have := rdN_better (P := P) (lcN P D t) 0 k; rw [Nat.zero_add] at this; exact this
    have b1 : Better (rdN P (lcN P D t) (k + 1)) (rdN P (lcN P D t) (P 0 5)) := by have := rdN_better (P := P) (lcN P D t) (k + 1) (P 0 5 - (k + 1)); rw [show k + 1 + (P 0 5 - (k + 1)) = P 0 5 by omega] at this; exact this
    rcases hh with ⟨rfl, rfl⟩ | ⟨rfl, rfl⟩
    · exact ⟨_, b0, (imp_better (w := climb P) _ _).tr b1⟩
    · exact ⟨imp (climb P) (rdN P (lcN P D t) k) (P 2 k) (P 3 k), b0.tr (imp_better _ _), b1⟩
theorem c_dist (hW : WFP P) {a : Nat} (ha : a < P 0 4) (b : Nat) : DistIs (Adj P) (climb P) (P 0 4) a b (lcN P (fun k => if k = a then 1 else 0) 8 b) := by
  have hb := hW.all
  refine done_dist (lcN_sound hW (fun b hb1 => ?_) 8) (t := 8) (by omega) (lcN_done (fun b v k hk1 hw => ?_) 8) b
  · have z : b = a := by
      by_cases z : b = a
      · exact z
      · exact absurd (if_neg z) hb1
    subst z
    refine ⟨_, 0, wk_zero ha, ?_⟩
    show _ = if b = b then _ else _
    rw [if_pos rfl]
    rfl
  · have h0 : k = 0 := by omega
    subst h0
    have z : b = a := hw.2.1.symm.trans hw.1
    subst z
    show (if b = b then _ else _) ≠ 0 ∧ (if b = b then _ else _) ≤ _
    rw [if_pos rfl]
    exact ⟨by decide, by omega⟩
end
