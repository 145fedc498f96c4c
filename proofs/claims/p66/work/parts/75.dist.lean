set_option maxRecDepth 100000
set_option maxHeartbeats 1000000
/-! how far: from 1, 0: never -/
def DistIs (A : Nat → Nat → Prop) (w : Nat → Nat → Nat) (n a b r : Nat) : Prop := (r = 0 ∧ ∀ v k, ¬ isWk A n a b v k) ∨ (1 ≤ r ∧ (∃ v k, isWk A n a b v k ∧ wkC w v k = r - 1) ∧ ∀ v k, isWk A n a b v k → r - 1 ≤ wkC w v k)
theorem dist_one {A : Nat → Nat → Prop} {w : Nat → Nat → Nat} {n a b r s : Nat} (h : DistIs A w n a b r) (k : DistIs A w n a b s) : r = s := by
  rcases h with ⟨h1, h2⟩ | ⟨h1, ⟨v, i, h2, h3⟩, h4⟩
  · rcases k with ⟨k1, k2⟩ | ⟨k1, ⟨u, j, k2, k3⟩, k4⟩
    · omega
    · exact absurd k2 (h2 u j)
  · rcases k with ⟨k1, k2⟩ | ⟨k1, ⟨u, j, k2, k3⟩, k4⟩
    · exact absurd h2 (k2 v i)
    · have := h4 u j k2
      have := k4 v i h2
      omega
theorem wk_len (v : Nat → Nat) (k : Nat) : wkC (fun _ _ => 1) v k = k := by
  unfold wkC
  rw [fb_sm_const]
  omega
theorem wk_zero {A : Nat → Nat → Prop} {n a : Nat} (ha : a < n) : isWk A n a a (fun _ => a) 0 := ⟨rfl, rfl, fun m hm => absurd hm (Nat.not_lt_zero m), fun m _ => ha⟩
theorem Adj.lt {P : PT} (hW : WFP P) {a b : Nat} (h : Adj P a b) : a < P 0 4 ∧ b < P 0 4 := by
  obtain ⟨k, h1, h2⟩ := h
  have := hW.2.2.2.2.2.2.2.2.2.2.2.2.2.2.2.2.1 k h1
  omega
theorem reN_bit {P : PT} (hW : WFP P) {a : Nat} (ha : a < P 0 4) : ∀ k b, (reN P a k).testBit b = true ↔ ∃ v j, j ≤ k ∧ isWk (Adj P) (P 0 4) a b v j := by
  intro k
  induction k with
  | zero =>
    intro b
    show (2 ^ a).testBit b = true ↔ _
    rw [Nat.testBit_two_pow]
    refine ⟨fun h => ?_, fun ⟨v, j, h1, h2⟩ => ?_⟩
    · have h := of_decide_eq_true h
      subst h
      exact ⟨_, 0, Nat.le_refl _, wk_zero ha⟩
    · have h0 : j = 0 := by omega
      subst h0
      exact decide_eq_true (h2.1.symm.trans h2.2.1)
  | succ k ih =>
    intro b
    show (reN P a k ||| nxN P (reN P a k) (P 0 4)).testBit b = true ↔ _
    rw [Nat.testBit_or, Bool.or_eq_true, ih, nxN_bit]
    refine ⟨fun h => ?_, fun ⟨v, j, h1, h2⟩ => ?_⟩
    · rcases h with ⟨v, j, h1, h2⟩ | ⟨x, h1, h2, h3⟩
      · exact ⟨v, j, by omega, h2⟩
      · obtain ⟨v, j, h4, h5⟩ := (ih x).mp h2
        obtain ⟨u, h6, -⟩ := wk_snoc h5 h3 (h3.lt hW).2 (fun _ _ => 1)
        exact ⟨u, j + 1, by omega, h6⟩
    · by_cases z : j ≤ k
      · exact Or.inl ⟨v, j, z, h2⟩
      · have hj : j = k + 1 := by omega
        subst hj
        obtain ⟨h3, h4, h5, h6⟩ := wk_last h2
        exact Or.inr ⟨v k, h6, (ih _).mpr ⟨v, k, Nat.le_refl _, h3⟩, h4⟩
section
variable {h : St} {p : Nat} {P : PT}
theorem x_farR (hG : PG h p P) {a b : Nat} (ha : a < P 0 4) (hb1 : b < P 0 4) (q : Nat) : ∃ r, DistIs (Adj P) (fun _ _ => 1) (P 0 4) a b r ∧ r ≤ 8 ∧ DX4_fewestWays (sI (sI (sR (sR fr0 0 q) 1 p) 2 (nI a)) 3 (nI b)) h = some (nI r + -nI 1, h) := by
  have hW := hG.w
  have hb := hW.all
  rcases x_fewest hG ha hb1 q with ⟨j, h1, h2, h3, e⟩ | ⟨h1, e⟩
  · refine ⟨j + 1, Or.inr ⟨by omega, ?_, fun v k hk => ?_⟩, by omega, ?_⟩
    · obtain ⟨v, i, h4, h5⟩ := (reN_bit hW ha j b).mp h2
      refine ⟨v, i, h5, ?_⟩
      rw [wk_len]
      by_cases z : i < j
      · exact absurd ((reN_bit hW ha i b).mpr ⟨v, i, Nat.le_refl _, h5⟩) (h3 i z)
      · omega
    · rw [wk_len]
      by_cases z : k < j
      · exact absurd ((reN_bit hW ha k b).mpr ⟨v, k, Nat.le_refl _, hk⟩) (h3 k z)
      · omega
    · rw [e, show nI (j + 1) + -nI 1 = nI j from pk_m1 j]
  · refine ⟨0, Or.inl ⟨rfl, fun v k hk => ?_⟩, by decide, ?_⟩
    · obtain ⟨v', k', h4, -, h5, -⟩ := wk_cut (fun _ _ => 1) k v hk
      exact h1 k' (by omega) ((reN_bit hW ha k' b).mpr ⟨v', k', Nat.le_refl _, h5⟩)
    · rw [e, show nI 0 + -nI 1 = (-nI 1 : Int32) by decide]
end
