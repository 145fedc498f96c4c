set_option maxRecDepth 100000
set_option maxHeartbeats 1000000
/-! the text of a PORT: what is read is well -/
section
variable {B : Nat → Int32} {n p p' : Nat} {P P' : PT}
theorem bnd_inr {α β γ : Type} {x : α ⊕ β} {k : β → α ⊕ γ} {y : γ} (e : bnd x k = .inr y) : ∃ a, x = .inr a ∧ k a = .inr y := by
  cases x with
  | inl a => cases e
  | inr a => exact ⟨a, rfl, e⟩
theorem WB_gen {d4 d5 d6 d7 d9 : Nat} (hW : WB P) (e1 : P' 0 1 ≤ 12) (e2 : P' 0 2 ≤ 3) (e3 : P' 0 3 ≤ 10) (e4 : P' 0 4 = P 0 4 + d4) (e5 : P' 0 5 = P 0 5 + d5) (e6 : P' 0 6 = P 0 6 + d6) (e7 : P' 0 7 = P 0 7 + d7) (e9 : P' 9 1 = P 9 1 + d9) (b4 : P 0 4 + d4 ≤ 8) (b5 : P 0 5 + d5 ≤ 12) (b6 : P 0 6 + d6 ≤ 5) (b7 : P 0 7 + d7 ≤ 3) (b9 : P 9 1 + d9 ≤ 12) (z : P' 9 0 = P 9 0 ∧ P' 9 2 = P 9 2)
    (u1 : ∀ k, k < P 0 4 → P' 1 k = P 1 k) (n1 : ∀ k, P 0 4 ≤ k → k < P 0 4 + d4 → P' 1 k ≤ 20)
    (u2 : ∀ k, k < P 0 5 → P' 2 k = P 2 k ∧ P' 3 k = P 3 k) (n2 : ∀ k, P 0 5 ≤ k → k < P 0 5 + d5 → P' 2 k < P 0 4 ∧ P' 3 k < P 0 4 ∧ P' 2 k ≠ P' 3 k)
    (u3 : ∀ k, k < P 0 6 → P' 4 k = P 4 k ∧ P' 5 k = P 5 k) (n3 : ∀ k, P 0 6 ≤ k → k < P 0 6 + d6 → P' 4 k < P 0 4 ∧ P' 5 k ≤ 99)
    (u4 : ∀ k, k < P 0 7 → P' 6 k = P 6 k ∧ P' 7 k = P 7 k) (u5 : ∀ k, k < 6 * P 0 7 → P' 8 k = P 8 k) (n4 : ∀ k, P 0 7 ≤ k → k < P 0 7 + d7 → P' 6 k < P 0 4 ∧ 1 ≤ P' 7 k ∧ P' 7 k ≤ 6 ∧ ∀ i, i < P' 7 k → 1 ≤ P' 8 (6 * k + i) ∧ P' 8 (6 * k + i) ≤ 30)
    (u6 : ∀ k, k < P 9 1 → P' 10 k = P 10 k ∧ P' 11 k = P 11 k ∧ P' 12 k = P 12 k ∧ P' 13 k = P 13 k) (n6 : ∀ k, P 9 1 ≤ k → k < P 9 1 + d9 → P' 10 k < P 0 6 ∧ P' 11 k < P 0 7 ∧ P' 12 k < P 0 4 ∧ P' 13 k ≤ 11) : WB P' := by
  obtain ⟨w1, w2, w3, w4, w5, w6, w7, w8, z1, z2, v1, v2, v3, v4, v5⟩ := hW
  refine ⟨e1, e2, e3, by omega, by omega, by omega, by omega, by omega, by omega, by omega, fun k hk1 => ?_, fun k hk1 => ?_, fun k hk1 => ?_, fun k hk1 => ?_, fun k hk1 => ?_⟩
  · by_cases y : k < P 0 4
    · rw [u1 k y]; exact v1 k y
    · exact n1 k (by omega) (by omega)
  · by_cases y : k < P 0 5
    · rw [(u2 k y).1, (u2 k y).2]
      have := v2 k y
      exact ⟨by omega, by omega, this.2.2⟩
    · have := n2 k (by omega) (by omega)
      exact ⟨by omega, by omega, this.2.2⟩
  · by_cases y : k < P 0 6
    · rw [(u3 k y).1, (u3 k y).2]
      have := v3 k y
      exact ⟨by omega, this.2⟩
    · have := n3 k (by omega) (by omega)
      exact ⟨by omega, this.2⟩
  · by_cases y : k < P 0 7
    · rw [(u4 k y).1, (u4 k y).2]
      obtain ⟨q1, q2, q3, q4⟩ := v4 k y
      refine ⟨by omega, q2, q3, fun i hi1 => ?_⟩
      rw [u5 _ (by omega)]
      exact q4 i hi1
    · obtain ⟨q1, q2, q3, q4⟩ := n4 k (by omega) (by omega)
      exact ⟨by omega, q2, q3, q4⟩
  · by_cases y : k < P 9 1
    · obtain ⟨q1, q2, q3, q4⟩ := u6 k y
      rw [q1, q2, q3, q4]
      have := v5 k y
      omega
    · have := n6 k (by omega) (by omega)
      omega
theorem ok_port (hW : WB P) (e : bPort B n p P = .inr (p', P')) : WB P' ∧ 0 < P' 0 1 ∧ P' 0 0 = P 0 0 := by
  unfold bPort at e
  by_cases z : isW B n p 0 = true
  · rw [if_pos z] at e
    obtain ⟨⟨a, p1⟩, e1, e⟩ := bnd_inr e
    obtain ⟨⟨b, p2⟩, e2, e⟩ := bnd_inr e
    obtain ⟨⟨c, p3⟩, e3, e⟩ := bnd_inr e
    have ha := pA_v e1
    have hb := pA_v e2
    have hc := pA_v e3
    cases e
    have u : ∀ j k, j ≠ 0 ∨ 4 ≤ k ∨ k = 0 → up (up (up P 0 1 a) 0 2 b) 0 3 c j k = P j k := fun j k hj => by rw [up_o _ _ (by omega), up_o _ _ (by omega), up_o _ _ (by omega)]
    have v1 : up (up (up P 0 1 a) 0 2 b) 0 3 c 0 1 = a := by rw [up_o _ _ (by omega), up_o _ _ (by omega), up_eq]
    have v2 : up (up (up P 0 1 a) 0 2 b) 0 3 c 0 2 = b := by rw [up_o _ _ (by omega), up_eq]
    have v3 : up (up (up P 0 1 a) 0 2 b) 0 3 c 0 3 = c := up_eq _ _ _ _
    obtain ⟨w1, w2, w3, w4, w5, w6, w7, w8, -⟩ := id hW
    refine ⟨WB_gen (d4 := 0) (d5 := 0) (d6 := 0) (d7 := 0) (d9 := 0) hW (Nat.le_trans (Nat.le_of_eq v1) (by omega)) (Nat.le_trans (Nat.le_of_eq v2) (by omega)) (Nat.le_trans (Nat.le_of_eq v3) (by omega)) (u _ _ (by omega)) (u _ _ (by omega)) (u _ _ (by omega)) (u _ _ (by omega)) (u _ _ (by omega)) w4 w5 w6 w7 w8 ⟨u _ _ (by omega), u _ _ (by omega)⟩ (fun k _ => u _ _ (by omega)) (fun k _ _ => by omega) (fun k _ => ⟨u _ _ (by omega), u _ _ (by omega)⟩) (fun k _ _ => by omega) (fun k _ => ⟨u _ _ (by omega), u _ _ (by omega)⟩) (fun k _ _ => by omega) (fun k _ => ⟨u _ _ (by omega), u _ _ (by omega)⟩) (fun k _ => u _ _ (by omega)) (fun k _ _ => by omega) (fun k _ => ⟨u _ _ (by omega), u _ _ (by omega), u _ _ (by omega), u _ _ (by omega)⟩) (fun k _ _ => by omega), Nat.lt_of_lt_of_eq (show 0 < a by omega) v1.symm, u _ _ (by omega)⟩
  · rw [if_neg z] at e; cases e
theorem ok_house (hW : WB P) (hc : P 0 4 < 8) (e : bHouse B n p P = .inr (p', P')) : WB P' ∧ P' 0 1 = P 0 1 ∧ P' 0 0 = P 0 0 := by
  unfold bHouse at e
  obtain ⟨⟨a, p1⟩, e1, e⟩ := bnd_inr e
  have ha := pA_v e1
  cases e
  have u : ∀ j k, ¬ (j = 1 ∧ k = P 0 4) → ¬ (j = 0 ∧ k = 4) → up (up P 1 (P 0 4) a) 0 4 (P 0 4 + 1) j k = P j k := fun j k h1 h2 => by rw [up_o _ _ (by omega), up_o _ _ (by omega)]
  have v1 : up (up P 1 (P 0 4) a) 0 4 (P 0 4 + 1) 1 (P 0 4) = a := by rw [up_o _ _ (by omega), up_eq]
  obtain ⟨w1, w2, w3, w4, w5, w6, w7, w8, -⟩ := id hW
  refine ⟨WB_gen (d4 := 1) (d5 := 0) (d6 := 0) (d7 := 0) (d9 := 0) hW (by rw [u _ _ (by omega) (by omega)]; omega) (by rw [u _ _ (by omega) (by omega)]; omega) (by rw [u _ _ (by omega) (by omega)]; omega) (up_eq _ _ _ _) (u _ _ (by omega) (by omega)) (u _ _ (by omega) (by omega)) (u _ _ (by omega) (by omega)) (u _ _ (by omega) (by omega)) hc w5 w6 w7 w8 ⟨u _ _ (by omega) (by omega), u _ _ (by omega) (by omega)⟩ (fun k _ => u _ _ (by omega) (by omega)) (fun k h1 h2 => by rw [show k = P 0 4 by omega, v1]; omega) (fun k _ => ⟨u _ _ (by omega) (by omega), u _ _ (by omega) (by omega)⟩) (fun k _ _ => by omega) (fun k _ => ⟨u _ _ (by omega) (by omega), u _ _ (by omega) (by omega)⟩) (fun k _ _ => by omega) (fun k _ => ⟨u _ _ (by omega) (by omega), u _ _ (by omega) (by omega)⟩) (fun k _ => u _ _ (by omega) (by omega)) (fun k _ _ => by omega) (fun k _ => ⟨u _ _ (by omega) (by omega), u _ _ (by omega) (by omega), u _ _ (by omega) (by omega), u _ _ (by omega) (by omega)⟩) (fun k _ _ => by omega), u _ _ (by omega) (by omega), u _ _ (by omega) (by omega)⟩
theorem ok_way (hW : WB P) (hc : P 0 5 < 12) (e : bWay B n p P = .inr (p', P')) : WB P' ∧ P' 0 1 = P 0 1 ∧ P' 0 0 = P 0 0 := by
  unfold bWay at e
  obtain ⟨⟨a, p1⟩, e1, e⟩ := bnd_inr e
  have ha := (pN_r e1).2.2.2
  by_cases z : kd B n p1 = 2 ∧ nv B n p1 = a
  · rw [if_pos z] at e; cases e
  · rw [if_neg z] at e
    obtain ⟨⟨b, p2⟩, e2, e⟩ := bnd_inr e
    obtain ⟨hb1, hb2, -, hb3, hb4⟩ := pN_r e2
    have hab : a ≠ b := fun q => z ⟨hb1, by rw [q]; exact hb2.symm⟩
    cases e
    have u : ∀ j k, ¬ (j = 2 ∧ k = P 0 5) → ¬ (j = 3 ∧ k = P 0 5) → ¬ (j = 0 ∧ k = 5) → up (up (up P 2 (P 0 5) a) 3 (P 0 5) b) 0 5 (P 0 5 + 1) j k = P j k := fun j k h1 h2 h3 => by rw [up_o _ _ (by omega), up_o _ _ (by omega), up_o _ _ (by omega)]
    have v1 : up (up (up P 2 (P 0 5) a) 3 (P 0 5) b) 0 5 (P 0 5 + 1) 2 (P 0 5) = a := by rw [up_o _ _ (by omega), up_o _ _ (by omega), up_eq]
    have v2 : up (up (up P 2 (P 0 5) a) 3 (P 0 5) b) 0 5 (P 0 5 + 1) 3 (P 0 5) = b := by rw [up_o _ _ (by omega), up_eq]
    obtain ⟨w1, w2, w3, w4, w5, w6, w7, w8, -⟩ := id hW
    refine ⟨WB_gen (d4 := 0) (d5 := 1) (d6 := 0) (d7 := 0) (d9 := 0) hW (by rw [u _ _ (by omega) (by omega) (by omega)]; omega) (by rw [u _ _ (by omega) (by omega) (by omega)]; omega) (by rw [u _ _ (by omega) (by omega) (by omega)]; omega) (u _ _ (by omega) (by omega) (by omega)) (up_eq _ _ _ _) (u _ _ (by omega) (by omega) (by omega)) (u _ _ (by omega) (by omega) (by omega)) (u _ _ (by omega) (by omega) (by omega)) w4 hc w6 w7 w8 ⟨u _ _ (by omega) (by omega) (by omega), u _ _ (by omega) (by omega) (by omega)⟩ (fun k _ => u _ _ (by omega) (by omega) (by omega)) (fun k h1 h2 => by omega) (fun k _ => ⟨u _ _ (by omega) (by omega) (by omega), u _ _ (by omega) (by omega) (by omega)⟩) (fun k h1 h2 => by rw [show k = P 0 5 by omega, v1, v2]; exact ⟨ha.2, hb4, hab⟩) (fun k _ => ⟨u _ _ (by omega) (by omega) (by omega), u _ _ (by omega) (by omega) (by omega)⟩) (fun k _ _ => by omega) (fun k _ => ⟨u _ _ (by omega) (by omega) (by omega), u _ _ (by omega) (by omega) (by omega)⟩) (fun k _ => u _ _ (by omega) (by omega) (by omega)) (fun k _ _ => by omega) (fun k _ => ⟨u _ _ (by omega) (by omega) (by omega), u _ _ (by omega) (by omega) (by omega), u _ _ (by omega) (by omega) (by omega), u _ _ (by omega) (by omega) (by omega)⟩) (fun k _ _ => by omega), u _ _ (by omega) (by omega) (by omega), u _ _ (by omega) (by omega) (by omega)⟩
theorem ok_carrier (hW : WB P) (hc : P 0 6 < 5) (e : bCarrier B n p P = .inr (p', P')) : WB P' ∧ P' 0 1 = P 0 1 ∧ P' 0 0 = P 0 0 := by
  unfold bCarrier at e
  obtain ⟨⟨a, p1⟩, e1, e⟩ := bnd_inr e
  obtain ⟨⟨b, p2⟩, e2, e⟩ := bnd_inr e
  have ha := pA_v e1
  have hb := pA_v e2
  cases e
  have u : ∀ j k, ¬ (j = 4 ∧ k = P 0 6) → ¬ (j = 5 ∧ k = P 0 6) → ¬ (j = 0 ∧ k = 6) → up (up (up P 4 (P 0 6) a) 5 (P 0 6) b) 0 6 (P 0 6 + 1) j k = P j k := fun j k h1 h2 h3 => by rw [up_o _ _ (by omega), up_o _ _ (by omega), up_o _ _ (by omega)]
  have v1 : up (up (up P 4 (P 0 6) a) 5 (P 0 6) b) 0 6 (P 0 6 + 1) 4 (P 0 6) = a := by rw [up_o _ _ (by omega), up_o _ _ (by omega), up_eq]
  have v2 : up (up (up P 4 (P 0 6) a) 5 (P 0 6) b) 0 6 (P 0 6 + 1) 5 (P 0 6) = b := by rw [up_o _ _ (by omega), up_eq]
  obtain ⟨w1, w2, w3, w4, w5, w6, w7, w8, -⟩ := id hW
  refine ⟨WB_gen (d4 := 0) (d5 := 0) (d6 := 1) (d7 := 0) (d9 := 0) hW (by rw [u _ _ (by omega) (by omega) (by omega)]; omega) (by rw [u _ _ (by omega) (by omega) (by omega)]; omega) (by rw [u _ _ (by omega) (by omega) (by omega)]; omega) (u _ _ (by omega) (by omega) (by omega)) (u _ _ (by omega) (by omega) (by omega)) (up_eq _ _ _ _) (u _ _ (by omega) (by omega) (by omega)) (u _ _ (by omega) (by omega) (by omega)) w4 w5 hc w7 w8 ⟨u _ _ (by omega) (by omega) (by omega), u _ _ (by omega) (by omega) (by omega)⟩ (fun k _ => u _ _ (by omega) (by omega) (by omega)) (fun k h1 h2 => by omega) (fun k _ => ⟨u _ _ (by omega) (by omega) (by omega), u _ _ (by omega) (by omega) (by omega)⟩) (fun k h1 h2 => by omega) (fun k _ => ⟨u _ _ (by omega) (by omega) (by omega), u _ _ (by omega) (by omega) (by omega)⟩) (fun k h1 h2 => by rw [show k = P 0 6 by omega, v1, v2]; omega) (fun k _ => ⟨u _ _ (by omega) (by omega) (by omega), u _ _ (by omega) (by omega) (by omega)⟩) (fun k _ => u _ _ (by omega) (by omega) (by omega)) (fun k _ _ => by omega) (fun k _ => ⟨u _ _ (by omega) (by omega) (by omega), u _ _ (by omega) (by omega) (by omega), u _ _ (by omega) (by omega) (by omega), u _ _ (by omega) (by omega) (by omega)⟩) (fun k _ _ => by omega), u _ _ (by omega) (by omega) (by omega), u _ _ (by omega) (by omega) (by omega)⟩
theorem ok_slate (hW : WB P) (hc : P 0 7 < 3) (e : bSlate B n p P = .inr (p', P')) : WB P' ∧ P' 0 1 = P 0 1 ∧ P' 0 0 = P 0 0 := by
  unfold bSlate at e
  obtain ⟨⟨a, p1⟩, e1, e⟩ := bnd_inr e
  obtain ⟨⟨w', p2, Q⟩, e2, e⟩ := bnd_inr e
  have ha := pA_v e1
  obtain ⟨i1, i2, i3, i4, i5, i6, i7⟩ := pWs_r 6 0 _ _ _ _ _ (by decide) e2
  have i7 := i7 (by decide)
  cases e
  have u : ∀ j k, ¬ (j = 6 ∧ k = P 0 7) → ¬ (j = 7 ∧ k = P 0 7) → ¬ (j = 0 ∧ k = 7) → (j = 8 → k < 6 * P 0 7) → up (up Q 7 (P 0 7) w') 0 7 (P 0 7 + 1) j k = P j k := fun j k h1 h2 h3 h4 => by
    rw [up_o _ _ (by omega), up_o _ _ (by omega)]
    by_cases y : j = 8
    · rw [y, i2 k (by have := h4 y; omega), up_o _ _ (by omega)]
    · rw [i1 j k y, up_o _ _ (by omega)]
  have v1 : up (up Q 7 (P 0 7) w') 0 7 (P 0 7 + 1) 6 (P 0 7) = a := by rw [up_o _ _ (by omega), up_o _ _ (by omega), i1 _ _ (by decide), up_eq]
  have v2 : up (up Q 7 (P 0 7) w') 0 7 (P 0 7 + 1) 7 (P 0 7) = w' := by rw [up_o _ _ (by omega), up_eq]
  have v3 : ∀ i, up (up Q 7 (P 0 7) w') 0 7 (P 0 7 + 1) 8 i = Q 8 i := fun i => by rw [up_o _ _ (by omega), up_o _ _ (by omega)]
  obtain ⟨w1, w2, w3, w4, w5, w6, w7, w8, -⟩ := id hW
  refine ⟨WB_gen (d4 := 0) (d5 := 0) (d6 := 0) (d7 := 1) (d9 := 0) hW (by rw [u _ _ (by omega) (by omega) (by omega) (by omega)]; omega) (by rw [u _ _ (by omega) (by omega) (by omega) (by omega)]; omega) (by rw [u _ _ (by omega) (by omega) (by omega) (by omega)]; omega) (u _ _ (by omega) (by omega) (by omega) (by omega)) (u _ _ (by omega) (by omega) (by omega) (by omega)) (u _ _ (by omega) (by omega) (by omega) (by omega)) (up_eq _ _ _ _) (u _ _ (by omega) (by omega) (by omega) (by omega)) w4 w5 w6 hc w8 ⟨u _ _ (by omega) (by omega) (by omega) (by omega), u _ _ (by omega) (by omega) (by omega) (by omega)⟩ (fun k _ => u _ _ (by omega) (by omega) (by omega) (by omega)) (fun k h1 h2 => by omega) (fun k _ => ⟨u _ _ (by omega) (by omega) (by omega) (by omega), u _ _ (by omega) (by omega) (by omega) (by omega)⟩) (fun k h1 h2 => by omega) (fun k _ => ⟨u _ _ (by omega) (by omega) (by omega) (by omega), u _ _ (by omega) (by omega) (by omega) (by omega)⟩) (fun k h1 h2 => by omega) (fun k _ => ⟨u _ _ (by omega) (by omega) (by omega) (by omega), u _ _ (by omega) (by omega) (by omega) (by omega)⟩) (fun k hk1 => u _ _ (by omega) (by omega) (by omega) (fun _ => hk1)) (fun k h1 h2 => ?_) (fun k _ => ⟨u _ _ (by omega) (by omega) (by omega) (by omega), u _ _ (by omega) (by omega) (by omega) (by omega), u _ _ (by omega) (by omega) (by omega) (by omega), u _ _ (by omega) (by omega) (by omega) (by omega)⟩) (fun k _ _ => by omega), u _ _ (by omega) (by omega) (by omega) (by omega), u _ _ (by omega) (by omega) (by omega) (by omega)⟩
  have hk : k = P 0 7 := by omega
  subst hk
  rw [v1, v2]
  refine ⟨by omega, by omega, by omega, fun i hi1 => ?_⟩
  rw [v3]
  exact i6 i (by omega) hi1
theorem ok_carry (hW : WB P) (hc : P 9 1 < 12) (e : bCarry B n p P = .inr (p', P')) : WB P' ∧ P' 0 1 = P 0 1 ∧ P' 0 0 = P 0 0 := by
  unfold bCarry at e
  obtain ⟨⟨a, p1⟩, e1, e⟩ := bnd_inr e
  obtain ⟨⟨b, p2⟩, e2, e⟩ := bnd_inr e
  obtain ⟨⟨c, p3⟩, e3, e⟩ := bnd_inr e
  obtain ⟨⟨d, p4⟩, e4, e⟩ := bnd_inr e
  have ha := (pN_r e1).2.2.2
  have hb := (pN_r e2).2.2.2
  have hc3 := pA_v e3
  have hd := pA_v e4
  cases e
  have u : ∀ j k, (j < 9 ∨ (j = 9 ∧ k ≠ 1) ∨ k ≠ P 9 1 ∧ j ≠ 9) → up (up (up (up (up P 10 (P 9 1) a) 11 (P 9 1) b) 12 (P 9 1) c) 13 (P 9 1) d) 9 1 (P 9 1 + 1) j k = P j k := fun j k h1 => by rw [up_o _ _ (by omega), up_o _ _ (by omega), up_o _ _ (by omega), up_o _ _ (by omega), up_o _ _ (by omega)]
  have v1 : up (up (up (up (up P 10 (P 9 1) a) 11 (P 9 1) b) 12 (P 9 1) c) 13 (P 9 1) d) 9 1 (P 9 1 + 1) 10 (P 9 1) = a := by rw [up_o _ _ (by omega), up_o _ _ (by omega), up_o _ _ (by omega), up_o _ _ (by omega), up_eq]
  have v2 : up (up (up (up (up P 10 (P 9 1) a) 11 (P 9 1) b) 12 (P 9 1) c) 13 (P 9 1) d) 9 1 (P 9 1 + 1) 11 (P 9 1) = b := by rw [up_o _ _ (by omega), up_o _ _ (by omega), up_o _ _ (by omega), up_eq]
  have v3 : up (up (up (up (up P 10 (P 9 1) a) 11 (P 9 1) b) 12 (P 9 1) c) 13 (P 9 1) d) 9 1 (P 9 1 + 1) 12 (P 9 1) = c := by rw [up_o _ _ (by omega), up_o _ _ (by omega), up_eq]
  have v4 : up (up (up (up (up P 10 (P 9 1) a) 11 (P 9 1) b) 12 (P 9 1) c) 13 (P 9 1) d) 9 1 (P 9 1 + 1) 13 (P 9 1) = d := by rw [up_o _ _ (by omega), up_eq]
  obtain ⟨w1, w2, w3, w4, w5, w6, w7, w8, -⟩ := id hW
  refine ⟨WB_gen (d4 := 0) (d5 := 0) (d6 := 0) (d7 := 0) (d9 := 1) hW (by rw [u _ _ (by omega)]; omega) (by rw [u _ _ (by omega)]; omega) (by rw [u _ _ (by omega)]; omega) (u _ _ (by omega)) (u _ _ (by omega)) (u _ _ (by omega)) (u _ _ (by omega)) (up_eq _ _ _ _) w4 w5 w6 w7 hc ⟨u _ _ (by omega), u _ _ (by omega)⟩ (fun k _ => u _ _ (by omega)) (fun k h1 h2 => by omega) (fun k _ => ⟨u _ _ (by omega), u _ _ (by omega)⟩) (fun k h1 h2 => by omega) (fun k _ => ⟨u _ _ (by omega), u _ _ (by omega)⟩) (fun k h1 h2 => by omega) (fun k _ => ⟨u _ _ (by omega), u _ _ (by omega)⟩) (fun k _ => u _ _ (by omega)) (fun k _ _ => by omega) (fun k _ => ⟨u _ _ (by omega), u _ _ (by omega), u _ _ (by omega), u _ _ (by omega)⟩) (fun k h1 h2 => by rw [show k = P 9 1 by omega, v1, v2, v3, v4]; omega), u _ _ (by omega), u _ _ (by omega)⟩
end
