set_option maxRecDepth 100000
set_option maxHeartbeats 1000000
/-! the text of a PORT: the class reads all of it -/
section
variable {B : Nat → Int32} {n p p' : Nat} {h g : St} {P P' : PT}
theorem ok_line (hW : WQ P) (e : bLine B n p P = .inr (p', P')) : WB P' ∧ 0 < P' 0 1 ∧ P' 0 0 = P 0 0 := by
  obtain ⟨hB, h0, h1⟩ := hW
  unfold bLine at e
  by_cases z0 : P 0 0 = 0
  · rw [if_pos z0] at e; exact ok_port hB e
  · rw [if_neg z0] at e
    have h1 := h1 (by omega)
    have fin : (WB P' ∧ P' 0 1 = P 0 1 ∧ P' 0 0 = P 0 0) → WB P' ∧ 0 < P' 0 1 ∧ P' 0 0 = P 0 0 := fun q => ⟨q.1, by omega, q.2.2⟩
    by_cases z4 : isW B n p 4 = true
    · rw [if_pos z4] at e
      by_cases y : P 0 4 < 8
      · rw [if_pos y] at e; exact fin (ok_house hB y e)
      · rw [if_neg y] at e; cases e
    · rw [if_neg z4] at e
      by_cases z6 : isW B n p 6 = true
      · rw [if_pos z6] at e
        by_cases y : P 0 5 < 12
        · rw [if_pos y] at e; exact fin (ok_way hB y e)
        · rw [if_neg y] at e; cases e
      · rw [if_neg z6] at e
        by_cases z7 : isW B n p 7 = true
        · rw [if_pos z7] at e
          by_cases y : P 0 6 < 5
          · rw [if_pos y] at e; exact fin (ok_carrier hB y e)
          · rw [if_neg y] at e; cases e
        · rw [if_neg z7] at e
          by_cases z10 : isW B n p 10 = true
          · rw [if_pos z10] at e
            by_cases y : P 0 7 < 3
            · rw [if_pos y] at e; exact fin (ok_slate hB y e)
            · rw [if_neg y] at e; cases e
          · rw [if_neg z10] at e
            by_cases z12 : isW B n p 12 = true
            · rw [if_pos z12] at e
              by_cases y : P 9 1 < 12
              · rw [if_pos y] at e; exact fin (ok_carry hB y e)
              · rw [if_neg y] at e; cases e
            · rw [if_neg z12] at e; cases e
theorem pos_N {lo top v : Nat} (e : pN B n lo top p = .inr (v, p')) : p < p' ∧ p' ≤ n := by
  obtain ⟨h1, -, h2, -⟩ := pN_r e
  rw [h2]
  exact nxt_lt (kd2_lt h1).1
theorem pos_A {j lo top v : Nat} (e : pA B n j lo top p = .inr (v, p')) : p < p' ∧ p' ≤ n := by
  obtain ⟨h1, h2⟩ := pA_r e
  have h1 : kd B n p = 1 := by
    unfold isW at h1
    rw [decide_eq_true_eq] at h1
    exact h1.1
  have h3 := nxt_lt (B := B) (kd1_lt h1).1
  have h4 := pos_N h2
  omega
theorem pos_Ws {s : Nat} : ∀ (f w p : Nat) (P : PT) (w' p' : Nat) (P' : PT), 0 < f → pWs B n s f w p P = .inr (w', p', P') → p < p' ∧ p' ≤ n := by
  intro f
  induction f with
  | zero => intro w p P w' p' P' hf; omega
  | succ f ih =>
    intro w p P w' p' P' _ e
    unfold pWs at e
    obtain ⟨⟨v, p1⟩, q, e⟩ := bnd_inr e
    have hq := pos_A q
    by_cases z : isW B n p1 11 = true
    · rw [if_pos z] at e
      by_cases y : w + 1 < 6
      · rw [if_pos y] at e
        by_cases hf : 0 < f
        · have := ih (w + 1) p1 _ w' p' P' hf e
          omega
        · have : f = 0 := by omega
          subst this
          cases e
          exact hq
      · rw [if_neg y] at e; cases e
    · rw [if_neg z] at e
      cases e
      exact hq
theorem pos_line (hp : p ≤ n) (e : bLine B n p P = .inr (p', P')) : p ≤ p' ∧ p' ≤ n := by
  have h0 := nxt_le (B := B) hp
  unfold bLine at e
  by_cases z0 : P 0 0 = 0
  · rw [if_pos z0] at e
    unfold bPort at e
    by_cases z : isW B n p 0 = true
    · rw [if_pos z] at e
      obtain ⟨⟨a, p1⟩, e1, e⟩ := bnd_inr e
      obtain ⟨⟨b, p2⟩, e2, e⟩ := bnd_inr e
      obtain ⟨⟨c, p3⟩, e3, e⟩ := bnd_inr e
      cases e
      have := pos_A e1
      have := pos_A e2
      have := pos_A e3
      omega
    · rw [if_neg z] at e; cases e
  · rw [if_neg z0] at e
    by_cases z4 : isW B n p 4 = true
    · rw [if_pos z4] at e
      by_cases y : P 0 4 < 8
      · rw [if_pos y] at e
        unfold bHouse at e
        obtain ⟨⟨a, p1⟩, e1, e⟩ := bnd_inr e
        cases e
        have := pos_A e1
        omega
      · rw [if_neg y] at e; cases e
    · rw [if_neg z4] at e
      by_cases z6 : isW B n p 6 = true
      · rw [if_pos z6] at e
        by_cases y : P 0 5 < 12
        · rw [if_pos y] at e
          unfold bWay at e
          obtain ⟨⟨a, p1⟩, e1, e⟩ := bnd_inr e
          by_cases x : kd B n p1 = 2 ∧ nv B n p1 = a
          · rw [if_pos x] at e; cases e
          · rw [if_neg x] at e
            obtain ⟨⟨b, p2⟩, e2, e⟩ := bnd_inr e
            cases e
            have := pos_N e1
            have := pos_N e2
            omega
        · rw [if_neg y] at e; cases e
      · rw [if_neg z6] at e
        by_cases z7 : isW B n p 7 = true
        · rw [if_pos z7] at e
          by_cases y : P 0 6 < 5
          · rw [if_pos y] at e
            unfold bCarrier at e
            obtain ⟨⟨a, p1⟩, e1, e⟩ := bnd_inr e
            obtain ⟨⟨b, p2⟩, e2, e⟩ := bnd_inr e
            cases e
            have := pos_A e1
            have := pos_A e2
            omega
          · rw [if_neg y] at e; cases e
        · rw [if_neg z7] at e
          by_cases z10 : isW B n p 10 = true
          · rw [if_pos z10] at e
            by_cases y : P 0 7 < 3
            · rw [if_pos y] at e
              unfold bSlate at e
              obtain ⟨⟨a, p1⟩, e1, e⟩ := bnd_inr e
              obtain ⟨⟨w', p2, Q⟩, e2, e⟩ := bnd_inr e
              cases e
              have := pos_A e1
              have := pos_Ws 6 0 _ _ _ _ _ (by decide) e2
              dsimp only at *
              omega
            · rw [if_neg y] at e; cases e
          · rw [if_neg z10] at e
            by_cases z12 : isW B n p 12 = true
            · rw [if_pos z12] at e
              by_cases y : P 9 1 < 12
              · rw [if_pos y] at e
                unfold bCarry at e
                obtain ⟨⟨a, p1⟩, e1, e⟩ := bnd_inr e
                obtain ⟨⟨b, p2⟩, e2, e⟩ := bnd_inr e
                obtain ⟨⟨c, p3⟩, e3, e⟩ := bnd_inr e
                obtain ⟨⟨d, p4⟩, e4, e⟩ := bnd_inr e
                cases e
                have := pos_N e1
                have := pos_N e2
                have := pos_A e3
                have := pos_A e4
                omega
              · rw [if_neg y] at e; cases e
            · rw [if_neg z12] at e; cases e
theorem ok_full (hW : WQ P) (hp : p ≤ n) (e : bFull B n p P = .inr (p', P')) : WQ P' ∧ P' 0 0 = P 0 0 + 1 ∧ p < p' ∧ p' ≤ n := by
  unfold bFull at e
  obtain ⟨⟨p1, Q⟩, e1, e⟩ := bnd_inr e
  obtain ⟨q1, q2, q3⟩ := ok_line hW e1
  have hq := pos_line hp e1
  by_cases z : kd B n p1 = 3
  · rw [if_pos z] at e
    cases e
    have hlt : p1 < n := by
      by_cases y : p1 < n
      · exact y
      · have := kd_ge (B := B) (show n ≤ p1 by omega); omega
    have hn := nxt_lt (B := B) hlt
    have u : ∀ j k, j ≠ 0 ∨ k ≠ 0 → up Q 0 0 (P 0 0 + 1) j k = Q j k := fun j k hj => up_o _ _ (by omega)
    obtain ⟨w1, w2, w3, w4, w5, w6, w7, w8, z1, z2, -⟩ := id q1
    refine ⟨⟨WB_gen (d4 := 0) (d5 := 0) (d6 := 0) (d7 := 0) (d9 := 0) q1 (by rw [u _ _ (by omega)]; omega) (by rw [u _ _ (by omega)]; omega) (by rw [u _ _ (by omega)]; omega) (u _ _ (by omega)) (u _ _ (by omega)) (u _ _ (by omega)) (u _ _ (by omega)) (u _ _ (by omega)) w4 w5 w6 w7 w8 ⟨u _ _ (by omega), u _ _ (by omega)⟩ (fun k _ => u _ _ (by omega)) (fun k _ _ => by omega) (fun k _ => ⟨u _ _ (by omega), u _ _ (by omega)⟩) (fun k _ _ => by omega) (fun k _ => ⟨u _ _ (by omega), u _ _ (by omega)⟩) (fun k _ _ => by omega) (fun k _ => ⟨u _ _ (by omega), u _ _ (by omega)⟩) (fun k _ => u _ _ (by omega)) (fun k _ _ => by omega) (fun k _ => ⟨u _ _ (by omega), u _ _ (by omega), u _ _ (by omega), u _ _ (by omega)⟩) (fun k _ _ => by omega), fun y => ?_, fun _ => ?_⟩, up_eq _ _ _ _, ?_⟩
    · rw [up_eq] at y; omega
    · rw [u _ _ (by omega)]; exact q2
    · dsimp only at *
      omega
  · rw [if_neg z] at e; cases e
end
