set_option maxRecDepth 100000
set_option maxHeartbeats 1000000
/-! what lay in a Course before doesn't count -/
def UIn (P : PT) (j k : Nat) : Prop := (j = 0 ∧ k < 8) ∨ (j = 1 ∧ k < P 0 6) ∨ ((j = 2 ∨ j = 3 ∨ j = 5) ∧ k < P 0 7) ∨ (j = 4 ∧ k < 24) ∨ ((j = 6 ∨ j = 7) ∧ k < 32)
def EqU (P S T : PT) : Prop := ∀ j k, UIn P j k → S j k = T j k
theorem EqU.ups {P S T : PT} (q : EqU P S T) (j k v : Nat) : EqU P (up S j k v) (up T j k v) := by
  intro a b hab
  unfold up
  split
  · rfl
  · exact q a b hab
theorem EqU.car {P S T : PT} (hW : WFP P) {i : Nat} (hi1 : i < P 9 1) (q : EqU P S T) (b : Bool) : EqU P (carS P S i b) (carS P T i b) := by
  have hb := hW.all
  obtain ⟨hm, hs, ha, hdy⟩ := hW.cy hi1
  have r00 := q 0 0 (by unfold UIn; omega)
  have r06 := q 0 6 (by unfold UIn; omega)
  have r07 := q 0 7 (by unfold UIn; omega)
  have r2 := q 2 (P 11 i) (by unfold UIn; omega)
  have r3 := q 3 (P 11 i) (by unfold UIn; omega)
  have r5 := q 5 (P 11 i) (by unfold UIn; omega)
  have r4 := q 4 (8 * P 11 i + P 12 i) (by unfold UIn; omega)
  unfold carS outS wetS loadS
  rw [r00, r06, r07, r2, r3, r5, r4]
  split
  · exact ((((((q.ups _ _ _).ups _ _ _).ups _ _ _).ups _ _ _).ups _ _ _).ups _ _ _).ups _ _ _
  · exact (((((((q.ups _ _ _).ups _ _ _).ups _ _ _).ups _ _ _).ups _ _ _).ups _ _ _).ups _ _ _).ups _ _ _
theorem EqU.hin {P S T : PT} (hW : WFP P) {i : Nat} (hi1 : i < P 9 1) (q : EqU P S T) : hinS P S i = hinS P T i := by
  have hb := hW.all
  obtain ⟨hm, hs, ha, hdy⟩ := hW.cy hi1
  unfold hinS loadS
  rw [q 0 6 (by unfold UIn; omega), q 0 7 (by unfold UIn; omega), q 0 2 (by unfold UIn; omega), q 0 1 (by unfold UIn; omega), q 1 (P 10 i) (by unfold UIn; omega), q 2 (P 11 i) (by unfold UIn; omega), q 3 (P 11 i) (by unfold UIn; omega)]
theorem EqU.step {P S T : PT} (hW : WFP P) {i : Nat} (hi1 : i < P 9 1) (q : EqU P S T) (d : Nat) : EqU P (stepS P S d i) (stepS P T d i) := by
  unfold stepS
  rw [q.hin hW hi1, q 0 3 (by unfold UIn; omega)]
  split
  · split
    · exact (q.ups _ _ _).car hW hi1 _
    · exact q.ups _ _ _
  · exact q
def EqB (P S T : PT) : Prop := EqU P (up (up S 0 6 0) 0 7 0) (up (up T 0 6 0) 0 7 0)
theorem EqU.b {P S T : PT} (q : EqU P S T) : EqB P S T := (q.ups _ _ _).ups _ _ _
theorem EqB.dayN {P S T : PT} (hW : WFP P) (q : EqB P S T) (d : Nat) : ∀ k, k ≤ P 9 1 → EqU P (dayN P S d k) (dayN P T d k) := by
  intro k
  induction k with
  | zero => intro _; exact q
  | succ k ih => intro hk1; exact (ih (by omega)).step hW (by omega) d
theorem EqB.at {P S T : PT} (q : EqB P S T) {j k : Nat} (hu : UIn P j k) (hn1 : j ≠ 0 ∨ k < 6) : S j k = T j k := by
  have := q j k hu
  unfold up at this
  rw [if_neg (by omega), if_neg (by omega), if_neg (by omega), if_neg (by omega)] at this
  exact this
theorem begS_same {P S T : PT} (q : ∀ k, k < 6 → S 0 k = T 0 k) : EqB P (begS P S) (begS P T) := by
  intro j k hjk
  have hf : ∀ s, fsS P S s = fsS P T s := fun s => by unfold fsS; rw [q 4 (by decide), q 5 (by decide)]
  unfold up
  by_cases z7 : j = 0 ∧ k = 7
  · rw [if_pos z7, if_pos z7]
  · rw [if_neg z7, if_neg z7]
    by_cases z6 : j = 0 ∧ k = 6
    · rw [if_pos z6, if_pos z6]
    · rw [if_neg z6, if_neg z6]
      unfold begS
      rw [hf, hf]
      by_cases z0 : j = 0
      · subst z0
        have h6 : k < 6 := by unfold UIn at hjk; omega
        simp [q k h6]
      · rcases hjk with ⟨h1, h2⟩ | ⟨rfl, h2⟩ | ⟨(rfl | rfl | rfl), h2⟩ | ⟨rfl, h2⟩ | ⟨(rfl | rfl), h2⟩
        · exact absurd h1 z0
        all_goals simp [h2]
theorem runN_same {P S T : PT} (hW : WFP P) (q : ∀ k, k < 6 → S 0 k = T 0 k) : ∀ d, EqB P (runN P S d) (runN P T d) := by
  intro d
  induction d with
  | zero => exact begS_same q
  | succ d ih => exact (EqB.dayN hW ih d _ (Nat.le_refl _)).b
theorem runN_same1 {P S T : PT} (hW : WFP P) (q : ∀ k, k < 6 → S 0 k = T 0 k) (d : Nat) : EqU P (runN P S (d + 1)) (runN P T (d + 1)) := EqB.dayN hW (runN_same hW q d) d _ (Nat.le_refl _)
