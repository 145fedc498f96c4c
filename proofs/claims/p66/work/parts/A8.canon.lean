set_option maxRecDepth 100000
set_option maxHeartbeats 1000000
/-! what is found, by number; the model's reads of it -/
def dtN (X : BQ) (x : Nat) : Nat → Nat
  | 0 => 100000
  | e + 1 => if (if X.2.2 (256 * x + e) = 0 then 100000 else X.2.2 (256 * x + e) - 1) < dtN X x e then (if X.2.2 (256 * x + e) = 0 then 100000 else X.2.2 (256 * x + e) - 1) else dtN X x e
def svN (P : PT) (s : Nat) (X : BQ) (x : Nat) : Nat → Nat
  | 0 => 0
  | e + 1 => if X.2.2 (256 * x + e) = 0 then svN P s X x e else max (svN P s X x e) (vW P s (256 * x + e))
def soE (P : PT) (s t x : Nat) : Nat := if dtN (fiE P s t) x 256 = 100000 then 0 else dtN (fiE P s t) x 256 + 1
def mwE (P : PT) (s t x : Nat) : Nat := if x = P 6 s then pop (lbN P s 0) + 1 else svN P s (fiE P s t) x 256
theorem dtN_le (X : BQ) (x : Nat) : ∀ k e, e < k → dtN X x k ≤ if X.2.2 (256 * x + e) = 0 then 100000 else X.2.2 (256 * x + e) - 1 := by
  intro k
  induction k with
  | zero => intro e he; exact absurd he (Nat.not_lt_zero e)
  | succ k ih =>
    intro e he
    show (if (if X.2.2 (256 * x + k) = 0 then 100000 else X.2.2 (256 * x + k) - 1) < dtN X x k then (if X.2.2 (256 * x + k) = 0 then 100000 else X.2.2 (256 * x + k) - 1) else dtN X x k) ≤ _
    by_cases z : e = k
    · subst z
      generalize (if X.2.2 (256 * x + e) = 0 then 100000 else X.2.2 (256 * x + e) - 1) = q
      by_cases y : q < dtN X x e
      · rw [if_pos y]; exact Nat.le_refl _
      · rw [if_neg y]; omega
    · have := ih e (by omega)
      generalize (if X.2.2 (256 * x + k) = 0 then 100000 else X.2.2 (256 * x + k) - 1) = q
      by_cases y : q < dtN X x k
      · rw [if_pos y]; omega
      · rw [if_neg y]; omega
theorem dtN_is (X : BQ) (x : Nat) : ∀ k, dtN X x k = 100000 ∨ ∃ e, e < k ∧ X.2.2 (256 * x + e) ≠ 0 ∧ dtN X x k = X.2.2 (256 * x + e) - 1 := by
  intro k
  induction k with
  | zero => exact Or.inl rfl
  | succ k ih =>
    show (if (if X.2.2 (256 * x + k) = 0 then 100000 else X.2.2 (256 * x + k) - 1) < dtN X x k then (if X.2.2 (256 * x + k) = 0 then 100000 else X.2.2 (256 * x + k) - 1) else dtN X x k) = 100000 ∨ ∃ e, e < k + 1 ∧ X.2.2 (256 * x + e) ≠ 0 ∧ (if (if X.2.2 (256 * x + k) = 0 then 100000 else X.2.2 (256 * x + k) - 1) < dtN X x k then (if X.2.2 (256 * x + k) = 0 then 100000 else X.2.2 (256 * x + k) - 1) else dtN X x k) = X.2.2 (256 * x + e) - 1
    by_cases z : X.2.2 (256 * x + k) = 0
    · rw [if_pos z]
      split
      · exact Or.inl rfl
      · rcases ih with h | ⟨e, h1, h2, h3⟩
        · exact Or.inl h
        · exact Or.inr ⟨e, by omega, h2, h3⟩
    · rw [if_neg z]
      split
      · exact Or.inr ⟨k, by omega, z, rfl⟩
      · rcases ih with h | ⟨e, h1, h2, h3⟩
        · exact Or.inl h
        · exact Or.inr ⟨e, by omega, h2, h3⟩
section
variable {P : PT} {s t x : Nat} {X : BQ} {sn mw : Nat → Nat}
theorem WE.D_le (hw : WE P s X) (h8 : P 0 4 ≤ 8) {c : Nat} (hc : X.2.2 c ≠ 0) : X.2.2 c ≤ 2048 := by
  obtain ⟨i, h1, h2⟩ := hw.2.1 c hc
  have h3 := hw.2.2.2.2.1 i h1
  have h4 := hw.le h8
  rw [h2] at h3
  omega
theorem dtN_sn (hw : WE P s X) (h8 : P 0 4 ≤ 8) (h : SNs sn X) (hx : x < 8) : dtN X x 256 = if sn x = 0 then 100000 else sn x - 1 := by
  rcases dtN_is X x 256 with e | ⟨e, h1, h2, h3⟩
  · rw [e]
    by_cases z : sn x = 0
    · rw [if_pos z]
    · obtain ⟨c, h4, h5, h6⟩ := h.2 x z
      have h7 := dtN_le X x 256 (c % 256) (Nat.mod_lt _ (by decide))
      rw [show 256 * x + c % 256 = c by omega, if_neg h4] at h7
      have := hw.D_le h8 h4
      omega
  · have h4 := h.1 _ h2
    rw [show (256 * x + e) / 256 = x by omega] at h4
    rw [if_neg h4.1, h3]
    obtain ⟨c, h5, h6, h7⟩ := h.2 x h4.1
    have h8 := dtN_le X x 256 (c % 256) (Nat.mod_lt _ (by decide))
    rw [show 256 * x + c % 256 = c by omega, if_neg h5] at h8
    omega
theorem sn_so (hw : WE P s (fiE P s t)) (h8 : P 0 4 ≤ 8) (h : SNs sn (fiE P s t)) (hx : x < 8) : sn x = soE P s t x := by
  have h1 := dtN_sn hw h8 h hx
  have h2 := h.bd hw h8 x
  unfold soE
  rw [h1]
  by_cases z : sn x = 0
  · rw [if_pos z, if_pos rfl]; exact z
  · rw [if_neg z, if_neg (by omega)]; omega
theorem so_dt (hw : WE P s (fiE P s t)) (h8 : P 0 4 ≤ 8) : dtN (fiE P s t) x 256 = if soE P s t x = 0 then 100000 else soE P s t x - 1 := by
  unfold soE
  by_cases z : dtN (fiE P s t) x 256 = 100000
  · rw [if_pos z, if_pos rfl]; exact z
  · rw [if_neg z, if_neg (by omega)]; omega
theorem so_le (hw : WE P s (fiE P s t)) (h8 : P 0 4 ≤ 8) : soE P s t x ≤ 2048 := by
  unfold soE
  split
  · omega
  · rename_i z
    rcases dtN_is (fiE P s t) x 256 with e | ⟨e, h1, h2, h3⟩
    · exact absurd e z
    · have := hw.D_le h8 h2
      omega
theorem so_some (hw : WE P s (fiE P s t)) (h8 : P 0 4 ≤ 8) : soE P s t x ≠ 0 ↔ ∃ c, (fiE P s t).2.2 c ≠ 0 ∧ c / 256 = x := by
  unfold soE
  refine ⟨fun h => ?_, fun ⟨c, h1, h2⟩ => ?_⟩
  · by_cases z : dtN (fiE P s t) x 256 = 100000
    · rw [if_pos z] at h; exact absurd rfl h
    · rcases dtN_is (fiE P s t) x 256 with e | ⟨e, h1, h2, h3⟩
      · exact absurd e z
      · exact ⟨256 * x + e, h2, by omega⟩
  · have h3 := dtN_le (fiE P s t) x 256 (c % 256) (Nat.mod_lt _ (by decide))
    rw [show 256 * x + c % 256 = c by omega, if_neg h1] at h3
    have := hw.D_le h8 h1
    rw [if_neg (by omega)]
    omega
theorem svN_ge (X : BQ) (x : Nat) : ∀ k e, e < k → X.2.2 (256 * x + e) ≠ 0 → vW P s (256 * x + e) ≤ svN P s X x k := by
  intro k
  induction k with
  | zero => intro e he; exact absurd he (Nat.not_lt_zero e)
  | succ k ih =>
    intro e he hD
    show _ ≤ if X.2.2 (256 * x + k) = 0 then svN P s X x k else max (svN P s X x k) (vW P s (256 * x + k))
    by_cases z : e = k
    · subst z
      rw [if_neg hD]; omega
    · have := ih e (by omega) hD
      split <;> omega
theorem svN_is (X : BQ) (x : Nat) : ∀ k, svN P s X x k = 0 ∨ ∃ e, e < k ∧ X.2.2 (256 * x + e) ≠ 0 ∧ svN P s X x k = vW P s (256 * x + e) := by
  intro k
  induction k with
  | zero => exact Or.inl rfl
  | succ k ih =>
    show (if X.2.2 (256 * x + k) = 0 then svN P s X x k else max (svN P s X x k) (vW P s (256 * x + k))) = 0 ∨ ∃ e, e < k + 1 ∧ X.2.2 (256 * x + e) ≠ 0 ∧ (if X.2.2 (256 * x + k) = 0 then svN P s X x k else max (svN P s X x k) (vW P s (256 * x + k))) = vW P s (256 * x + e)
    by_cases z : X.2.2 (256 * x + k) = 0
    · rw [if_pos z]
      rcases ih with h | ⟨e, h1, h2, h3⟩
      · exact Or.inl h
      · exact Or.inr ⟨e, by omega, h2, h3⟩
    · rw [if_neg z]
      by_cases y : svN P s X x k ≤ vW P s (256 * x + k)
      · exact Or.inr ⟨k, by omega, z, by omega⟩
      · rcases ih with h | ⟨e, h1, h2, h3⟩
        · omega
        · exact Or.inr ⟨e, by omega, h2, by omega⟩
theorem mw_mw (hw : WE P s (fiE P s t)) (h : MWs P s mw (fiE P s t)) (x : Nat) : mw x = mwE P s t x := by
  unfold mwE
  by_cases z : x = P 6 s
  · rw [if_pos z, z, h.2.2]
  · rw [if_neg z]
    have h1 : ∀ e, (fiE P s t).2.2 (256 * x + e) ≠ 0 → e < 256 → vW P s (256 * x + e) ≤ mw x := fun e he h2 => by
      have hO := hw.2.2.2.2.2.1 _ he
      refine h.1 _ he x ?_ z
      have := hO.2.1
      rw [show (256 * x + e) / 256 = x by omega] at this
      exact this
    rcases svN_is (P := P) (s := s) (fiE P s t) x 256 with e | ⟨e, h2, h3, h4⟩
    · rw [e]
      by_cases y : mw x = 0
      · exact y
      · obtain ⟨c, h5, h6, h7⟩ := h.2.1 x z y
        have h8 := svN_ge (P := P) (s := s) (fiE P s t) x 256 (c % 256) (Nat.mod_lt _ (by decide)) (by rw [show 256 * x + c % 256 = c by omega]; exact h5)
        rw [show 256 * x + c % 256 = c by omega] at h8
        unfold vW at h8
        omega
    · rw [h4]
      have h5 := h1 e h3 h2
      by_cases y : mw x = 0
      · unfold vW at h5; omega
      · obtain ⟨c, h6, h7, h8⟩ := h.2.1 x z y
        have h9 := svN_ge (P := P) (s := s) (fiE P s t) x 256 (c % 256) (Nat.mod_lt _ (by decide)) (by rw [show 256 * x + c % 256 = c by omega]; exact h6)
        rw [show 256 * x + c % 256 = c by omega] at h9
        omega
end
section
variable {h : St} {m : Nat} {P : PT} {s t x : Nat} {X : BQ}
theorem strong_lt (hW : WFP P) (set : Nat) : strong P set ≤ 495 := by
  have hb := hW.all
  have : ∀ k, k ≤ P 0 6 → stN P set k ≤ 99 * k := by
    intro k
    induction k with
    | zero => intro _; exact Nat.le_refl _
    | succ k ih =>
      intro hk1
      have h1 := ih (by omega)
      have h2 := (hW.cr (k := k) (by omega)).2
      show stN P set k + (if set.testBit k = true then P 5 k else 0) ≤ _
      split <;> omega
  have := this (P 0 6) (Nat.le_refl _)
  unfold strong
  omega
end
