set_option maxRecDepth 100000
set_option maxHeartbeats 1000000
/-! what the law asks of the searches: a walk no shorter than far; sets of carriers; what is saved -/
def WK (P : PT) (s : Nat) (X : BQ) : Prop := ∀ c, X.2.2 c ≠ 0 → ∃ v, isWk (Adj P) (P 0 4) (P 6 s) (c / 256) v (X.2.2 c - 1)
section
variable {P : PT} {s t k x : Nat} {X : BQ}
theorem wk_on {n a b y m : Nat} {v : Nat → Nat} (H : isWk (Adj P) n a b v m) (ha : Adj P b y) (hy : y < n) : ∃ v, isWk (Adj P) n a y v (m + 1) := by
  obtain ⟨h1, h2, h3, h4⟩ := H
  refine ⟨fun i => if i ≤ m then v i else y, ?_, ?_, fun i hi1 => ?_, fun i hi1 => ?_⟩
  · show (if 0 ≤ m then v 0 else y) = a
    rw [if_pos (Nat.zero_le _)]
    exact h1
  · show (if m + 1 ≤ m then _ else y) = y
    rw [if_neg (by omega)]
  · show Adj P (if i ≤ m then v i else y) (if i + 1 ≤ m then v (i + 1) else y)
    by_cases z : i = m
    · rw [if_pos (by omega), if_neg (by omega), z, h2]
      exact ha
    · rw [if_pos (by omega), if_pos (by omega)]
      exact h3 i (by omega)
  · show (if i ≤ m then v i else y) < n
    by_cases z : i ≤ m
    · rw [if_pos z]
      exact h4 i z
    · rw [if_neg z]
      exact hy
theorem stE_WK (hW : WFP P) (H : WK P s X) (hk : k < X.2.1) (hc : X.2.2 (X.1 k) ≠ 0) (hx : x < P 0 4) : WK P s (stE P s t k X x) ∧ k < (stE P s t k X x).2.1 ∧ (stE P s t k X x).2.2 ((stE P s t k X x).1 k) ≠ 0 := by
  have hb := hW.all
  unfold stE
  by_cases z : okE P s t (X.1 k) x ∧ X.2.2 (toE (X.1 k) x) = 0
  · rw [if_pos z]
    refine ⟨fun c hc2 => ?_, Nat.lt_succ_of_lt hk, ?_⟩
    · show ∃ v, isWk (Adj P) (P 0 4) (P 6 s) (c / 256) v ((if c = toE (X.1 k) x then X.2.2 (X.1 k) + 1 else X.2.2 c) - 1)
      by_cases y : c = toE (X.1 k) x
      · rw [if_pos y, y, toE_div (by omega), Nat.add_sub_cancel]
        obtain ⟨v, hv⟩ := H _ hc
        have := wk_on hv ((door_adj P _ _).mp z.1.1) hx
        rw [show X.2.2 (X.1 k) - 1 + 1 = X.2.2 (X.1 k) by omega] at this
        exact this
      · rw [if_neg y]
        refine H c ?_
        have : (if c = toE (X.1 k) x then X.2.2 (X.1 k) + 1 else X.2.2 c) ≠ 0 := hc2
        rw [if_neg y] at this
        exact this
    · show (if (if k = X.2.1 then toE (X.1 k) x else X.1 k) = toE (X.1 k) x then X.2.2 (X.1 k) + 1 else X.2.2 (if k = X.2.1 then toE (X.1 k) x else X.1 k)) ≠ 0
      rw [if_neg (show ¬ k = X.2.1 by omega)]
      split
      · omega
      · exact hc
  · rw [if_neg z]
    exact ⟨H, hk, hc⟩
theorem rwE_WK (hW : WFP P) (H : WK P s X) (hk : k < X.2.1) (hc : X.2.2 (X.1 k) ≠ 0) : ∀ x, x ≤ P 0 4 → WK P s (rwE P s t k X x) ∧ k < (rwE P s t k X x).2.1 ∧ (rwE P s t k X x).2.2 ((rwE P s t k X x).1 k) ≠ 0
  | 0, _ => ⟨H, hk, hc⟩
  | x + 1, h => by
    obtain ⟨i1, i2, i3⟩ := rwE_WK hW H hk hc x (by omega)
    exact stE_WK hW i1 i2 i3 (by omega)
theorem bfE_WK (hW : WFP P) (hs : s < P 0 7) : ∀ k, WK P s (bfE P s t k)
  | 0 => fun c hc => by
    have hb := hW.all
    have sl := (hW.sl hs).1
    have e : (if c = c0E P s then 1 else 0) ≠ 0 := hc
    by_cases y : c = c0E P s
    · have p : 2 ^ P 6 s < 2 ^ 8 := pow_lt (by omega)
      have ec : c / 256 = P 6 s := by
        rw [y]
        unfold c0E
        obtain ⟨q, eq⟩ : ∃ q, q = 2 ^ P 6 s := ⟨_, rfl⟩
        rw [← eq] at p ⊢
        omega
      refine ⟨fun _ => P 6 s, ?_⟩
      show isWk (Adj P) (P 0 4) (P 6 s) (c / 256) (fun _ => P 6 s) ((if c = c0E P s then 1 else 0) - 1)
      rw [if_pos y, ec]
      exact ⟨rfl, rfl, fun m hm => absurd hm (Nat.not_lt_zero m), fun m _ => sl⟩
    · rw [if_neg y] at e
      exact absurd rfl e
  | k + 1 => by
    have ih := bfE_WK hW hs k
    obtain ⟨w, -⟩ := bfE_W (t := t) hW hs k
    show WK P s (if k < (bfE P s t k).2.1 then rwE P s t k (bfE P s t k) (P 0 4) else bfE P s t k)
    by_cases z : k < (bfE P s t k).2.1
    · rw [if_pos z]
      exact (rwE_WK hW ih z (w.1 k z) _ (Nat.le_refl _)).1
    · rw [if_neg z]
      exact ih
theorem fiE_WK (hW : WFP P) (hs : s < P 0 7) : WK P s (fiE P s t) := by
  unfold fiE
  exact bfE_WK hW hs 2048
theorem so_far (hW : WFP P) (hs : s < P 0 7) {r : Nat} (h : soE P s t x ≠ 0) (D : DistIs (Adj P) (fun _ _ => 1) (P 0 4) (P 6 s) x r) : 1 ≤ r ∧ r ≤ soE P s t x := by
  have key : ∃ v, isWk (Adj P) (P 0 4) (P 6 s) x v (soE P s t x - 1) := by
    have e := h
    unfold soE at e ⊢
    by_cases z : dtN (fiE P s t) x 256 = 100000
    · rw [if_pos z] at e
      exact absurd rfl e
    · rw [if_neg z, Nat.add_sub_cancel]
      rcases dtN_is (fiE P s t) x 256 with q | ⟨i, h1, h2, h3⟩
      · exact absurd q z
      · obtain ⟨v, hv⟩ := fiE_WK (t := t) hW hs _ h2
        rw [show (256 * x + i) / 256 = x by omega] at hv
        exact ⟨v, by rw [h3]; exact hv⟩
  obtain ⟨v, hv⟩ := key
  rcases D with ⟨-, h2⟩ | ⟨h1, -, h4⟩
  · exact absurd hv (h2 _ _)
  · have := h4 v _ hv
    rw [wk_len] at this
    exact ⟨h1, by omega⟩
theorem mw_pos (hW : WFP P) (hs : s < P 0 7) (h : soE P s t x ≠ 0) : mwE P s t x ≠ 0 := by
  have hb := hW.all
  unfold mwE
  split
  · exact Nat.succ_ne_zero _
  · obtain ⟨c, h1, h2⟩ := (so_some (fiE_W hW hs) hb.2.2.2.1).mp h
    have := svN_ge (P := P) (s := s) (fiE P s t) x 256 (c % 256) (Nat.mod_lt _ (by decide)) (by rw [show 256 * x + c % 256 = c by omega]; exact h1)
    unfold vW at this
    omega
theorem mw_le (P : PT) (s t x : Nat) : mwE P s t x ≤ 9 := by
  unfold mwE
  split
  · have := pop_12 (lbN P s 0)
    omega
  · rcases svN_is (P := P) (s := s) (fiE P s t) x 256 with q | ⟨e, -, -, q⟩
    · omega
    · rw [q]
      unfold vW
      have := pop_12 (lbN P s (pop ((256 * x + e) % 256) - 2))
      omega
theorem stN_le (P : PT) {a b : Nat} : ∀ c, (∀ i, i < c → a.testBit i = true → b.testBit i = true) → stN P a c ≤ stN P b c
  | 0, _ => Nat.le_refl _
  | c + 1, h => by
    have ih := stN_le P c (fun i hi1 => h i (by omega))
    show stN P a c + (if a.testBit c = true then P 5 c else 0) ≤ stN P b c + (if b.testBit c = true then P 5 c else 0)
    by_cases y : a.testBit c = true
    · rw [if_pos y, if_pos (h c (by omega) y)]
      omega
    · rw [if_neg y]
      omega
theorem all_bit {i n : Nat} (h : i < n) : (2 ^ n - 1).testBit i = true := by
  rw [Nat.testBit_two_pow_sub_one]
  exact decide_eq_true h
theorem strong_le (P : PT) (k : Nat) : strong P k ≤ strong P (2 ^ P 0 6 - 1) := stN_le P _ (fun i hi1 _ => all_bit hi1)
/-- all carriers' strength -/
def sumN (P : PT) : Nat → Nat
  | 0 => 0
  | k + 1 => sumN P k + P 5 k
theorem strong_all (P : PT) : strong P (2 ^ P 0 6 - 1) = sumN P (P 0 6) := by
  have : ∀ c, c ≤ P 0 6 → stN P (2 ^ P 0 6 - 1) c = sumN P c := by
    intro c
    induction c with
    | zero => intro _; rfl
    | succ c ih =>
      intro hc
      show stN P (2 ^ P 0 6 - 1) c + (if (2 ^ P 0 6 - 1).testBit c = true then P 5 c else 0) = sumN P c + P 5 c
      rw [if_pos (all_bit (by omega)), ih (by omega)]
  exact this _ (Nat.le_refl _)
theorem fbG_ne {f : Nat → Nat} : ∀ N, fbG f N ≠ 0 ↔ ∃ k, 1 ≤ k ∧ k ≤ N ∧ f k ≠ 0
  | 0 => ⟨fun h => absurd rfl h, fun ⟨k, h1, h2, _⟩ => by omega⟩
  | N + 1 => by
    have ih := fbG_ne (f := f) N
    show (if f (N + 1) ≠ 0 ∧ (fbG f N = 0 ∨ pop (N + 1) < pop (fbG f N - 1)) then N + 2 else fbG f N) ≠ 0 ↔ _
    by_cases z : f (N + 1) ≠ 0 ∧ (fbG f N = 0 ∨ pop (N + 1) < pop (fbG f N - 1))
    · rw [if_pos z]
      exact ⟨fun _ => ⟨N + 1, by omega, Nat.le_refl _, z.1⟩, fun _ => by omega⟩
    · rw [if_neg z, ih]
      refine ⟨fun ⟨k, h1, h2, h3⟩ => ⟨k, h1, by omega, h3⟩, fun ⟨k, h1, h2, h3⟩ => ?_⟩
      by_cases y : k = N + 1
      · subst y
        have : fbG f N ≠ 0 := fun q => z ⟨h3, Or.inl q⟩
        exact ih.mp this
      · exact ⟨k, h1, by omega, h3⟩
theorem four_cart (hW : WFP P) (hs : s < P 0 7) (hK : 0 < P 0 6) : fbS P s x (2 ^ P 0 6 - 1) ≠ 0 ↔ soE P s (strong P (2 ^ P 0 6 - 1)) x ≠ 0 := by
  have p : 2 ^ 1 ≤ 2 ^ P 0 6 := Nat.pow_le_pow_right (by decide) hK
  refine (fbG_ne (f := sfE P s x) _).trans ⟨fun ⟨k, h1, h2, h3⟩ => so_mono hW hs (strong_le P k) h3, fun h => ⟨2 ^ P 0 6 - 1, by omega, Nat.le_refl _, h⟩⟩
end
