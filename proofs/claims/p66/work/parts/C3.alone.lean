set_option maxRecDepth 100000
set_option maxHeartbeats 1000000
/-! calls: ALONE -/
theorem pop_two : ∀ e, e < 256 → ∀ a, a < 8 → ∀ b, b < 8 → (a ≠ b ∧ e.testBit a = true ∧ e.testBit b = true) → 2 ≤ pop e := by decide +kernel
theorem lA_M (b : Nat) (f : Nat → Nat) : ∀ n, (lA b f n = 0 ∧ lM b f n = b) ∨ (lA b f n ≠ 0 ∧ lM b f n < b) := by
  intro n
  induction n with
  | zero => exact Or.inl ⟨rfl, rfl⟩
  | succ n ih =>
    have hl := lM_le (b := b) (f := f) n
    show ((if f n < lM b f n then n + 1 else lA b f n) = 0 ∧ (if f n < lM b f n then f n else lM b f n) = b) ∨ ((if f n < lM b f n then n + 1 else lA b f n) ≠ 0 ∧ (if f n < lM b f n then f n else lM b f n) < b)
    by_cases z : f n < lM b f n
    · rw [if_pos z, if_pos z]
      exact Or.inr ⟨by omega, by omega⟩
    · rw [if_neg z, if_neg z]
      exact ih
theorem strong_one {P : PT} (hW : WFP P) {m : Nat} (hm : m < P 0 6) : strong P (2 ^ m) = P 5 m := by
  have : ∀ k, stN P (2 ^ m) k = if m < k then P 5 m else 0 := by
    intro k
    induction k with
    | zero => rfl
    | succ k ih =>
      show stN P (2 ^ m) k + (if (2 ^ m).testBit k = true then P 5 k else 0) = _
      rw [ih, bit_pw]
      by_cases z : k = m
      · subst z; simp
      · have e : (m < k + 1) = (m < k) := propext (by omega)
        simp [z, e]
  unfold strong
  rw [this, if_pos hm]
def cnN (P : PT) (s t : Nat) : Nat → Nat
  | 0 => 0
  | x + 1 => if soE P s t x = 0 then cnN P s t x else cnN P s t x ||| 2 ^ x
theorem cnN_8 {P : PT} (hW : WFP P) {s t : Nat} (hs : s < P 0 7) : cnN P s t 8 = cnN P s t (P 0 4) := by
  have hb := hW.all
  have hw := fiE_W (t := t) hW hs
  have : ∀ d, cnN P s t (P 0 4 + d) = cnN P s t (P 0 4) := by
    intro d
    induction d with
    | zero => rfl
    | succ d ih =>
      show (if soE P s t (P 0 4 + d) = 0 then cnN P s t (P 0 4 + d) else _) = _
      have z : soE P s t (P 0 4 + d) = 0 := by
        by_cases q : soE P s t (P 0 4 + d) = 0
        · exact q
        · obtain ⟨c, h1, h2⟩ := (so_some hw hb.2.2.2.1).mp q
          have := (hw.2.2.2.2.2.1 c h1).1
          omega
      rw [if_pos z, ih]
  have := this (8 - P 0 4)
  rw [show P 0 4 + (8 - P 0 4) = 8 by omega] at this
  exact this
theorem pk_m1' (n : Nat) : nI (n + 1) + -nI 1 = nI n := pk_m1 n
section
variable {W : St} {h g : St} {P : PT} {s t x : Nat}
theorem Inv.search (H : Inv W h P) (hs : s < P 0 7) (ht : t < 2 ^ 20) : ∃ g, DX0_search (sI (sI (sR (sR fr0 0 oA) 1 oP) 2 (nI s)) 3 (nI t)) h = some ((), g) ∧ SR g oA P s t ∧ Inv W g P ∧ SH h g := by
  have hc := o_is
  obtain ⟨g, a1, b1, c14, c15, c16, q⟩ := x_search H.as H.pg hs (by omega) ht H.a1
  refine ⟨g, a1, b1, H.al q (fun o ho => by unfold srD at ho; omega) (Or.inr ⟨s, t, hs, ht, c14, c15, b1⟩) (H.a2.keep q (Or.inr c16) (by unfold srD; omega)), q.1⟩
theorem k_soonest (H : Inv W g P) (b : SR g oA P s t) (hs : s < P 0 7) (hx : x < 8) : DX11_cell (sI (sR fr0 0 (oA + 1)) 1 (nI x)) g = some (nI (soE P s t x) + -nI 1, g) := by
  obtain ⟨sn, mw, mh, b1, b2, -⟩ := b
  have k1 := H.as.k1
  rw [x_cellN (by rw [k1]) (H.as.ne 1) (by rw [k1]; exact hx) (by rw [k1]; decide), b1 x hx, sn_so (fiE_W H.w hs) H.w.all.2.2.2.1 b2 hx]
theorem k_mostWords (H : Inv W g P) (b : SR g oA P s t) (hs : s < P 0 7) (hx : x < 8) : DX11_cell (sI (sR fr0 0 (oA + 2)) 1 (nI x)) g = some (nI (mwE P s t x) + -nI 1, g) := by
  obtain ⟨sn, mw, mh, b1, b2, b3, b4, -⟩ := b
  have k2 := H.as.k2
  rw [x_cellN (by rw [k2]) (H.as.ne 2) (by rw [k2]; exact hx) (by rw [k2]; decide), b3 x hx, mw_mw (fiE_W H.w hs) b4 x]
theorem so_lt (hW : WFP P) (hs : s < P 0 7) (t x : Nat) : soE P s t x ≤ 2048 := so_le (fiE_W hW hs) hW.all.2.2.2.1
end
section
variable {W : St}
end
