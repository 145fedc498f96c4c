set_option maxRecDepth 100000
set_option maxHeartbeats 1000000
/-! rounds of bettering, in the class -/
def rdN (P : PT) (D : Nat → Nat) : Nat → Nat → Nat
  | 0 => D
  | k + 1 => imp (climb P) (imp (climb P) (rdN P D k) (P 2 k) (P 3 k)) (P 3 k) (P 2 k)
def lcN (P : PT) (D : Nat → Nat) : Nat → Nat → Nat
  | 0 => D
  | t + 1 => rdN P (lcN P D t) (P 0 5)
section
variable {h : St} {p q : Nat} {P : PT} {D : Nat → Nat}
theorem imp_bd {M x y : Nat} (hW : WFP P) (hy : y < P 0 4) (hD : ∀ k, D k ≤ M) : ∀ k, imp (climb P) D x y k ≤ M + 20 := by
  intro k
  have h1 := hD k
  have h2 := hD x
  have h3 := climb_le hW (a := x) hy
  unfold imp
  split
  · show (if k = y then _ else _) ≤ _
    split <;> omega
  · omega
theorem rdN_bd {M : Nat} (hW : WFP P) (hD : ∀ k, D k ≤ M) : ∀ i, i ≤ P 0 5 → ∀ k, rdN P D i k ≤ M + 40 * i := by
  have hw := hW.2.2.2.2.2.2.2.2.2.2.2.2.2.2.2.2.1
  intro i
  induction i with
  | zero => intro _ k; exact hD k
  | succ i ih =>
    intro hi1 k
    have h1 := hw i (by omega)
    have := imp_bd (M := M + 40 * i + 20) (x := P 3 i) hW h1.1 (imp_bd (x := P 2 i) hW h1.2.1 (ih (by omega))) k
    show imp _ _ _ _ k ≤ _
    omega
theorem lcN_bd {M : Nat} (hW : WFP P) (hD : ∀ k, D k ≤ M) : ∀ t k, lcN P D t k ≤ M + 480 * t := by
  have hb := hW.all
  intro t
  induction t with
  | zero => intro k; exact hD k
  | succ t ih =>
    intro k
    have := rdN_bd hW ih (P 0 5) (Nat.le_refl _) k
    show rdN P (lcN P D t) (P 0 5) k ≤ _
    omega
end
