set_option maxRecDepth 100000
set_option maxHeartbeats 1000000
/-! calls: count -/
section
variable {W : St} {h g : St} {P : PT}
theorem sw_0 {α : Type} (cs : List (Sm α)) (df : Sm α) (f : Fr) (h : St) {k : Nat} (hk1 : k < 1000) : kSwa 0 cs df f (nI k, h) = ob ((cs.getD k df) f h) kSwb := by
  have e : (nI k).toInt = (k : Int) := nI_toInt (by omega)
  rw [e_kSwa, e, if_pos (by omega), show ((k : Int) - 0).toNat = k by omega]
  rfl
theorem sw_9 {α : Type} (cs : List (Sm α)) (df : Sm α) (f : Fr) (h : St) {k : Nat} (hk1 : k < 1000) : kSwa 9 cs df f (nI (9 + k), h) = ob ((cs.getD k df) f h) kSwb := by
  have e : (nI (9 + k)).toInt = ((9 + k : Nat) : Int) := nI_toInt (by omega)
  rw [e_kSwa, e, if_pos (by omega), show (((9 + k : Nat) : Int) - 9).toNat = k by omega]
  rfl
theorem sw_n {α : Type} (lo : Nat) (cs : List (Sm α)) (df : Sm α) (f : Fr) (h : St) {v : Int32} (hl : lo + cs.length < 2 ^ 30) (hv : ¬ (nI 0 ≤ v ∧ v < nI (lo + cs.length))) : kSwa lo cs df f (v, h) = ob (df f h) kSwb := by
  rw [e_kSwa]
  by_cases y : (lo : Int) ≤ v.toInt
  · rw [if_pos y]
    have z : ((lo + cs.length : Nat) : Int) ≤ v.toInt := by
      apply Int.not_lt.mp
      intro c
      apply hv
      refine ⟨Int32.le_iff_toInt_le.mpr ?_, Int32.lt_iff_toInt_lt.mpr ?_⟩
      · rw [nI_toInt (by decide)]; omega
      · rw [nI_toInt (by omega)]; exact c
    rw [List.getElem?_eq_none (by omega)]
    rfl
  · rw [if_neg y]
    rfl
theorem sw_n9 {α : Type} (a b c df : Sm α) (f : Fr) (h : St) {v : Int32} (hv : ¬ (nI 0 ≤ v ∧ v < nI 12)) : kSwa 9 [a, b, c] df f (v, h) = ob (df f h) kSwb := sw_n 9 [a, b, c] df f h (show 9 + 3 < 2 ^ 30 by omega) hv
theorem sw_n0 {α : Type} (a b c d e i j k l m n o df : Sm α) (f : Fr) (h : St) {v : Int32} (hv : ¬ (nI 0 ≤ v ∧ v < nI 12)) : kSwa 0 [a, b, c, d, e, i, j, k, l, m, n, o] df f (v, h) = ob (df f h) kSwb := sw_n 0 [a, b, c, d, e, i, j, k, l, m, n, o] df f h (show 0 + 12 < 2 ^ 30 by omega) hv
def cnS (h : St) : Nat → Nat
  | 0 => 0
  | i + 1 => cnS h i + if hi h 69 i = nI 0 then 0 else 1
theorem cnS_le (h : St) (i : Nat) : cnS h i ≤ i := by
  induction i with
  | zero => exact Nat.le_refl _
  | succ i ih =>
    unfold cnS
    split <;> omega
end
