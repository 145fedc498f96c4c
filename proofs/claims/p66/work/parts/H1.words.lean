set_option maxRecDepth 100000
set_option maxHeartbeats 1000000
/-! the text of a PORT: its words -/
def tx (j i : Nat) : Int32 := (txt j).getD i 0
def txL (j : Nat) : Nat := (txt j).length
def cdW (j : Nat) : Int64 := lN (wF (tx j) (txL j))
def isW (B : Nat → Int32) (n q j : Nat) : Bool := decide (kd B n q = 1 ∧ wd B n q = cdW j)
theorem tx_ok : ∀ j, j < 14 → 1 ≤ txL j ∧ txL j ≤ 7 ∧ ∀ i, i < txL j → kb (tx j i) = 1 := by decide +kernel
theorem cdw_0 : cdW 0 = lN 326369 := by decide +kernel
theorem cdw_1 : cdW 1 = lN 80155 := by decide +kernel
theorem cdw_2 : cdW 2 = lN 8798 := by decide +kernel
theorem cdw_3 : cdW 3 = lN 298288 := by decide +kernel
theorem cdw_4 : cdW 4 = lN 4562600 := by decide +kernel
theorem cdw_5 : cdW 5 = lN 164222 := by decide +kernel
theorem cdw_6 : cdW 6 = lN 16819 := by decide +kernel
theorem cdw_7 : cdW 7 = lN 1186537320 := by decide +kernel
theorem cdw_8 : cdW 8 = lN 47 := by decide +kernel
theorem cdw_9 : cdW 9 = lN 283623667 := by decide +kernel
theorem cdw_10 : cdW 10 = lN 10334849 := by decide +kernel
theorem cdw_11 : cdW 11 = lN 464134 := by decide +kernel
theorem cdw_12 : cdW 12 = lN 1627639 := by decide +kernel
theorem cdw_13 : cdW 13 = lN 555 := by decide +kernel
theorem wF_congr {t u : Nat → Int32} : ∀ {k : Nat}, (∀ i, i < k → t i = u i) → wF t k = wF u k
  | 0, _ => rfl
  | k + 1, h => by
    unfold wF
    rw [wF_congr (t := t) (u := u) (k := k) (fun i hi1 => h i (by omega)), h k (by omega)]
theorem lN_wide {n : Nat} (h : n < 2 ^ 63) : (lN n).toInt = n := Int64.toInt_ofNat_of_lt h
section
variable {B : Nat → Int32} {n q : Nat}
theorem kd1_lt (h : kd B n q = 1) : q < n ∧ kb (B q) = 1 := by
  by_cases z : q < n
  · rw [kd_lt z] at h; exact ⟨z, h⟩
  · rw [kd_ge (by omega)] at h; omega
theorem kd2_lt (h : kd B n q = 2) : q < n ∧ kb (B q) = 2 := by
  by_cases z : q < n
  · rw [kd_lt z] at h; exact ⟨z, h⟩
  · rw [kd_ge (by omega)] at h; omega
theorem isW_iff {j : Nat} (hj : j < 14) : isW B n q j = true ↔ kd B n q = 1 ∧ enq B n q - q = txL j ∧ ∀ i, i < txL j → B (q + i) = tx j i := by
  obtain ⟨t1, t2, t3⟩ := tx_ok j hj
  have tb : wF (tx j) (txL j) + 1 ≤ 27 ^ 7 := Nat.le_trans (wF_lt (fun i hi1 => (ltv_le (t3 i hi1)).2.2)) (Nat.pow_le_pow_right (by decide) t2)
  unfold isW
  rw [decide_eq_true_eq]
  constructor
  · rintro ⟨h1, h2⟩
    obtain ⟨hq, hb⟩ := kd1_lt h1
    refine ⟨h1, ?_⟩
    unfold wd at h2
    rw [if_pos h1] at h2
    have hin : ∀ i, i < enq B n q - q → kb (B (q + i)) = 1 := fun i hi1 => by
      rw [(enq_in hq (by omega) (show q + i < enq B n q by omega)).2]; exact hb
    unfold wL12 cdW at h2
    by_cases z : enq B n q - q ≤ 12
    · rw [if_pos z] at h2
      have wb : wF (fun i => B (q + i)) (enq B n q - q) + 1 ≤ 27 ^ 12 := Nat.le_trans (wF_lt (fun i hi1 => (ltv_le (hin i hi1)).2.2)) (Nat.pow_le_pow_right (by decide) z)
      have e : wF (fun i => B (q + i)) (enq B n q - q) = wF (tx j) (txL j) := by
        exact (fb_lN_inj (by omega) (by omega)).1 h2
      obtain ⟨r1, r2⟩ := wF_inj (fun i hi1 => (ltv_le (hin i hi1)).2) (fun i hi1 => (ltv_le (t3 i hi1)).2) e
      refine ⟨r1, fun i hi1 => ?_⟩
      rw [(ltv_le (hin i (by omega))).1, (ltv_le (t3 i hi1)).1]
      rw [show ltv (B (q + i)) = ltv (tx j i) from r2 i (by omega)]
    · rw [if_neg z] at h2
      have e : -lN 1 = lN (2 ^ 64 - 1) := by decide +kernel
      have e2 : (lN (2 ^ 64 - 1)).toInt = -1 := by decide +kernel
      have e3 : (lN (wF (tx j) (txL j))).toInt = ((wF (tx j) (txL j) : Nat) : Int) := lN_wide (by omega)
      rw [e] at h2
      rw [h2] at e2
      omega
  · rintro ⟨h1, h2, h3⟩
    refine ⟨h1, ?_⟩
    unfold wd wL12 cdW
    rw [if_pos h1, h2, if_pos (by omega), wF_congr (t := fun i => B (q + i)) (u := tx j) h3]
end
theorem nI_n10 : (nI 1 = nI 0) = False := eq_false (by decide)
