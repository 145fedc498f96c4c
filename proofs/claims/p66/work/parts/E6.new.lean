set_option maxRecDepth 100000
set_option maxHeartbeats 1000000
/-! what is made anew: an array in a field -/
section
variable {h : St}
theorem wR_hi (h : St) (r k v : Nat) : hi (wR h r k v) = hi h := rfl
theorem wR_hl (h : St) (r k v : Nat) : hl (wR h r k v) = hl h := rfl
theorem wR_hk (h : St) (r k v : Nat) : hk (wR h r k v) = hk h := rfl
theorem wR_hn (h : St) (r k v : Nat) : hn (wR h r k v) = hn h := rfl
theorem wR_hs (h : St) (r k v : Nat) : hs (wR h r k v) = hs h := rfl
theorem wR_hr (h : St) (r k v q j : Nat) : hr (wR h r k v) q j = if q = r ∧ j = k then v else hr h q j := rfl
def NwD (h g : St) (q o k n : Nat) (kd : Nat × Nat) : Prop := hn g = q + 1 ∧ hs g = hs h + n ∧ hk g q = kd ∧ hr g o k = q ∧ (∀ r, r ≠ q → hk g r = hk h r) ∧ (∀ r j, r ≠ q → ¬ (r = o ∧ j = k) → hr g r j = hr h r j) ∧ (∀ r, r ≠ q → hi g r = hi h r) ∧ (∀ r, r ≠ q → hl g r = hl h r) ∧ (∀ j, hi g q j = 0) ∧ (∀ j, hl g q j = 0) ∧ ∀ j, hr g q j = 0
theorem nw_is {q o k n : Nat} {kd : Nat × Nat} (hq : hn h = q) (hoq : o ≠ q) : NwD h (wR (wN h kd n) o k (hn h)) q o k n kd := by
  subst hq
  refine ⟨rfl, rfl, ?_, ?_, fun r h1 => ?_, fun r j h1 h2 => ?_, fun r h1 => ?_, fun r h1 => ?_, fun j => ?_, fun j => ?_, fun j => ?_⟩
  · rw [wR_hk]; exact wN_hk'
  · rw [wR_hr, if_pos ⟨rfl, rfl⟩]
  · rw [wR_hk]; exact wN_hk h1
  · rw [wR_hr, if_neg h2, wN_hr h1]
  · rw [wR_hi]; exact wN_hi h1
  · rw [wR_hl]; exact wN_hl h1
  · rw [wR_hi, wN_hi']
  · rw [wR_hl, wN_hl']
  · rw [wR_hr, if_neg (fun z => hoq z.1.symm), wN_hr']
theorem n_arr {α : Type} (f : Fr) {cl k t n o q : Nat} (hq : hn h = q) (ho : gR f 0 = o) (hk0 : (hk h o).1 = cl) (hoq : o ≠ q) (hn1 : n ≤ 16777216) : ∃ g, (dP (fR cl k) (vR 0) (dNewA t (cI (nI n))) : Sm α) f h = some (.inl 0, f, g) ∧ NwD h g q o k n (13 + t, n) := by
  have e1 : (nI n).toNatClampNeg = n := nI_clamp (by omega)
  have e2 : 0 ≤ nI n := nI_pos' (by omega)
  refine ⟨wR (wN h (13 + t, n) n) o k (hn h), ?_, nw_is hq hoq⟩
  have e3 : (hk (wN h (13 + t, n) n) o).1 = cl := by rw [wN_hk (by omega)]; exact hk0
  have e4 : fR cl k o (hn h) (wN h (13 + t, n) n) = some (wR (wN h (13 + t, n) n) o k (hn h)) := by
    unfold fR
    rw [if_pos e3]
  rw [e_P, e_vR, ob_t, e_kPa, e_NewA, e_cI, ob_t, e_NewA_a, e1, if_pos ⟨e2, hn1⟩, ob_t, e_kPb, ho, e4, ob_t]
  rfl
end
