set_option maxRecDepth 100000
set_option maxHeartbeats 4000000
/-! reads of a heap that was written to -/
theorem w_hr (h : St) (r k : Nat) (v : Int32) : hr (wI h r k v) = hr h := id rfl
theorem w_hk (h : St) (r k : Nat) (v : Int32) : hk (wI h r k v) = hk h := id rfl
theorem w_hl (h : St) (r k : Nat) (v : Int32) : hl (wI h r k v) = hl h := id rfl
theorem w_eq (h : St) (r k : Nat) (v : Int32) : hi (wI h r k v) r k = v := by rw [wI_hi, if_pos ⟨rfl, rfl⟩]
theorem w_ne {o r j k : Nat} (q : ¬ o = r ∨ ¬ j = k) (h : St) (v : Int32) : hi (wI h r k v) o j = hi h o j := by rw [wI_hi, if_neg (by omega)]
theorem wl_hr (h : St) (r k : Nat) (v : Int64) : hr (wL h r k v) = hr h := id rfl
theorem wl_hk (h : St) (r k : Nat) (v : Int64) : hk (wL h r k v) = hk h := id rfl
theorem wl_hi (h : St) (r k : Nat) (v : Int64) : hi (wL h r k v) = hi h := id rfl
theorem wl_eq (h : St) (r k : Nat) (v : Int64) : hl (wL h r k v) r k = v := by rw [wL_hl, if_pos ⟨rfl, rfl⟩]
theorem wl_ne {o r j k : Nat} (q : ¬ o = r ∨ ¬ j = k) (h : St) (v : Int64) : hl (wL h r k v) o j = hl h o j := by rw [wL_hl, if_neg (by omega)]
theorem f_ss (f : Fr) (k : Nat) (v w : Int32) : sI (sI f k v) k w = sI f k w := by
  unfold sI
  refine Prod.ext (funext fun j => ?_) rfl
  show (if j = k then w else if j = k then v else f.1 j) = if j = k then w else f.1 j
  by_cases z : j = k
  · rw [if_pos z, if_pos z]
  · rw [if_neg z, if_neg z, if_neg z]
theorem f_sL (f : Fr) (k : Nat) (v w : Int64) : sL (sL f k v) k w = sL f k w := by
  unfold sL
  refine Prod.ext rfl (Prod.ext (funext fun j => ?_) rfl)
  show (if j = k then w else if j = k then v else f.2.1 j) = if j = k then w else f.2.1 j
  by_cases z : j = k
  · rw [if_pos z, if_pos z]
  · rw [if_neg z, if_neg z, if_neg z]
theorem f_sR (f : Fr) (k : Nat) (v w : Nat) : sR (sR f k v) k w = sR f k w := by
  unfold sR
  refine Prod.ext rfl (Prod.ext rfl (funext fun j => ?_))
  show (if j = k then w else if j = k then v else f.2.2 j) = if j = k then w else f.2.2 j
  by_cases z : j = k
  · rw [if_pos z, if_pos z]
  · rw [if_neg z, if_neg z, if_neg z]
theorem lc01 (c : Prop) (d : Decidable c) : ((@ite _ c d (nI 1) (nI 0)) = nI 0 ∨ (@ite _ c d (nI 1) (nI 0)) = nI 1) = True := b01 c d
theorem lc0 (c : Prop) (d : Decidable c) : ((@ite _ c d (nI 1) (nI 0)) = nI 0) = ¬ c := b0 c d
theorem lc1 (c : Prop) (d : Decidable c) : ((@ite _ c d (nI 1) (nI 0)) = nI 1) = c := b1 c d
