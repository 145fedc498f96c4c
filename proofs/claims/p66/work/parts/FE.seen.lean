set_option maxRecDepth 100000
set_option maxHeartbeats 1000000
/-! DAYS that tell most: the class; the model's counts -/
def ctSn (fH : Nat) (t : Nat → Nat) (y : Nat) : Nat := fb_ct (fun x => fH.testBit x && decide (t x = y)) 8
def ocS (P : PT) (s : Nat) (val : Nat → Int64) (n2 k d y : Nat) : Nat := fb_ct (fun x => asS val (lyT P s x) n2 && decide (lyT P s x d = y)) k
theorem ocS_y {P : PT} {s n2 k d y : Nat} {val : Nat → Int64} (h : asS val (lyT P s k) n2 = true) : ocS P s val n2 (k + 1) d y = ocS P s val n2 k d y + if lyT P s k d = y then 1 else 0 := by
  unfold ocS
  rw [fb_ct_succ]
  congr 1
  rw [h]
  by_cases z : lyT P s k d = y
  · rw [if_pos z, decide_eq_true z]; rfl
  · rw [if_neg z, decide_eq_false z]; rfl
theorem ocS_n {P : PT} {s n2 k d y : Nat} {val : Nat → Int64} (h : asS val (lyT P s k) n2 = false) : ocS P s val n2 (k + 1) d y = ocS P s val n2 k d y := by
  unfold ocS
  rw [fb_ct_succ, h]
  rfl
theorem ocS_le (P : PT) (s n2 k d y : Nat) (val : Nat → Int64) : ocS P s val n2 k d y ≤ k := fb_ct_le _ _
theorem ct_cut (p q : Nat → Bool) {m : Nat} : ∀ n, fb_ct (fun x => decide (x < m) && q x) (m + n) = fb_ct q m := by
  intro n
  induction n with
  | zero => exact fb_ct_cong (fun k hk => by rw [decide_eq_true (show k < m from hk)]; rfl)
  | succ n ih =>
    rw [← Nat.add_assoc, fb_ct_succ, ih, decide_eq_false (by omega)]
    rfl
theorem cn_oc {P : PT} (hW : WFP P) (s n2 d y : Nat) (val : Nat → Int64) : ctSn (fhN P s val n2 (P 0 4)) (fun x => lyT P s x d) y = ocS P s val n2 (P 0 4) d y := by
  have hb := hW.all
  unfold ctSn ocS
  have h := ct_cut (fun _ => true) (fun x => asS val (lyT P s x) n2 && decide (lyT P s x d = y)) (m := P 0 4) (8 - P 0 4)
  rw [show P 0 4 + (8 - P 0 4) = 8 by omega] at h
  rw [← h]
  exact fb_ct_cong (fun k _ => by rw [fh_bit]; cases decide (k < P 0 4) <;> cases asS val (lyT P s k) n2 <;> rfl)
theorem gM_0 {f : Nat → Nat} {m : Nat} (h : ∀ k, m ≤ k → f k = 0) : ∀ n, gM f (m + n) = gM f m := by
  intro n
  induction n with
  | zero => rfl
  | succ n ih =>
    show (if gM f (m + n) < f (m + n) then f (m + n) else gM f (m + n)) = _
    rw [h (m + n) (by omega), if_neg (Nat.not_lt_zero _), ih]
theorem gM_cong {f g : Nat → Nat} : ∀ n, (∀ k, k < n → f k = g k) → gM f n = gM g n := by
  intro n
  induction n with
  | zero => intro _; rfl
  | succ n ih =>
    intro h
    show (if gM f n < f n then f n else gM f n) = (if gM g n < g n then g n else gM g n)
    rw [ih (fun k hk => h k (by omega)), h n (by omega)]
theorem lA_eq (b : Nat) (f : Nat → Nat) : ∀ n, (lA b f n = 0 → lM b f n = b) ∧ (lA b f n ≠ 0 → lM b f n = f (lA b f n - 1)) := by
  intro n
  induction n with
  | zero => exact ⟨fun _ => rfl, fun q => absurd rfl q⟩
  | succ n ih =>
    show ((if f n < lM b f n then n + 1 else lA b f n) = 0 → (if f n < lM b f n then f n else lM b f n) = b) ∧ ((if f n < lM b f n then n + 1 else lA b f n) ≠ 0 → (if f n < lM b f n then f n else lM b f n) = f ((if f n < lM b f n then n + 1 else lA b f n) - 1))
    by_cases z : f n < lM b f n
    · rw [if_pos z, if_pos z]
      exact ⟨fun q => absurd q (by omega), fun _ => rfl⟩
    · rw [if_neg z, if_neg z]
      exact ih
theorem lM_y {b : Nat} {f : Nat → Nat} {k : Nat} (z : f k < lM b f k) : lM b f (k + 1) = f k ∧ lA b f (k + 1) = k + 1 := ⟨if_pos z, if_pos z⟩
theorem lM_n {b : Nat} {f : Nat → Nat} {k : Nat} (z : ¬ f k < lM b f k) : lM b f (k + 1) = lM b f k ∧ lA b f (k + 1) = lA b f k := ⟨if_neg z, if_neg z⟩
theorem gM_y {f : Nat → Nat} {k : Nat} (z : gM f k < f k) : gM f (k + 1) = f k := if_pos z
theorem gM_n {f : Nat → Nat} {k : Nat} (z : ¬ gM f k < f k) : gM f (k + 1) = gM f k := if_neg z
section
variable {W : St} {h g : St} {P : PT} {u w n s : Nat} {val : Nat → Int64}
def woS (fH : Nat) (t : Nat → Nat → Nat) (d : Nat) : Nat := gM (ctSn fH (fun x => t x d)) 8
theorem woS_le (fH : Nat) (t : Nat → Nat → Nat) (d : Nat) : woS fH t d ≤ 8 := gM_le (fun k => fb_ct_le _ _) 8
end
