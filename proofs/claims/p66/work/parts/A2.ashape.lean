set_option maxRecDepth 100000
set_option maxHeartbeats 1000000
/-! the class's Alone: its shape -/
def alL (j : Nat) : Nat := [8, 8, 8, 8, 9, 9, 8, 256, 2048, 201, 3073, 3073].getD j 0
def alF (j : Nat) : Nat := [0, 1, 2, 3, 4, 5, 6, 7, 8, 10, 11, 12].getD j 0
def AS (h : St) (a : Nat) : Prop := 31 ≤ a ∧ hk h a = (0, 0) ∧ (∀ j, j < 12 → hk h (a + 1 + j) = (13, alL j)) ∧ ∀ j, j < 12 → hr h a (alF j) = a + 1 + j
theorem AS.k {h : St} {a : Nat} (H : AS h a) : hk h a = (0, 0) := H.2.1
theorem AS.k1 {h : St} {a : Nat} (H : AS h a) : hk h (a + 1) = (13, 8) := by have := H.2.2.1 0 (by decide); rw [show a + 1 + 0 = a + 1 by omega] at this; exact this
theorem AS.r0 {h : St} {a : Nat} (H : AS h a) : hr h a 0 = a + 1 := by have := H.2.2.2 0 (by decide); rw [show a + 1 + 0 = a + 1 by omega] at this; exact this
theorem AS.k2 {h : St} {a : Nat} (H : AS h a) : hk h (a + 2) = (13, 8) := by have := H.2.2.1 1 (by decide); rw [show a + 1 + 1 = a + 2 by omega] at this; exact this
theorem AS.r1 {h : St} {a : Nat} (H : AS h a) : hr h a 1 = a + 2 := by have := H.2.2.2 1 (by decide); rw [show a + 1 + 1 = a + 2 by omega] at this; exact this
theorem AS.k3 {h : St} {a : Nat} (H : AS h a) : hk h (a + 3) = (13, 8) := by have := H.2.2.1 2 (by decide); rw [show a + 1 + 2 = a + 3 by omega] at this; exact this
theorem AS.r2 {h : St} {a : Nat} (H : AS h a) : hr h a 2 = a + 3 := by have := H.2.2.2 2 (by decide); rw [show a + 1 + 2 = a + 3 by omega] at this; exact this
theorem AS.k4 {h : St} {a : Nat} (H : AS h a) : hk h (a + 4) = (13, 8) := by have := H.2.2.1 3 (by decide); rw [show a + 1 + 3 = a + 4 by omega] at this; exact this
theorem AS.r3 {h : St} {a : Nat} (H : AS h a) : hr h a 3 = a + 4 := by have := H.2.2.2 3 (by decide); rw [show a + 1 + 3 = a + 4 by omega] at this; exact this
theorem AS.k5 {h : St} {a : Nat} (H : AS h a) : hk h (a + 5) = (13, 9) := by have := H.2.2.1 4 (by decide); rw [show a + 1 + 4 = a + 5 by omega] at this; exact this
theorem AS.r4 {h : St} {a : Nat} (H : AS h a) : hr h a 4 = a + 5 := by have := H.2.2.2 4 (by decide); rw [show a + 1 + 4 = a + 5 by omega] at this; exact this
theorem AS.k6 {h : St} {a : Nat} (H : AS h a) : hk h (a + 6) = (13, 9) := by have := H.2.2.1 5 (by decide); rw [show a + 1 + 5 = a + 6 by omega] at this; exact this
theorem AS.r5 {h : St} {a : Nat} (H : AS h a) : hr h a 5 = a + 6 := by have := H.2.2.2 5 (by decide); rw [show a + 1 + 5 = a + 6 by omega] at this; exact this
theorem AS.k7 {h : St} {a : Nat} (H : AS h a) : hk h (a + 7) = (13, 8) := by have := H.2.2.1 6 (by decide); rw [show a + 1 + 6 = a + 7 by omega] at this; exact this
theorem AS.r6 {h : St} {a : Nat} (H : AS h a) : hr h a 6 = a + 7 := by have := H.2.2.2 6 (by decide); rw [show a + 1 + 6 = a + 7 by omega] at this; exact this
theorem AS.k8 {h : St} {a : Nat} (H : AS h a) : hk h (a + 8) = (13, 256) := by have := H.2.2.1 7 (by decide); rw [show a + 1 + 7 = a + 8 by omega] at this; exact this
theorem AS.r7 {h : St} {a : Nat} (H : AS h a) : hr h a 7 = a + 8 := by have := H.2.2.2 7 (by decide); rw [show a + 1 + 7 = a + 8 by omega] at this; exact this
theorem AS.k9 {h : St} {a : Nat} (H : AS h a) : hk h (a + 9) = (13, 2048) := by have := H.2.2.1 8 (by decide); rw [show a + 1 + 8 = a + 9 by omega] at this; exact this
theorem AS.r8 {h : St} {a : Nat} (H : AS h a) : hr h a 8 = a + 9 := by have := H.2.2.2 8 (by decide); rw [show a + 1 + 8 = a + 9 by omega] at this; exact this
theorem AS.k10 {h : St} {a : Nat} (H : AS h a) : hk h (a + 10) = (13, 201) := by have := H.2.2.1 9 (by decide); rw [show a + 1 + 9 = a + 10 by omega] at this; exact this
theorem AS.r10 {h : St} {a : Nat} (H : AS h a) : hr h a 10 = a + 10 := by have := H.2.2.2 9 (by decide); rw [show a + 1 + 9 = a + 10 by omega] at this; exact this
theorem AS.k11 {h : St} {a : Nat} (H : AS h a) : hk h (a + 11) = (13, 3073) := by have := H.2.2.1 10 (by decide); rw [show a + 1 + 10 = a + 11 by omega] at this; exact this
theorem AS.r11 {h : St} {a : Nat} (H : AS h a) : hr h a 11 = a + 11 := by have := H.2.2.2 10 (by decide); rw [show a + 1 + 10 = a + 11 by omega] at this; exact this
theorem AS.k12 {h : St} {a : Nat} (H : AS h a) : hk h (a + 12) = (13, 3073) := by have := H.2.2.1 11 (by decide); rw [show a + 1 + 11 = a + 12 by omega] at this; exact this
theorem AS.r12 {h : St} {a : Nat} (H : AS h a) : hr h a 12 = a + 12 := by have := H.2.2.2 11 (by decide); rw [show a + 1 + 11 = a + 12 by omega] at this; exact this
theorem AS.ne {h : St} {a : Nat} (H : AS h a) (j : Nat) : a + j ≠ 0 := by have := H.1; omega
theorem AS.to {h h' : St} {a : Nat} (H : AS h a) (k : SH h h') : AS h' a := by
  unfold AS
  rw [k.1, k.2.1]
  exact H
