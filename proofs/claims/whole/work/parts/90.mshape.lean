set_option maxRecDepth 100000
set_option maxHeartbeats 1000000
/-! the model's object: its shape -/
def mK : List (Nat × Nat) := [(13, 4), (13, 4), (16, 240), (16, 60), (14, 800), (13, 5), (13, 45), (13, 40), (13, 120), (13, 50), (13, 15), (13, 15), (13, 90), (13, 240), (13, 400), (15, 3), (13, 3), (13, 3), (13, 65), (13, 39), (13, 39), (13, 312), (13, 5), (13, 3), (13, 3), (13, 3), (13, 24), (13, 32), (13, 32), (13, 32), (13, 8), (13, 9), (13, 2048), (13, 2048), (13, 104)]
def mF : List Nat := [1, 2, 3, 4, 5, 16, 17, 18, 19, 20, 21, 22, 23, 24, 25, 26, 31, 32, 33, 34, 35, 36, 37, 38, 39, 40, 41, 42, 43, 44, 47, 48, 49, 50, 54]
def MS (h : St) (m : Nat) : Prop := 31 ≤ m ∧ hk h m = (12, 0) ∧ (∀ j, j < 35 → hk h (m + 1 + j) = mK.getD j (0, 0)) ∧ ∀ j, j < 35 → hr h m (mF.getD j 0) = m + 1 + j
theorem MS.k {h : St} {m : Nat} (H : MS h m) : hk h m = (12, 0) := H.2.1
theorem MS.k1 {h : St} {m : Nat} (H : MS h m) : hk h (m + 1) = (13, 4) := by have := H.2.2.1 0 (by decide); rw [show m + 1 + 0 = m + 1 by omega] at this; exact this
theorem MS.r1 {h : St} {m : Nat} (H : MS h m) : hr h m 1 = m + 1 := by have := H.2.2.2 0 (by decide); rw [show m + 1 + 0 = m + 1 by omega] at this; exact this
theorem MS.k2 {h : St} {m : Nat} (H : MS h m) : hk h (m + 2) = (13, 4) := by have := H.2.2.1 1 (by decide); rw [show m + 1 + 1 = m + 2 by omega] at this; exact this
theorem MS.r2 {h : St} {m : Nat} (H : MS h m) : hr h m 2 = m + 2 := by have := H.2.2.2 1 (by decide); rw [show m + 1 + 1 = m + 2 by omega] at this; exact this
theorem MS.k3 {h : St} {m : Nat} (H : MS h m) : hk h (m + 3) = (16, 240) := by have := H.2.2.1 2 (by decide); rw [show m + 1 + 2 = m + 3 by omega] at this; exact this
theorem MS.r3 {h : St} {m : Nat} (H : MS h m) : hr h m 3 = m + 3 := by have := H.2.2.2 2 (by decide); rw [show m + 1 + 2 = m + 3 by omega] at this; exact this
theorem MS.k4 {h : St} {m : Nat} (H : MS h m) : hk h (m + 4) = (16, 60) := by have := H.2.2.1 3 (by decide); rw [show m + 1 + 3 = m + 4 by omega] at this; exact this
theorem MS.r4 {h : St} {m : Nat} (H : MS h m) : hr h m 4 = m + 4 := by have := H.2.2.2 3 (by decide); rw [show m + 1 + 3 = m + 4 by omega] at this; exact this
theorem MS.k5 {h : St} {m : Nat} (H : MS h m) : hk h (m + 5) = (14, 800) := by have := H.2.2.1 4 (by decide); rw [show m + 1 + 4 = m + 5 by omega] at this; exact this
theorem MS.r5 {h : St} {m : Nat} (H : MS h m) : hr h m 5 = m + 5 := by have := H.2.2.2 4 (by decide); rw [show m + 1 + 4 = m + 5 by omega] at this; exact this
theorem MS.k6 {h : St} {m : Nat} (H : MS h m) : hk h (m + 6) = (13, 5) := by have := H.2.2.1 5 (by decide); rw [show m + 1 + 5 = m + 6 by omega] at this; exact this
theorem MS.r16 {h : St} {m : Nat} (H : MS h m) : hr h m 16 = m + 6 := by have := H.2.2.2 5 (by decide); rw [show m + 1 + 5 = m + 6 by omega] at this; exact this
theorem MS.k7 {h : St} {m : Nat} (H : MS h m) : hk h (m + 7) = (13, 45) := by have := H.2.2.1 6 (by decide); rw [show m + 1 + 6 = m + 7 by omega] at this; exact this
theorem MS.r17 {h : St} {m : Nat} (H : MS h m) : hr h m 17 = m + 7 := by have := H.2.2.2 6 (by decide); rw [show m + 1 + 6 = m + 7 by omega] at this; exact this
theorem MS.k8 {h : St} {m : Nat} (H : MS h m) : hk h (m + 8) = (13, 40) := by have := H.2.2.1 7 (by decide); rw [show m + 1 + 7 = m + 8 by omega] at this; exact this
theorem MS.r18 {h : St} {m : Nat} (H : MS h m) : hr h m 18 = m + 8 := by have := H.2.2.2 7 (by decide); rw [show m + 1 + 7 = m + 8 by omega] at this; exact this
theorem MS.k9 {h : St} {m : Nat} (H : MS h m) : hk h (m + 9) = (13, 120) := by have := H.2.2.1 8 (by decide); rw [show m + 1 + 8 = m + 9 by omega] at this; exact this
theorem MS.r19 {h : St} {m : Nat} (H : MS h m) : hr h m 19 = m + 9 := by have := H.2.2.2 8 (by decide); rw [show m + 1 + 8 = m + 9 by omega] at this; exact this
theorem MS.k10 {h : St} {m : Nat} (H : MS h m) : hk h (m + 10) = (13, 50) := by have := H.2.2.1 9 (by decide); rw [show m + 1 + 9 = m + 10 by omega] at this; exact this
theorem MS.r20 {h : St} {m : Nat} (H : MS h m) : hr h m 20 = m + 10 := by have := H.2.2.2 9 (by decide); rw [show m + 1 + 9 = m + 10 by omega] at this; exact this
theorem MS.k11 {h : St} {m : Nat} (H : MS h m) : hk h (m + 11) = (13, 15) := by have := H.2.2.1 10 (by decide); rw [show m + 1 + 10 = m + 11 by omega] at this; exact this
theorem MS.r21 {h : St} {m : Nat} (H : MS h m) : hr h m 21 = m + 11 := by have := H.2.2.2 10 (by decide); rw [show m + 1 + 10 = m + 11 by omega] at this; exact this
theorem MS.k12 {h : St} {m : Nat} (H : MS h m) : hk h (m + 12) = (13, 15) := by have := H.2.2.1 11 (by decide); rw [show m + 1 + 11 = m + 12 by omega] at this; exact this
theorem MS.r22 {h : St} {m : Nat} (H : MS h m) : hr h m 22 = m + 12 := by have := H.2.2.2 11 (by decide); rw [show m + 1 + 11 = m + 12 by omega] at this; exact this
theorem MS.k13 {h : St} {m : Nat} (H : MS h m) : hk h (m + 13) = (13, 90) := by have := H.2.2.1 12 (by decide); rw [show m + 1 + 12 = m + 13 by omega] at this; exact this
theorem MS.r23 {h : St} {m : Nat} (H : MS h m) : hr h m 23 = m + 13 := by have := H.2.2.2 12 (by decide); rw [show m + 1 + 12 = m + 13 by omega] at this; exact this
theorem MS.k14 {h : St} {m : Nat} (H : MS h m) : hk h (m + 14) = (13, 240) := by have := H.2.2.1 13 (by decide); rw [show m + 1 + 13 = m + 14 by omega] at this; exact this
theorem MS.r24 {h : St} {m : Nat} (H : MS h m) : hr h m 24 = m + 14 := by have := H.2.2.2 13 (by decide); rw [show m + 1 + 13 = m + 14 by omega] at this; exact this
theorem MS.k15 {h : St} {m : Nat} (H : MS h m) : hk h (m + 15) = (13, 400) := by have := H.2.2.1 14 (by decide); rw [show m + 1 + 14 = m + 15 by omega] at this; exact this
theorem MS.r25 {h : St} {m : Nat} (H : MS h m) : hr h m 25 = m + 15 := by have := H.2.2.2 14 (by decide); rw [show m + 1 + 14 = m + 15 by omega] at this; exact this
theorem MS.k16 {h : St} {m : Nat} (H : MS h m) : hk h (m + 16) = (15, 3) := by have := H.2.2.1 15 (by decide); rw [show m + 1 + 15 = m + 16 by omega] at this; exact this
theorem MS.r26 {h : St} {m : Nat} (H : MS h m) : hr h m 26 = m + 16 := by have := H.2.2.2 15 (by decide); rw [show m + 1 + 15 = m + 16 by omega] at this; exact this
theorem MS.k17 {h : St} {m : Nat} (H : MS h m) : hk h (m + 17) = (13, 3) := by have := H.2.2.1 16 (by decide); rw [show m + 1 + 16 = m + 17 by omega] at this; exact this
theorem MS.r31 {h : St} {m : Nat} (H : MS h m) : hr h m 31 = m + 17 := by have := H.2.2.2 16 (by decide); rw [show m + 1 + 16 = m + 17 by omega] at this; exact this
theorem MS.k18 {h : St} {m : Nat} (H : MS h m) : hk h (m + 18) = (13, 3) := by have := H.2.2.1 17 (by decide); rw [show m + 1 + 17 = m + 18 by omega] at this; exact this
theorem MS.r32 {h : St} {m : Nat} (H : MS h m) : hr h m 32 = m + 18 := by have := H.2.2.2 17 (by decide); rw [show m + 1 + 17 = m + 18 by omega] at this; exact this
theorem MS.k19 {h : St} {m : Nat} (H : MS h m) : hk h (m + 19) = (13, 65) := by have := H.2.2.1 18 (by decide); rw [show m + 1 + 18 = m + 19 by omega] at this; exact this
theorem MS.r33 {h : St} {m : Nat} (H : MS h m) : hr h m 33 = m + 19 := by have := H.2.2.2 18 (by decide); rw [show m + 1 + 18 = m + 19 by omega] at this; exact this
theorem MS.k20 {h : St} {m : Nat} (H : MS h m) : hk h (m + 20) = (13, 39) := by have := H.2.2.1 19 (by decide); rw [show m + 1 + 19 = m + 20 by omega] at this; exact this
theorem MS.r34 {h : St} {m : Nat} (H : MS h m) : hr h m 34 = m + 20 := by have := H.2.2.2 19 (by decide); rw [show m + 1 + 19 = m + 20 by omega] at this; exact this
theorem MS.k21 {h : St} {m : Nat} (H : MS h m) : hk h (m + 21) = (13, 39) := by have := H.2.2.1 20 (by decide); rw [show m + 1 + 20 = m + 21 by omega] at this; exact this
theorem MS.r35 {h : St} {m : Nat} (H : MS h m) : hr h m 35 = m + 21 := by have := H.2.2.2 20 (by decide); rw [show m + 1 + 20 = m + 21 by omega] at this; exact this
theorem MS.k22 {h : St} {m : Nat} (H : MS h m) : hk h (m + 22) = (13, 312) := by have := H.2.2.1 21 (by decide); rw [show m + 1 + 21 = m + 22 by omega] at this; exact this
theorem MS.r36 {h : St} {m : Nat} (H : MS h m) : hr h m 36 = m + 22 := by have := H.2.2.2 21 (by decide); rw [show m + 1 + 21 = m + 22 by omega] at this; exact this
theorem MS.k23 {h : St} {m : Nat} (H : MS h m) : hk h (m + 23) = (13, 5) := by have := H.2.2.1 22 (by decide); rw [show m + 1 + 22 = m + 23 by omega] at this; exact this
theorem MS.r37 {h : St} {m : Nat} (H : MS h m) : hr h m 37 = m + 23 := by have := H.2.2.2 22 (by decide); rw [show m + 1 + 22 = m + 23 by omega] at this; exact this
theorem MS.k24 {h : St} {m : Nat} (H : MS h m) : hk h (m + 24) = (13, 3) := by have := H.2.2.1 23 (by decide); rw [show m + 1 + 23 = m + 24 by omega] at this; exact this
theorem MS.r38 {h : St} {m : Nat} (H : MS h m) : hr h m 38 = m + 24 := by have := H.2.2.2 23 (by decide); rw [show m + 1 + 23 = m + 24 by omega] at this; exact this
theorem MS.k25 {h : St} {m : Nat} (H : MS h m) : hk h (m + 25) = (13, 3) := by have := H.2.2.1 24 (by decide); rw [show m + 1 + 24 = m + 25 by omega] at this; exact this
theorem MS.r39 {h : St} {m : Nat} (H : MS h m) : hr h m 39 = m + 25 := by have := H.2.2.2 24 (by decide); rw [show m + 1 + 24 = m + 25 by omega] at this; exact this
theorem MS.k26 {h : St} {m : Nat} (H : MS h m) : hk h (m + 26) = (13, 3) := by have := H.2.2.1 25 (by decide); rw [show m + 1 + 25 = m + 26 by omega] at this; exact this
theorem MS.r40 {h : St} {m : Nat} (H : MS h m) : hr h m 40 = m + 26 := by have := H.2.2.2 25 (by decide); rw [show m + 1 + 25 = m + 26 by omega] at this; exact this
theorem MS.k27 {h : St} {m : Nat} (H : MS h m) : hk h (m + 27) = (13, 24) := by have := H.2.2.1 26 (by decide); rw [show m + 1 + 26 = m + 27 by omega] at this; exact this
theorem MS.r41 {h : St} {m : Nat} (H : MS h m) : hr h m 41 = m + 27 := by have := H.2.2.2 26 (by decide); rw [show m + 1 + 26 = m + 27 by omega] at this; exact this
theorem MS.k28 {h : St} {m : Nat} (H : MS h m) : hk h (m + 28) = (13, 32) := by have := H.2.2.1 27 (by decide); rw [show m + 1 + 27 = m + 28 by omega] at this; exact this
theorem MS.r42 {h : St} {m : Nat} (H : MS h m) : hr h m 42 = m + 28 := by have := H.2.2.2 27 (by decide); rw [show m + 1 + 27 = m + 28 by omega] at this; exact this
theorem MS.k29 {h : St} {m : Nat} (H : MS h m) : hk h (m + 29) = (13, 32) := by have := H.2.2.1 28 (by decide); rw [show m + 1 + 28 = m + 29 by omega] at this; exact this
theorem MS.r43 {h : St} {m : Nat} (H : MS h m) : hr h m 43 = m + 29 := by have := H.2.2.2 28 (by decide); rw [show m + 1 + 28 = m + 29 by omega] at this; exact this
theorem MS.k30 {h : St} {m : Nat} (H : MS h m) : hk h (m + 30) = (13, 32) := by have := H.2.2.1 29 (by decide); rw [show m + 1 + 29 = m + 30 by omega] at this; exact this
theorem MS.r44 {h : St} {m : Nat} (H : MS h m) : hr h m 44 = m + 30 := by have := H.2.2.2 29 (by decide); rw [show m + 1 + 29 = m + 30 by omega] at this; exact this
theorem MS.k31 {h : St} {m : Nat} (H : MS h m) : hk h (m + 31) = (13, 8) := by have := H.2.2.1 30 (by decide); rw [show m + 1 + 30 = m + 31 by omega] at this; exact this
theorem MS.r47 {h : St} {m : Nat} (H : MS h m) : hr h m 47 = m + 31 := by have := H.2.2.2 30 (by decide); rw [show m + 1 + 30 = m + 31 by omega] at this; exact this
theorem MS.k32 {h : St} {m : Nat} (H : MS h m) : hk h (m + 32) = (13, 9) := by have := H.2.2.1 31 (by decide); rw [show m + 1 + 31 = m + 32 by omega] at this; exact this
theorem MS.r48 {h : St} {m : Nat} (H : MS h m) : hr h m 48 = m + 32 := by have := H.2.2.2 31 (by decide); rw [show m + 1 + 31 = m + 32 by omega] at this; exact this
theorem MS.k33 {h : St} {m : Nat} (H : MS h m) : hk h (m + 33) = (13, 2048) := by have := H.2.2.1 32 (by decide); rw [show m + 1 + 32 = m + 33 by omega] at this; exact this
theorem MS.r49 {h : St} {m : Nat} (H : MS h m) : hr h m 49 = m + 33 := by have := H.2.2.2 32 (by decide); rw [show m + 1 + 32 = m + 33 by omega] at this; exact this
theorem MS.k34 {h : St} {m : Nat} (H : MS h m) : hk h (m + 34) = (13, 2048) := by have := H.2.2.1 33 (by decide); rw [show m + 1 + 33 = m + 34 by omega] at this; exact this
theorem MS.r50 {h : St} {m : Nat} (H : MS h m) : hr h m 50 = m + 34 := by have := H.2.2.2 33 (by decide); rw [show m + 1 + 33 = m + 34 by omega] at this; exact this
theorem MS.k35 {h : St} {m : Nat} (H : MS h m) : hk h (m + 35) = (13, 104) := by have := H.2.2.1 34 (by decide); rw [show m + 1 + 34 = m + 35 by omega] at this; exact this
theorem MS.r54 {h : St} {m : Nat} (H : MS h m) : hr h m 54 = m + 35 := by have := H.2.2.2 34 (by decide); rw [show m + 1 + 34 = m + 35 by omega] at this; exact this
theorem MS.to {h h' : St} {m : Nat} (H : MS h m) (k : SH h h') : MS h' m := by
  unfold MS
  rw [k.1, k.2.1]
  exact H
