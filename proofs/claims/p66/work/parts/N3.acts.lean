set_option maxRecDepth 100000
set_option maxHeartbeats 3000000
/-! the law's acts: a word rubbed out, a CARRY besides -/
theorem ruN_c {P P' : PT} (s : Nat) : ∀ n, (∀ j, j < n → P' 15 j = P 15 j ∧ P' 14 j = P 14 j) → ruN P' s n = ruN P s n
  | 0, _ => rfl
  | n + 1, h => by
    unfold ruN
    rw [ruN_c s n (fun j hj => h j (by omega)), (h n (by omega)).1, (h n (by omega)).2]
theorem clr_or (a b c : Nat) (ha : a < 2 ^ 31) : clr a (b ||| c) = clr (clr a b) c := by
  refine Nat.eq_of_testBit_eq fun j => ?_
  by_cases y : j < 31
  · rw [clr_bit _ _ y, clr_bit _ _ y, clr_bit _ _ y, Nat.testBit_or]
    cases a.testBit j <;> cases b.testBit j <;> cases c.testBit j <;> rfl
  · have p : 2 ^ 31 ≤ 2 ^ j := Nat.pow_le_pow_right (by decide) (by omega)
    have e1 := clr_le a (b ||| c)
    have e2 := clr_le (clr a b) c
    have e3 := clr_le a b
    rw [Nat.testBit_lt_two_pow (by omega), Nat.testBit_lt_two_pow (by omega)]
section
variable {L : Nat} {xs : Nat → Int32} {h g : St} {P C : PT} {a b : Nat}
theorem lf0_rub (hW : WFP P) {s i t : Nat} (ht : t < P 0 7) : lf0 (rubP P s i) t = if t = s then clr (lf0 P s) (2 ^ i) else lf0 P t := by
  have aw := allW_lt hW ht
  have e7 : allW (rubP P s i) t = allW P t := by unfold allW; rw [rubP_lo _ _ _ _ (Or.inl (by decide))]
  have e9 : rubP P s i 9 2 = P 9 2 + 1 := up_eq _ _ _ _
  have e15 : rubP P s i 15 (P 9 2) = i + 1 := by
    unfold rubP
    rw [up_o _ _ (by omega), up_eq]
  have e14 : rubP P s i 14 (P 9 2) = s + 1 := by
    unfold rubP
    rw [up_o _ _ (by omega), up_o _ _ (by omega), up_eq]
  have er : ruN (rubP P s i) t (P 9 2) = ruN P t (P 9 2) := ruN_c t _ (fun j hj => ⟨rubP_lo _ _ _ _ (by omega), rubP_lo _ _ _ _ (by omega)⟩)
  unfold lf0
  rw [e7, e9]
  show clr (allW P t) (ruN (rubP P s i) t (P 9 2) ||| if rubP P s i 15 (P 9 2) ≠ 0 ∧ rubP P s i 14 (P 9 2) = t + 1 then 2 ^ (rubP P s i 15 (P 9 2) - 1) else 0) = _
  rw [er, e15, e14]
  by_cases y : t = s
  · rw [if_pos y, if_pos ⟨Nat.succ_ne_zero _, by omega⟩, Nat.add_sub_cancel, y, clr_or]
    rw [← y]
    omega
  · rw [if_neg y, if_neg (fun z => y (by omega)), Nat.or_zero]
theorem lf0_car {m s w d t : Nat} : lf0 (carP P m s w d) t = lf0 P t := by
  have e7 : allW (carP P m s w d) t = allW P t := by unfold allW; rw [carP_lo _ _ _ _ _ _ (Or.inl (by decide))]
  have e9 : carP P m s w d 9 2 = P 9 2 + 1 := up_eq _ _ _ _
  have e15 : carP P m s w d 15 (P 9 2) = 0 := by
    unfold carP
    rw [up_o _ _ (by omega), up_o _ _ (by omega), up_eq]
  have er : ruN (carP P m s w d) t (P 9 2) = ruN P t (P 9 2) := ruN_c t _ (fun j hj => ⟨carP_lo _ _ _ _ _ _ (by omega), carP_lo _ _ _ _ _ _ (by omega)⟩)
  unfold lf0
  rw [e7, e9]
  show clr (allW P t) (ruN (carP P m s w d) t (P 9 2) ||| if carP P m s w d 15 (P 9 2) ≠ 0 ∧ carP P m s w d 14 (P 9 2) = t + 1 then 2 ^ (carP P m s w d 15 (P 9 2) - 1) else 0) = _
  rw [er, e15, if_neg (fun z => z.1 rfl), Nat.or_zero]
theorem fsS_told (P : PT) (s : Nat) : fsS P (told P) s = P 6 s := if_neg (Nat.succ_ne_zero s)
theorem LR.rub (H : LR h P (told P)) (hW : WFP P) {s i : Nat} (hs : s < P 0 7) : LR (wI h 129 (3 + s) (nI (clr (lf0 P s) (2 ^ i)))) (rubP P s i) (told (rubP P s i)) := by
  have hb := hW.all
  have r : ∀ {j k : Nat}, (j < 9 ∨ (10 ≤ j ∧ j ≤ 13) ∨ (j = 9 ∧ k ≠ 2)) → rubP P s i j k = P j k := fun q => rubP_lo _ _ _ _ (by omega)
  obtain ⟨⟨tf, a1, a2⟩, ⟨vf, b1, b2⟩, ⟨zf, c1, c2⟩, ⟨wf, d1, d2⟩, ⟨qf, e1, e2⟩, ⟨ff, f1, f2⟩, k, n⟩ := H
  refine ⟨⟨tf, a1.o (by decide) _ _, ?_⟩, ⟨vf, b1.o (by decide) _ _, fun x hx => ?_⟩, ⟨zf, c1.o (by decide) _ _, fun x hx => ?_⟩, ⟨wf, d1.o (by decide) _ _, fun x hx => ?_⟩, ⟨qf, e1.o (by decide) _ _, fun x hx => ?_⟩, ⟨_, f1.w _ _, fun t ht => ?_⟩, k, ?_⟩
  · unfold tR
    obtain ⟨t0, t1, t2, t3, t4, t5, t6, t7⟩ := a2
    rw [r (j := 0) (k := 1) (by omega), r (j := 0) (k := 4) (by omega), r (j := 0) (k := 6) (by omega), r (j := 0) (k := 7) (by omega), r (j := 9) (k := 1) (by omega)]
    refine ⟨t0, ?_, t2, t3, t4, t5, t6, t7⟩
    rw [t1]
    exact (r (j := 0) (k := 2) (by omega)).symm
  · rw [r (by omega)] at hx
    obtain ⟨u1, u2⟩ := b2 x hx
    refine ⟨by rw [r (by omega)]; exact u1, ?_⟩
    rw [u2]
    unfold doors
    rw [r (j := 0) (k := 5) (by omega)]
    exact (doN_c x 0 _ (fun w hw => ⟨r (by omega), r (by omega)⟩)).symm
  · rw [r (by omega)] at hx
    rw [r (by omega), r (by omega)]
    exact c2 x hx
  · rw [r (by omega)] at hx
    rw [r (by omega)]
    refine ⟨(d2 x hx).1, fun j hj => ?_⟩
    rw [r (by omega)]
    exact (d2 x hx).2 j hj
  · rw [r (by omega)] at hx
    rw [r (by omega), r (by omega), r (by omega), r (by omega)]
    exact e2 x hx
  · rw [r (by omega)] at ht
    obtain ⟨u1, u2⟩ := f2 t ht
    rw [fsS_told] at u1 ⊢
    rw [lf0_rub hW ht, r (by omega)]
    unfold fuN
    rw [if_neg (by omega)]
    refine ⟨u1, ?_⟩
    by_cases y : t = s
    · rw [if_pos y, if_pos (by omega)]
    · rw [if_neg y, if_neg (by omega)]
      exact u2
  · rw [r (by omega)]
    exact n
theorem LR.car (H : LR h P (told P)) (hW : WFP P) (hn1 : P 9 1 < 16) (m s w d : Nat) : LR (wI (wI (wI (wI (wI h 128 (4 * P 9 1) (nI m)) 128 (4 * P 9 1 + 1) (nI s)) 128 (4 * P 9 1 + 2) (nI w)) 128 (4 * P 9 1 + 3) (nI d)) 124 5 (nI (P 9 1 + 1))) (carP P m s w d) (told (carP P m s w d)) := by
  have hb := hW.all
  have r : ∀ {j k : Nat}, j < 9 → carP P m s w d j k = P j k := fun q => carP_lo _ _ _ _ _ _ (Or.inl q)
  have r91 : carP P m s w d 9 1 = P 9 1 + 1 := by
    unfold carP
    rw [up_o _ _ (by omega), up_eq]
  have c : Ch (fun o => o = 124 ∨ o = 128) h (wI (wI (wI (wI (wI h 128 (4 * P 9 1) (nI m)) 128 (4 * P 9 1 + 1) (nI s)) 128 (4 * P 9 1 + 2) (nI w)) 128 (4 * P 9 1 + 3) (nI d)) 124 5 (nI (P 9 1 + 1))) := ((((Ch.w (D := fun o => o = 124 ∨ o = 128) (Or.inr rfl) _ _ _).tr (Ch.w (D := fun o => o = 124 ∨ o = 128) (Or.inr rfl) _ _ _)).tr (Ch.w (D := fun o => o = 124 ∨ o = 128) (Or.inr rfl) _ _ _)).tr (Ch.w (D := fun o => o = 124 ∨ o = 128) (Or.inr rfl) _ _ _)).tr (Ch.w (D := fun o => o = 124 ∨ o = 128) (Or.inl rfl) _ _ _)
  obtain ⟨⟨tf, a1, a2⟩, ⟨vf, b1, b2⟩, ⟨zf, c1, c2⟩, ⟨wf, d1, d2⟩, ⟨qf, e1, e2⟩, ⟨ff, f1, f2⟩, k, n⟩ := H
  refine ⟨⟨fuN tf 5 (P 9 1 + 1), ((((a1.o (by decide) _ _).o (by decide) _ _).o (by decide) _ _).o (by decide) _ _).w _ _, ?_⟩, ⟨vf, b1.ch c (by omega), fun x hx => ?_⟩, ⟨zf, c1.ch c (by omega), fun x hx => ?_⟩, ⟨wf, d1.ch c (by omega), fun x hx => ?_⟩, ⟨fuN (fuN (fuN (fuN qf (4 * P 9 1) m) (4 * P 9 1 + 1) s) (4 * P 9 1 + 2) w) (4 * P 9 1 + 3) d, ((((e1.w _ _).w _ _).w _ _).w _ _).o (by decide) _ _, fun x hx => ?_⟩, ⟨ff, f1.ch c (by omega), fun t ht => ?_⟩, k, ?_⟩
  · unfold tR
    obtain ⟨t0, t1, t2, t3, t4, t5, t6, t7⟩ := a2
    rw [r (j := 0) (k := 1) (by omega), r (j := 0) (k := 4) (by omega), r (j := 0) (k := 6) (by omega), r (j := 0) (k := 7) (by omega), r91]
    refine ⟨t0, ?_, t2, t3, t4, rfl, t6, t7⟩
    show tf 1 = _
    rw [t1]
    exact (r (j := 0) (k := 2) (by omega)).symm
  · rw [r (by omega)] at hx
    obtain ⟨u1, u2⟩ := b2 x hx
    refine ⟨by rw [r (by omega)]; exact u1, ?_⟩
    rw [u2]
    unfold doors
    rw [r (j := 0) (k := 5) (by omega)]
    exact (doN_c x 0 _ (fun w hw => ⟨r (by omega), r (by omega)⟩)).symm
  · rw [r (by omega)] at hx
    rw [r (by omega), r (by omega)]
    exact c2 x hx
  · rw [r (by omega)] at hx
    rw [r (by omega)]
    refine ⟨(d2 x hx).1, fun j hj => ?_⟩
    rw [r (by omega)]
    exact (d2 x hx).2 j hj
  · rw [r91] at hx
    by_cases y : x = P 9 1
    · subst y
      have u10 : carP P m s w d 10 (P 9 1) = m := by unfold carP; rw [up_o _ _ (by omega), up_o _ _ (by omega), up_o _ _ (by omega), up_o _ _ (by omega), up_o _ _ (by omega), up_o _ _ (by omega), up_o _ _ (by omega), up_eq]
      have u11 : carP P m s w d 11 (P 9 1) = s := by unfold carP; rw [up_o _ _ (by omega), up_o _ _ (by omega), up_o _ _ (by omega), up_o _ _ (by omega), up_o _ _ (by omega), up_o _ _ (by omega), up_eq]
      have u12 : carP P m s w d 12 (P 9 1) = w := by unfold carP; rw [up_o _ _ (by omega), up_o _ _ (by omega), up_o _ _ (by omega), up_o _ _ (by omega), up_o _ _ (by omega), up_eq]
      have u13 : carP P m s w d 13 (P 9 1) = d := by unfold carP; rw [up_o _ _ (by omega), up_o _ _ (by omega), up_o _ _ (by omega), up_o _ _ (by omega), up_eq]
      rw [u10, u11, u12, u13]
      refine ⟨?_, ?_, ?_, if_pos rfl⟩
      · unfold fuN
        rw [if_neg (by omega), if_neg (by omega), if_neg (by omega), if_pos rfl]
      · unfold fuN
        rw [if_neg (by omega), if_neg (by omega), if_pos rfl]
      · unfold fuN
        rw [if_neg (by omega), if_pos rfl]
    · have fu : ∀ z, (∀ i, i < 4 → z ≠ 4 * P 9 1 + i) → fuN (fuN (fuN (fuN qf (4 * P 9 1) m) (4 * P 9 1 + 1) s) (4 * P 9 1 + 2) w) (4 * P 9 1 + 3) d z = qf z := fun z hz => by
        have i0 : z ≠ 4 * P 9 1 := hz 0 (by decide)
        have i1 := hz 1 (by decide)
        have i2 := hz 2 (by decide)
        have i3 := hz 3 (by decide)
        unfold fuN
        rw [if_neg i3, if_neg i2, if_neg i1, if_neg i0]
      rw [fu _ (fun i hi1 => by omega), fu _ (fun i hi1 => by omega), fu _ (fun i hi1 => by omega), fu _ (fun i hi1 => by omega)]
      rw [carP_lo _ _ _ _ _ _ (by omega), carP_lo _ _ _ _ _ _ (by omega), carP_lo _ _ _ _ _ _ (by omega), carP_lo _ _ _ _ _ _ (by omega)]
      exact e2 x (by omega)
  · rw [r (by omega)] at ht
    obtain ⟨u1, u2⟩ := f2 t ht
    rw [fsS_told] at u1 ⊢
    rw [lf0_car, r (by omega)]
    exact ⟨u1, u2⟩
  · rw [r91]
    omega
end
