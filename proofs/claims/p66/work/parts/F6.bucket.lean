set_option maxRecDepth 100000
set_option maxHeartbeats 1000000
/-! the least strength, in plain numbers: states awaited by what they take -/
def ewE (P : PT) (s c x : Nat) : Nat := wt P s (lbN P s (pop (c % 256) - 1)) + climb P (c / 256) x
def dorE (P : PT) (c x : Nat) : Prop := (doors P (c / 256) 0).testBit x = true
def Rt (P : PT) (s t c : Nat) : Prop := (fiE P s t).2.2 c ≠ 0
section
variable {P : PT} {s t : Nat}
theorem rwE_new {k : Nat} {X : BQ} (hw : WE P s X) (hn : NE k X) (hk : k < X.2.1) (h8 : P 0 4 ≤ 8) : ∀ x, x ≤ P 0 4 → ∀ c, (rwE P s t k X x).2.2 c ≠ 0 → X.2.2 c ≠ 0 ∨ ∃ y, y < x ∧ okE P s t (X.1 k) y ∧ c = toE (X.1 k) y := by
  intro x
  induction x with
  | zero => intro _ c hc; exact Or.inl hc
  | succ x ih =>
    intro hx c hc
    have ha := (rwE_all (t := t) hw hn hk h8 x (by omega)).2.2.2.1
    have hc : (stE P s t k (rwE P s t k X x) x).2.2 c ≠ 0 := hc
    unfold stE at hc
    by_cases z : okE P s t ((rwE P s t k X x).1 k) x ∧ (rwE P s t k X x).2.2 (toE ((rwE P s t k X x).1 k) x) = 0
    · rw [if_pos z] at hc
      rw [ha] at z hc
      by_cases y : c = toE (X.1 k) x
      · exact Or.inr ⟨x, by omega, z.1, y⟩
      · have hc : (if c = toE (X.1 k) x then (rwE P s t k X x).2.2 (X.1 k) + 1 else (rwE P s t k X x).2.2 c) ≠ 0 := hc
        rw [if_neg y] at hc
        rcases ih (by omega) c hc with q | ⟨y, h1, h2, h3⟩
        · exact Or.inl q
        · exact Or.inr ⟨y, by omega, h2, h3⟩
    · rw [if_neg z] at hc
      rcases ih (by omega) c hc with q | ⟨y, h1, h2, h3⟩
      · exact Or.inl q
      · exact Or.inr ⟨y, by omega, h2, h3⟩
theorem bfE_0 (hW : WFP P) (hs : s < P 0 7) : ∀ k, (bfE P s t k).2.2 (c0E P s) ≠ 0 := by
  have hb := hW.all
  intro k
  induction k with
  | zero => show (if c0E P s = c0E P s then 1 else 0) ≠ 0; rw [if_pos rfl]; decide
  | succ k ih =>
    show (if k < (bfE P s t k).2.1 then rwE P s t k (bfE P s t k) (P 0 4) else bfE P s t k).2.2 (c0E P s) ≠ 0
    by_cases z : k < (bfE P s t k).2.1
    · rw [if_pos z]
      obtain ⟨w1, w2, -⟩ := bfE_W (t := t) hW hs k
      rw [(rwE_all (t := t) w1 (w2 z) z hb.2.2.2.1 (P 0 4) (Nat.le_refl _)).2.2.2.2.1 _ ih]
      exact ih
    · rw [if_neg z]; exact ih
theorem fiE_n (P : PT) (s t : Nat) : ∃ N, fiE P s t = bfE P s t N := ⟨2048, fiE_eq⟩
theorem Rt_0 (hW : WFP P) (hs : s < P 0 7) : Rt P s t (c0E P s) := by
  obtain ⟨N, e⟩ := fiE_n P s t
  unfold Rt
  rw [e]
  exact bfE_0 hW hs N
theorem Rt_cl (hW : WFP P) (hs : s < P 0 7) {c y : Nat} (hc : Rt P s t c) (hy : y < P 0 4) (hok : okE P s t c y) : Rt P s t (toE c y) := by
  unfold Rt at hc ⊢
  exact fiE_cl hW hs hc hy hok
theorem bfE_min (hW : WFP P) (hs : s < P 0 7) {Cl : Nat → Prop} (h0 : Cl (c0E P s)) (h1 : ∀ c x, Cl c → x < P 0 4 → okE P s t c x → Cl (toE c x)) : ∀ k c, (bfE P s t k).2.2 c ≠ 0 → Cl c := by
  have hb := hW.all
  intro k
  induction k with
  | zero =>
    intro c hc
    have hc : (if c = c0E P s then 1 else 0) ≠ 0 := hc
    by_cases z : c = c0E P s
    · rw [z]; exact h0
    · rw [if_neg z] at hc; exact absurd rfl hc
  | succ k ih =>
    intro c hc
    have hc : (if k < (bfE P s t k).2.1 then rwE P s t k (bfE P s t k) (P 0 4) else bfE P s t k).2.2 c ≠ 0 := hc
    by_cases z : k < (bfE P s t k).2.1
    · rw [if_pos z] at hc
      obtain ⟨w1, w2, -⟩ := bfE_W (t := t) hW hs k
      rcases rwE_new (t := t) w1 (w2 z) z hb.2.2.2.1 (P 0 4) (Nat.le_refl _) c hc with q | ⟨y, y1, y2, y3⟩
      · exact ih c q
      · rw [y3]
        exact h1 _ y (ih _ (w1.1 k z)) y1 y2
    · rw [if_neg z] at hc
      exact ih c hc
theorem Rt_min (hW : WFP P) (hs : s < P 0 7) {Cl : Nat → Prop} (h0 : Cl (c0E P s)) (h1 : ∀ c x, Rt P s t c → Cl c → x < P 0 4 → okE P s t c x → Cl (toE c x)) (c : Nat) (hc : Rt P s t c) : Cl c := by
  obtain ⟨N, e⟩ := fiE_n P s t
  have h := bfE_min (t := t) hW hs (Cl := fun c => Rt P s t c ∧ Cl c) ⟨Rt_0 hW hs, h0⟩ (fun c x q hx hok => ⟨Rt_cl hW hs q.1 hx hok, h1 c x q.1 q.2 hx hok⟩) N c
  rw [← e] at h
  exact (h hc).2
theorem Rt_ok (hW : WFP P) (hs : s < P 0 7) {c : Nat} (h : Rt P s t c) : OKc P s c := by
  unfold Rt at h
  exact (fiE_W hW hs).2.2.2.2.2.1 c h
theorem Rt_mono (hW : WFP P) (hs : s < P 0 7) {u : Nat} (hu : t ≤ u) {c : Nat} (h : Rt P s t c) : Rt P s u c :=
  Rt_min hW hs (Cl := fun c => Rt P s u c) (Rt_0 hW hs) (fun c x _ h2 h3 h4 => Rt_cl hW hs h2 h3 ⟨h4.1, Nat.le_trans h4.2 hu⟩) c h
theorem ewE_le (hW : WFP P) (hs : s < P 0 7) (c : Nat) {x : Nat} (hx : x < P 0 4) : ewE P s c x ≤ 200 := by
  have h1 := wt_le hW hs (lbN_lt hW hs (pop (c % 256) - 1))
  have h2 := climb_le hW (a := c / 256) hx
  unfold ewE
  omega
theorem Rt_200 (hW : WFP P) (hs : s < P 0 7) {c : Nat} (h : Rt P s t c) : Rt P s 200 c :=
  Rt_min hW hs (Cl := fun c => Rt P s 200 c) (Rt_0 hW hs) (fun c x _ h2 h3 h4 => Rt_cl hW hs h2 h3 ⟨h4.1, ewE_le hW hs c h3⟩) c h
theorem so_Rt (hW : WFP P) (hs : s < P 0 7) {x : Nat} : soE P s t x ≠ 0 ↔ ∃ c, Rt P s t c ∧ c / 256 = x := so_some (fiE_W hW hs) hW.all.2.2.2.1
theorem so_mono (hW : WFP P) (hs : s < P 0 7) {u x : Nat} (hu : t ≤ u) (h : soE P s t x ≠ 0) : soE P s u x ≠ 0 := by
  obtain ⟨c, h1, h2⟩ := (so_Rt hW hs).mp h
  exact (so_Rt hW hs).mpr ⟨c, Rt_mono hW hs hu h1, h2⟩
theorem so_200 (hW : WFP P) (hs : s < P 0 7) {x : Nat} (h : soE P s t x ≠ 0) : soE P s 200 x ≠ 0 := by
  obtain ⟨c, h1, h2⟩ := (so_Rt hW hs).mp h
  exact (so_Rt hW hs).mpr ⟨c, Rt_200 hW hs h1, h2⟩
/-- by the least strength: a HOUSE is reached with strength t when t is no less -/
theorem ne_so (hW : WFP P) (hs : s < P 0 7) (x : Nat) : soE P s t x ≠ 0 ↔ neE P s x ≠ 0 ∧ neE P s x ≤ t + 1 := by
  have hle := fa_first_le (fun t => decide (soE P s t x ≠ 0)) 201
  have hno := fa_first_no (fun t => decide (soE P s t x ≠ 0)) 201
  have hyes := fa_first_yes (fun t => decide (soE P s t x ≠ 0)) 201
  unfold neE
  obtain ⟨f, hf⟩ : ∃ f, f = fa_first (fun t => decide (soE P s t x ≠ 0)) 201 := ⟨_, rfl⟩
  rw [← hf] at hle hno hyes ⊢
  by_cases z : f = 201
  · rw [if_pos z]
    refine ⟨fun q => ?_, fun q => absurd rfl q.1⟩
    have h1 := hno 200 (by omega)
    exact absurd (so_200 hW hs q) (of_decide_eq_false h1)
  · rw [if_neg z]
    have h1 := of_decide_eq_true (hyes (by omega))
    refine ⟨fun q => ⟨by omega, ?_⟩, fun q => so_mono hW hs (by omega) h1⟩
    refine Nat.le_of_not_lt fun y => ?_
    exact absurd q (of_decide_eq_false (hno t (by omega)))
theorem ne_le (x : Nat) : neE P s x ≤ 201 := by
  have hle := fa_first_le (fun t => decide (soE P s t x ≠ 0)) 201
  unfold neE
  split <;> omega
theorem ne_is (hW : WFP P) (hs : s < P 0 7) {x v : Nat} (hv : v ≤ 200) (h1 : soE P s v x ≠ 0) (h2 : ∀ u, u < v → soE P s u x = 0) : neE P s x = v + 1 := by
  have h3 := (ne_so hW hs x).mp h1
  refine Nat.le_antisymm h3.2 (Nat.le_of_not_lt fun y => ?_)
  have h4 : soE P s (neE P s x - 1) x ≠ 0 := (ne_so hW hs x).mpr ⟨h3.1, by omega⟩
  exact h4 (h2 _ (by omega))
/-- how many doors -/
def deE (P : PT) (c : Nat) : Nat := pop (doors P (c / 256) 0)
def cdE (P : PT) (c k : Nat) : Nat := fb_ct (fun i => (doors P (c / 256) 0).testBit i) k
def WM (P : PT) (mk : Nat → Nat) : Nat := fb_sm (fun c => if mk c ≠ 0 then deE P c else 0) 2048
theorem cd_8 (P : PT) (c : Nat) : cdE P c 8 = deE P c := rfl
theorem cd_le (P : PT) (c : Nat) {k : Nat} (hk : k ≤ 8) : cdE P c k ≤ deE P c := fb_ct_mono _ hk
theorem ct_or (p q : Nat → Bool) : ∀ n, fb_ct (fun i => p i || q i) n ≤ fb_ct p n + fb_ct q n := by
  intro n
  induction n with
  | zero => exact Nat.le_refl _
  | succ n ih =>
    rw [fb_ct_succ, fb_ct_succ, fb_ct_succ]
    cases hp : p n <;> cases hq : q n <;> simp only [Bool.or_true, Bool.or_false, Bool.false_eq_true, if_true, if_false, reduceIte] <;> omega
theorem pop_or (a b : Nat) : pop (a ||| b) ≤ pop a + pop b := by
  unfold pop
  have e : (fun i => (a ||| b).testBit i) = fun i => (fun i => a.testBit i) i || (fun i => b.testBit i) i := funext fun i => Nat.testBit_or a b i
  rw [e]
  exact ct_or _ _ 8
theorem pop_1 : ∀ k, k < 12 → pop (2 ^ k) ≤ 1 := by decide
theorem sm_if (a d : Nat) : ∀ n, fb_sm (fun x => if a = x then d else 0) n ≤ d := by
  intro n
  have : fb_sm (fun x => if a = x then d else 0) n = if a < n then d else 0 := by
    induction n with
    | zero => rfl
    | succ n ih =>
      rw [fb_sm_succ, ih]
      by_cases z : a = n
      · rw [if_pos z, if_neg (by omega), if_pos (by omega)]; omega
      · rw [if_neg z]
        by_cases y : a < n
        · rw [if_pos y, if_pos (by omega)]; rfl
        · rw [if_neg y, if_neg (by omega)]
  rw [this]
  split <;> omega
theorem deg_sum (hW : WFP P) : ∀ k, k ≤ P 0 5 → fb_sm (fun x => pop (doN P x 0 k)) 8 ≤ 2 * k := by
  have hb := hW.all
  intro k
  induction k with
  | zero =>
    intro _
    have e : fb_sm (fun x => pop (doN P x 0 0)) 8 = fb_sm (fun _ => 0) 8 := fb_sm_cong (fun x _ => by show pop 0 = 0; decide)
    rw [e, fb_sm_const]
    omega
  | succ k ih =>
    intro hk1
    have hw := hW.2.2.2.2.2.2.2.2.2.2.2.2.2.2.2.2.1 k (by omega)
    have h1 : fb_sm (fun x => pop (doN P x 0 (k + 1))) 8 ≤ fb_sm (fun x => pop (doN P x 0 k) + ((if P 2 k = x then 1 else 0) + (if P 3 k = x then 1 else 0))) 8 := fb_sm_le (fun x _ => by
      show pop ((doN P x 0 k ||| if k + 1 ≠ 0 ∧ P 2 k = x then 2 ^ P 3 k else 0) ||| if k + 1 ≠ 0 ∧ P 3 k = x then 2 ^ P 2 k else 0) ≤ _
      have a1 := pop_or (doN P x 0 k ||| if k + 1 ≠ 0 ∧ P 2 k = x then 2 ^ P 3 k else 0) (if k + 1 ≠ 0 ∧ P 3 k = x then 2 ^ P 2 k else 0)
      have a2 := pop_or (doN P x 0 k) (if k + 1 ≠ 0 ∧ P 2 k = x then 2 ^ P 3 k else 0)
      have a3 : pop (if k + 1 ≠ 0 ∧ P 2 k = x then 2 ^ P 3 k else 0) ≤ if P 2 k = x then 1 else 0 := by
        by_cases z : P 2 k = x
        · rw [if_pos ⟨by omega, z⟩, if_pos z]; exact pop_1 _ (by omega)
        · rw [if_neg (fun q => z q.2), if_neg z]; decide
      have a4 : pop (if k + 1 ≠ 0 ∧ P 3 k = x then 2 ^ P 2 k else 0) ≤ if P 3 k = x then 1 else 0 := by
        by_cases z : P 3 k = x
        · rw [if_pos ⟨by omega, z⟩, if_pos z]; exact pop_1 _ (by omega)
        · rw [if_neg (fun q => z q.2), if_neg z]; decide
      omega)
    rw [fb_sm_add, fb_sm_add] at h1
    have h2 := sm_if (P 2 k) 1 8
    have h3 := sm_if (P 3 k) 1 8
    have h4 := ih (by omega)
    omega
theorem sm_rows (f : Nat → Nat) : ∀ n, fb_sm f (256 * n) = fb_sm (fun x => fb_sm (fun e => f (256 * x + e)) 256) n := by
  intro n
  induction n with
  | zero => rfl
  | succ n ih =>
    rw [Nat.mul_succ, fb_sm_split, ih]
    exact (fb_sm_succ (fun x => fb_sm (fun e => f (256 * x + e)) 256) n).symm
theorem half_a : ∀ a, a < 8 → fb_ct (fun e => e.testBit a) 256 = 128 := by decide +kernel
theorem sm_ct (p : Nat → Bool) (d : Nat) : ∀ n, fb_sm (fun e => if p e = true then d else 0) n = fb_ct p n * d := by
  intro n
  induction n with
  | zero => exact (Nat.zero_mul _).symm
  | succ n ih =>
    rw [fb_sm_succ, fb_ct_succ, ih, Nat.add_mul]
    cases p n <;> simp
theorem WM_le (hW : WFP P) (hs : s < P 0 7) {mk : Nat → Nat} (h : ∀ c, mk c ≠ 0 → OKc P s c) : WM P mk ≤ 3072 := by
  have hb := hW.all
  have ha := (hW.sl hs).1
  have h1 : WM P mk ≤ fb_sm (fun c => if (c % 256).testBit (P 6 s) = true then deE P c else 0) 2048 := fb_sm_le (fun c _ => by
    by_cases z : mk c ≠ 0
    · rw [if_pos z, if_pos (h c z).2.2]
      exact Nat.le_refl _
    · rw [if_neg z]
      exact Nat.zero_le _)
  have h2 : fb_sm (fun c => if (c % 256).testBit (P 6 s) = true then deE P c else 0) 2048 = fb_sm (fun x => 128 * pop (doN P x 0 (P 0 5))) 8 := by
    rw [show 2048 = 256 * 8 by decide, sm_rows]
    refine fb_sm_cong (fun x _ => ?_)
    have e : fb_sm (fun e => if ((256 * x + e) % 256).testBit (P 6 s) = true then deE P (256 * x + e) else 0) 256 = fb_sm (fun e => if (fun e => Nat.testBit e (P 6 s)) e = true then pop (doors P x 0) else 0) 256 := fb_sm_cong (fun e he => by
      show (if ((256 * x + e) % 256).testBit (P 6 s) = true then pop (doors P ((256 * x + e) / 256) 0) else 0) = if Nat.testBit e (P 6 s) = true then pop (doors P x 0) else 0
      rw [show (256 * x + e) % 256 = e by omega, show (256 * x + e) / 256 = x by omega])
    show fb_sm (fun e => if ((256 * x + e) % 256).testBit (P 6 s) = true then deE P (256 * x + e) else 0) 256 = _
    rw [e, sm_ct, half_a (P 6 s) (by omega)]
    rfl
  have h3 := deg_sum hW (P 0 5) (Nat.le_refl _)
  rw [h2, sm_mul] at h1
  omega
end
