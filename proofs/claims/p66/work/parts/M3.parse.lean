set_option maxRecDepth 100000
set_option maxHeartbeats 2000000
/-! the text read: its tokens -/
def AtL (B : Nat → Int32) (n p : Nat) (l : List Nat) : Prop := p + l.length = n ∧ ∀ i, i < l.length → B (p + i) = nI (l.getD i 0)
def AtT (B : Nat → Int32) (n p : Nat) (ts : List (Nat × Nat)) : Prop := ∃ k, AtL B n p (tBs ts ++ List.replicate k 32)
def Tk (B : Nat → Int32) (n q : Nat) (ts : List (Nat × Nat)) : Prop := ∃ p, q = skp B n p ∧ AtT B n p ts
section
variable {B : Nat → Int32} {n p q r : Nat} {l a : List Nat} {ts : List (Nat × Nat)}
theorem AtL.app (H : AtL B n p (a ++ l)) : (∀ i, i < a.length → B (p + i) = nI (a.getD i 0)) ∧ AtL B n (p + a.length) l := by
  obtain ⟨h1, h2⟩ := H
  rw [List.length_append] at h1 h2
  refine ⟨fun i hi1 => ?_, by omega, fun i hi1 => ?_⟩
  · rw [h2 i (by omega), List.getD_eq_getElem?_getD, List.getD_eq_getElem?_getD, List.getElem?_append_left hi1]
  · rw [Nat.add_assoc, h2 (a.length + i) (by omega), List.getD_eq_getElem?_getD, List.getD_eq_getElem?_getD, List.getElem?_append_right (by omega), Nat.add_sub_cancel_left]
theorem AtL.cons {b : Nat} (H : AtL B n p (b :: l)) : B p = nI b ∧ AtL B n (p + 1) l := by
  have := AtL.app (a := [b]) (l := l) H
  exact ⟨this.1 0 (Nat.zero_lt_succ _), this.2⟩
theorem skp_is (h1 : p ≤ r) (h2 : r ≤ n) (hb : ∀ i, p ≤ i → i < r → blk (B i) = true) (he : r < n → blk (B r) = false) : skp B n p = r := by
  obtain ⟨s1, s2⟩ := skp_le (B := B) (n := n) (p := p) (by omega)
  rcases Nat.lt_trichotomy (skp B n p) r with y | y | y
  · have := skp_st (B := B) (n := n) (p := p) (by omega)
    rw [hb _ s1 y] at this
    exact Bool.noConfusion this
  · exact y
  · have := (skp_bl (B := B) (n := n) (p := p) (i := r - p) (by omega)).2
    rw [show p + (r - p) = r by omega, he (by omega)] at this
    exact Bool.noConfusion this
theorem enq_is (hq : q < n) (k : kb (B q) ≤ 2) (h1 : q < r) (h2 : r ≤ n) (hb : ∀ i, q ≤ i → i < r → kb (B i) = kb (B q)) (he : r < n → kb (B r) ≠ kb (B q)) : enq B n q = r := by
  obtain ⟨s1, s2⟩ := enq_lt (B := B) hq
  rcases Nat.lt_trichotomy (enq B n q) r with y | y | y
  · exact absurd (hb _ (by omega) y) (enq_st hq k (by omega))
  · exact y
  · have := (enq_in (B := B) hq k (i := r - q) (by omega)).2
    rw [show q + (r - q) = r by omega] at this
    exact absurd this (he (by omega))
theorem kb_let {b : Nat} (h1 : 97 ≤ b) (h2 : b ≤ 122) : kb (nI b) = 1 := kb_1.2 ⟨by rw [nI_leI (by decide) (by omega)]; exact h1, by rw [nI_leI (by omega) (by decide)]; exact h2⟩
theorem kb_dig {b : Nat} (h1 : 48 ≤ b) (h2 : b ≤ 57) : kb (nI b) = 2 := kb_2.2 ⟨by rw [nI_leI (by decide) (by omega)]; exact h1, by rw [nI_leI (by omega) (by decide)]; exact h2⟩
theorem kb_hd : kb (nI 32) = 4 ∧ kb (nI 59) = 3 ∧ blk (nI 32) = true ∧ blk (nI 59) = false := by decide
theorem tx_dis : ∀ j, j < 14 → ∀ i, i < 14 → txL j = txL i → (∀ k, k < txL j → tx j k = tx i k) → j = i := by decide +kernel
/-- how what follows begins -/
def Hd (l : List Nat) : Prop := l = [] ∨ ∃ b l', l = b :: l' ∧ (b = 32 ∨ b = 59)
theorem hd_t (ts : List (Nat × Nat)) (k : Nat) : Hd (tBs ts ++ List.replicate k 32) := by
  cases ts with
  | nil =>
    rw [tBs_n, List.nil_append]
    cases k with
    | zero => exact Or.inl rfl
    | succ k => exact Or.inr ⟨32, _, List.replicate_succ, Or.inl rfl⟩
  | cons t ts =>
    rw [tBs_c]
    unfold tB
    split
    · exact Or.inr ⟨32, _, rfl, Or.inl rfl⟩
    · split
      · exact Or.inr ⟨32, _, rfl, Or.inl rfl⟩
      · exact Or.inr ⟨59, _, rfl, Or.inr rfl⟩
theorem hd_b (H : AtL B n p l) (h : Hd l) (hp : p < n) : B p = nI 32 ∨ B p = nI 59 := by
  obtain rfl | ⟨b, l', rfl, z⟩ := h
  · have := H.1
    rw [List.length_nil] at this
    omega
  · rw [H.cons.1]
    rcases z with rfl | rfl
    · exact Or.inl rfl
    · exact Or.inr rfl
theorem Tk.e (H : Tk B n q []) : q = n := by
  obtain ⟨p, rfl, k, A⟩ := H
  rw [tBs_n, List.nil_append] at A
  have a1 := A.1
  rw [List.length_replicate] at a1
  refine skp_is (by omega) (Nat.le_refl _) (fun i h1 h2 => ?_) (fun z => absurd z (Nat.lt_irrefl _))
  have := A.2 (i - p) (by rw [List.length_replicate]; omega)
  rw [show p + (i - p) = i by omega, List.getD_eq_getElem?_getD, List.getElem?_replicate, if_pos (by omega)] at this
  rw [this]
  exact kb_hd.2.2.1
theorem Tk.s (H : Tk B n q ((2, 0) :: ts)) : q < n ∧ kd B n q = 3 ∧ (∀ j, isW B n q j = false) ∧ Tk B n (nxt B n q) ts := by
  obtain ⟨p, rfl, k, A⟩ := H
  rw [tBs_c, List.append_assoc] at A
  obtain ⟨b0, A1⟩ := AtL.cons (b := 59) A
  have a1 := A1.1
  have e : skp B n p = p := skp_is (Nat.le_refl _) (by omega) (fun i h1 h2 => absurd h2 (by omega)) (fun _ => by rw [b0]; exact kb_hd.2.2.2)
  have e3 : kd B n p = 3 := by rw [kd_lt (by omega), b0]; exact kb_hd.2.1
  rw [e]
  refine ⟨by omega, e3, fun j => decide_eq_false (fun z => by omega), p + 1, ?_, k, A1⟩
  unfold nxt
  rw [enq_one (by omega) (by rw [b0]; decide)]
theorem Tk.w {j : Nat} (hj : j < 14) (H : Tk B n q ((0, j) :: ts)) : q < n ∧ isW B n q j = true ∧ (∀ i, i < 14 → i ≠ j → isW B n q i = false) ∧ Tk B n (nxt B n q) ts := by
  obtain ⟨p, rfl, k, A⟩ := H
  rw [tBs_c, List.append_assoc] at A
  obtain ⟨b0, A1⟩ := AtL.cons (b := 32) A
  obtain ⟨A2, A3⟩ := AtL.app (a := wb j) A1
  have h := hd_t ts k
  have a1 := A3.1
  obtain ⟨w1, w2⟩ := wb_tx j hj
  obtain ⟨t1, t2, t3⟩ := tx_ok j hj
  rw [w1] at A2 A3 a1
  have kb1 : ∀ i, p + 1 ≤ i → i < p + 1 + txL j → B i = tx j (i - (p + 1)) ∧ kb (B i) = 1 := fun i h1 h2 => by
    have e := A2 (i - (p + 1)) (by omega)
    obtain ⟨u1, u2, u3⟩ := w2 (i - (p + 1)) (by omega)
    rw [show p + 1 + (i - (p + 1)) = i by omega] at e
    refine ⟨by rw [e, u1], ?_⟩
    rw [e]
    exact kb_let u2 u3
  have k0 := (kb1 (p + 1) (Nat.le_refl _) (by omega)).2
  have e : skp B n p = p + 1 := skp_is (by omega) (by omega) (fun i h1 h2 => by rw [show i = p by omega, b0]; exact kb_hd.2.2.1) (fun _ => kb_bl (by omega))
  have e2 : enq B n (p + 1) = p + 1 + txL j := enq_is (by omega) (by omega) (by omega) (by omega) (fun i h1 h2 => by rw [(kb1 i h1 h2).2, k0]) (fun z => by
    rw [k0]
    obtain y | y := hd_b A3 h z
    · rw [y, kb_hd.1]; decide
    · rw [y, kb_hd.2.1]; decide)
  have e3 : kd B n (p + 1) = 1 := by rw [kd_lt (by omega)]; exact k0
  have bt : ∀ i, i < txL j → B (p + 1 + i) = tx j i := fun i hi1 => by
    have := (kb1 (p + 1 + i) (by omega) (by omega)).1
    rw [show p + 1 + i - (p + 1) = i by omega] at this
    exact this
  rw [e]
  refine ⟨by omega, (isW_iff hj).2 ⟨e3, by omega, bt⟩, fun i hi1 hne => ?_, p + 1 + txL j, ?_, k, A3⟩
  · cases z : isW B n (p + 1) i with
    | false => rfl
    | true =>
      obtain ⟨-, z2, z3⟩ := (isW_iff hi1).1 z
      exact absurd (tx_dis j hj i hi1 (by omega) (fun k hk1 => by rw [← bt k hk1, ← z3 k (by omega)])).symm hne
  · unfold nxt
    rw [e2]
theorem dgv_n {d : Nat} (h : d ≤ 9) : dgv (nI (48 + d)) = d := by
  unfold dgv
  rw [nI_toInt (by omega)]
  omega
theorem Tk.v {v : Nat} (hv : v ≤ 99) (H : Tk B n q ((1, v) :: ts)) : q < n ∧ kd B n q = 2 ∧ nv B n q = v ∧ Tk B n (nxt B n q) ts := by
  obtain ⟨p, rfl, k, A⟩ := H
  rw [tBs_c, List.append_assoc] at A
  obtain ⟨b0, A1⟩ := AtL.cons (b := 32) A
  obtain ⟨A2, A3⟩ := AtL.app (a := dgs v) A1
  have h := hd_t ts k
  have a1 := A3.1
  have dl : 1 ≤ (dgs v).length ∧ (dgs v).length ≤ 2 := by
    refine ⟨?_, (dgs_l v).1⟩
    unfold dgs
    split
    · exact Nat.le_succ 1
    · exact Nat.le_refl 1
  have db : ∀ i, i < (dgs v).length → 48 ≤ (dgs v).getD i 0 ∧ (dgs v).getD i 0 ≤ 57 := by
    unfold dgs
    split
    · intro i hi1
      match i, hi1 with
      | 0, _ => exact ⟨show 48 ≤ 48 + v / 10 by omega, show 48 + v / 10 ≤ 57 by omega⟩
      | 1, _ => exact ⟨show 48 ≤ 48 + v % 10 by omega, show 48 + v % 10 ≤ 57 by omega⟩
    · intro i hi1
      match i, hi1 with
      | 0, _ => exact ⟨show 48 ≤ 48 + v by omega, show 48 + v ≤ 57 by omega⟩
  have kb1 : ∀ i, p + 1 ≤ i → i < p + 1 + (dgs v).length → kb (B i) = 2 := fun i h1 h2 => by
    have e := A2 (i - (p + 1)) (by omega)
    obtain ⟨u2, u3⟩ := db (i - (p + 1)) (by omega)
    rw [show p + 1 + (i - (p + 1)) = i by omega] at e
    rw [e]
    exact kb_dig u2 u3
  have k0 := kb1 (p + 1) (Nat.le_refl _) (by omega)
  have e : skp B n p = p + 1 := skp_is (by omega) (by omega) (fun i h1 h2 => by rw [show i = p by omega, b0]; exact kb_hd.2.2.1) (fun _ => kb_bl (by omega))
  have e2 : enq B n (p + 1) = p + 1 + (dgs v).length := enq_is (by omega) (by omega) (by omega) (by omega) (fun i h1 h2 => by rw [kb1 i h1 h2, k0]) (fun z => by
    rw [k0]
    obtain y | y := hd_b A3 h z
    · rw [y, kb_hd.1]; decide
    · rw [y, kb_hd.2.1]; decide)
  have e3 : kd B n (p + 1) = 2 := by rw [kd_lt (by omega)]; exact k0
  rw [e]
  refine ⟨by omega, e3, ?_, p + 1 + (dgs v).length, by unfold nxt; rw [e2], k, A3⟩
  unfold nv
  rw [if_pos e3, e2, Nat.add_sub_cancel_left]
  by_cases z : 9 < v
  · have ed : dgs v = [48 + v / 10, 48 + v % 10] := if_pos z
    rw [ed] at A2 ⊢
    have c0 : B (p + 1) = nI (48 + v / 10) := A2 0 (Nat.zero_lt_succ _)
    have c1 : B (p + 1 + 1) = nI (48 + v % 10) := A2 1 (Nat.lt_succ_self 1)
    show min 1000 (min 1000 (0 * 10 + dgv (B (p + 1 + 0))) * 10 + dgv (B (p + 1 + 1))) = v
    rw [Nat.add_zero, c0, c1, dgv_n (by omega), dgv_n (by omega)]
    omega
  · have ed : dgs v = [48 + v] := if_neg z
    rw [ed] at A2 ⊢
    have c0 : B (p + 1) = nI (48 + v) := A2 0 (Nat.zero_lt_succ _)
    show min 1000 (0 * 10 + dgv (B (p + 1 + 0))) = v
    rw [Nat.add_zero, c0, dgv_n (by omega)]
    omega
theorem pN_ok {lo top v : Nat} (H : Tk B n q ((1, v) :: ts)) (hv : v ≤ 99) (h1 : lo ≤ v) (h2 : v < top) : ∃ q', pN B n lo top q = .inr (v, q') ∧ Tk B n q' ts := by
  obtain ⟨-, a, b, c⟩ := H.v hv
  refine ⟨nxt B n q, ?_, c⟩
  unfold pN
  rw [if_pos a, b, if_pos ⟨h1, h2⟩]
theorem pA_ok {lo top v j : Nat} (H : Tk B n q ((0, j) :: (1, v) :: ts)) (hj : j < 14) (hv : v ≤ 99) (h1 : lo ≤ v) (h2 : v < top) : ∃ q', pA B n j lo top q = .inr (v, q') ∧ Tk B n q' ts := by
  obtain ⟨-, a, -, c⟩ := H.w hj
  obtain ⟨q', d, e⟩ := pN_ok c hv h1 h2
  refine ⟨q', ?_, e⟩
  unfold pA
  rw [if_pos a]
  exact d
end
/-- LINES read -/
def LnS (ts : List (Nat × Nat)) (P P' : PT) (k : Nat) : Prop := k ≤ (tBs ts).length ∧ ∀ (B : Nat → Int32) (n q : Nat) (rest : List (Nat × Nat)), Tk B n q (ts ++ rest) → ∃ q', (∀ f, bAll B n (f + k) q P = bAll B n f q' P') ∧ Tk B n q' rest
theorem LnS.nil (P : PT) : LnS [] P P 0 := ⟨Nat.zero_le _, fun B n q rest H => ⟨q, fun f => rfl, H⟩⟩
theorem LnS.tr {ts us : List (Nat × Nat)} {P Q R : PT} {k m : Nat} (H : LnS ts P Q k) (G : LnS us Q R m) : LnS (ts ++ us) P R (k + m) := by
  refine ⟨by rw [tBs_a, List.length_append]; exact Nat.add_le_add H.1 G.1, fun B n q rest T => ?_⟩
  rw [List.append_assoc] at T
  obtain ⟨q1, a1, T1⟩ := H.2 B n q _ T
  obtain ⟨q2, a2, T2⟩ := G.2 B n q1 _ T1
  exact ⟨q2, fun f => by rw [show f + (k + m) = f + m + k by omega, a1, a2], T2⟩
theorem LnS.one {ts : List (Nat × Nat)} {P Q : PT} (h : ∀ (B : Nat → Int32) (n q : Nat) (rest : List (Nat × Nat)), Tk B n q (ts ++ (2, 0) :: rest) → q < n ∧ ∃ q', bLine B n q P = .inr (q', Q) ∧ Tk B n q' ((2, 0) :: rest)) : LnS (ts ++ [(2, 0)]) P (up Q 0 0 (P 0 0 + 1)) 1 := by
  refine ⟨by rw [tBs_a, List.length_append]; exact Nat.le_add_left _ _, fun B n q rest T => ?_⟩
  rw [List.append_assoc] at T
  obtain ⟨hq, q', a, T'⟩ := h B n q rest T
  obtain ⟨-, k3, -, T2⟩ := T'.s
  refine ⟨nxt B n q', fun f => ?_, T2⟩
  show (if q < n then bnd (bFull B n q P) fun a => bAll B n f a.1 a.2 else .inr P) = _
  rw [if_pos hq]
  unfold bFull
  rw [a, bnd_r, if_pos k3, bnd_r]
section
variable {P : PT} {a b c d : Nat}
theorem ln_port (h0 : P 0 0 = 0) (ha1 : 1 ≤ a) (ha : a < 13) (hb : b < 4) (hc : c < 11) : LnS [(0, 0), (0, 1), (1, a), (0, 2), (1, b), (0, 3), (1, c), (2, 0)] P (up (up (up (up P 0 1 a) 0 2 b) 0 3 c) 0 0 (P 0 0 + 1)) 1 := by
  refine LnS.one (ts := [(0, 0), (0, 1), (1, a), (0, 2), (1, b), (0, 3), (1, c)]) (fun B n q rest T => ?_)
  obtain ⟨hq, w, -, T1⟩ := Tk.w (j := 0) (by decide) T
  obtain ⟨q1, e1, T2⟩ := pA_ok (lo := 1) (top := 13) T1 (by decide) (by omega) ha1 ha
  obtain ⟨q2, e2, T3⟩ := pA_ok (lo := 0) (top := 4) T2 (by decide) (by omega) (Nat.zero_le _) hb
  obtain ⟨q3, e3, T4⟩ := pA_ok (lo := 0) (top := 11) T3 (by decide) (by omega) (Nat.zero_le _) hc
  refine ⟨hq, q3, ?_, T4⟩
  unfold bLine bPort
  rw [if_pos h0, if_pos w, e1, bnd_r, e2, bnd_r, e3, bnd_r]
theorem ln_house (h0 : P 0 0 ≠ 0) (h4 : P 0 4 < 8) (ha : a < 21) : LnS [(0, 4), (0, 5), (1, a), (2, 0)] P (up (up (up P 1 (P 0 4) a) 0 4 (P 0 4 + 1)) 0 0 (P 0 0 + 1)) 1 := by
  refine LnS.one (ts := [(0, 4), (0, 5), (1, a)]) (fun B n q rest T => ?_)
  obtain ⟨hq, w, -, T1⟩ := Tk.w (j := 4) (by decide) T
  obtain ⟨q1, e1, T2⟩ := pA_ok (lo := 0) (top := 21) T1 (by decide) (by omega) (Nat.zero_le _) ha
  refine ⟨hq, q1, ?_, T2⟩
  unfold bLine bHouse
  rw [if_neg h0, if_pos w, if_pos h4, e1, bnd_r]
theorem ln_way (h0 : P 0 0 ≠ 0) (h4 : P 0 5 < 12) (h8 : P 0 4 ≤ 8) (ha : a < P 0 4) (hb : b < P 0 4) (hne : b ≠ a) : LnS [(0, 6), (1, a), (1, b), (2, 0)] P (up (up (up (up P 2 (P 0 5) a) 3 (P 0 5) b) 0 5 (P 0 5 + 1)) 0 0 (P 0 0 + 1)) 1 := by
  refine LnS.one (ts := [(0, 6), (1, a), (1, b)]) (fun B n q rest T => ?_)
  obtain ⟨hq, w, w', T1⟩ := Tk.w (j := 6) (by decide) T
  obtain ⟨q1, e1, T2⟩ := pN_ok (lo := 0) (top := P 0 4) T1 (by omega) (Nat.zero_le _) ha
  obtain ⟨-, -, v2, -⟩ := T2.v (by omega)
  obtain ⟨q2, e2, T3⟩ := pN_ok (lo := 0) (top := P 0 4) T2 (by omega) (Nat.zero_le _) hb
  refine ⟨hq, q2, ?_, T3⟩
  unfold bLine bWay
  rw [if_neg h0, w' 4 (by decide) (by decide), if_neg Bool.false_ne_true, if_pos w, if_pos h4, e1, bnd_r]
  show (if kd B n q1 = 2 ∧ nv B n q1 = a then _ else _) = _
  rw [if_neg (fun z => hne (by rw [← v2]; exact z.2)), e2, bnd_r]
theorem ln_carrier (h0 : P 0 0 ≠ 0) (h4 : P 0 6 < 5) (h8 : P 0 4 ≤ 8) (ha : a < P 0 4) (hb : b < 100) : LnS [(0, 7), (0, 8), (1, a), (0, 9), (1, b), (2, 0)] P (up (up (up (up P 4 (P 0 6) a) 5 (P 0 6) b) 0 6 (P 0 6 + 1)) 0 0 (P 0 0 + 1)) 1 := by
  refine LnS.one (ts := [(0, 7), (0, 8), (1, a), (0, 9), (1, b)]) (fun B n q rest T => ?_)
  obtain ⟨hq, w, w', T1⟩ := Tk.w (j := 7) (by decide) T
  obtain ⟨q1, e1, T2⟩ := pA_ok (lo := 0) (top := P 0 4) T1 (by decide) (by omega) (Nat.zero_le _) ha
  obtain ⟨q2, e2, T3⟩ := pA_ok (lo := 0) (top := 100) T2 (by decide) (by omega) (Nat.zero_le _) hb
  refine ⟨hq, q2, ?_, T3⟩
  unfold bLine bCarrier
  rw [if_neg h0, w' 4 (by decide) (by decide), if_neg Bool.false_ne_true, w' 6 (by decide) (by decide), if_neg Bool.false_ne_true, if_pos w, if_pos h4, e1, bnd_r, e2, bnd_r]
theorem ln_carry (h0 : P 0 0 ≠ 0) (h4 : P 9 1 < 12) (h6 : P 0 6 ≤ 5) (h7 : P 0 7 ≤ 3) (h8 : P 0 4 ≤ 8) (ha : a < P 0 6) (hb : b < P 0 7) (hc : c < P 0 4) (hd : d < 12) : LnS [(0, 12), (1, a), (1, b), (0, 13), (1, c), (0, 8), (1, d), (2, 0)] P (up (up (up (up (up (up P 10 (P 9 1) a) 11 (P 9 1) b) 12 (P 9 1) c) 13 (P 9 1) d) 9 1 (P 9 1 + 1)) 0 0 (P 0 0 + 1)) 1 := by
  refine LnS.one (ts := [(0, 12), (1, a), (1, b), (0, 13), (1, c), (0, 8), (1, d)]) (fun B n q rest T => ?_)
  obtain ⟨hq, w, w', T1⟩ := Tk.w (j := 12) (by decide) T
  obtain ⟨q1, e1, T2⟩ := pN_ok (lo := 0) (top := P 0 6) T1 (by omega) (Nat.zero_le _) ha
  obtain ⟨q2, e2, T3⟩ := pN_ok (lo := 0) (top := P 0 7) T2 (by omega) (Nat.zero_le _) hb
  obtain ⟨q3, e3, T4⟩ := pA_ok (lo := 0) (top := P 0 4) T3 (by decide) (by omega) (Nat.zero_le _) hc
  obtain ⟨q4, e4, T5⟩ := pA_ok (lo := 0) (top := 12) T4 (by decide) (by omega) (Nat.zero_le _) hd
  refine ⟨hq, q4, ?_, T5⟩
  unfold bLine bCarry
  rw [if_neg h0, w' 4 (by decide) (by decide), if_neg Bool.false_ne_true, w' 6 (by decide) (by decide), if_neg Bool.false_ne_true, w' 7 (by decide) (by decide), if_neg Bool.false_ne_true, w' 10 (by decide) (by decide), if_neg Bool.false_ne_true, if_pos w, if_pos h4, e1, bnd_r, e2, bnd_r, e3, bnd_r, e4, bnd_r]
/-- the words of a slate -/
def wsT (ws : List Nat) : List (Nat × Nat) := ws.flatMap fun v => [(0, 11), (1, v)]
theorem wsT_c (v : Nat) (ws : List Nat) : wsT (v :: ws) = (0, 11) :: (1, v) :: wsT ws := rfl
def wsP (s : Nat) : Nat → List Nat → PT → PT
  | _, [], P => P
  | w, v :: ws, P => wsP s (w + 1) ws (up P 8 (6 * s + w) v)
theorem pWs_ok {B : Nat → Int32} {n s : Nat} {rest : List (Nat × Nat)} : ∀ (ws : List Nat) (f w q : Nat) (P : PT), ws ≠ [] → ws.length ≤ f → w + ws.length ≤ 6 → (∀ v, v ∈ ws → 1 ≤ v ∧ v < 31) → Tk B n q (wsT ws ++ (2, 0) :: rest) → ∃ q', pWs B n s f w q P = .inr (w + ws.length, q', wsP s w ws P) ∧ Tk B n q' ((2, 0) :: rest)
  | [], _, _, _, _, h, _, _, _, _ => absurd rfl h
  | v :: ws, 0, _, _, _, _, h, _, _, _ => absurd h (Nat.not_succ_le_zero _)
  | v :: ws, f + 1, w, q, P, _, h1, h2, h3, T => by
    obtain ⟨v1, v2⟩ := h3 v List.mem_cons_self
    obtain ⟨q1, e1, T1⟩ := pA_ok (lo := 1) (top := 31) (j := 11) (v := v) T (by decide) (by omega) v1 v2
    rw [List.length_cons] at h1 h2
    cases ws with
    | nil =>
      obtain ⟨-, -, x, -⟩ := Tk.s (ts := rest) T1
      refine ⟨q1, ?_, T1⟩
      unfold pWs
      rw [e1, bnd_r]
      show (if isW B n q1 11 = true then _ else _) = _
      rw [x 11, if_neg Bool.false_ne_true]
      rfl
    | cons u us =>
      rw [List.length_cons] at h1 h2
      obtain ⟨-, x, -, -⟩ := Tk.w (j := 11) (by decide) (show Tk B n q1 ((0, 11) :: (1, u) :: (wsT us ++ (2, 0) :: rest)) from T1)
      obtain ⟨q2, e2, T2⟩ := pWs_ok (u :: us) f (w + 1) q1 (up P 8 (6 * s + w) v) (List.cons_ne_nil _ _) (by rw [List.length_cons]; omega) (by rw [List.length_cons]; omega) (fun y hy => h3 y (List.mem_cons_of_mem _ hy)) T1
      refine ⟨q2, ?_, T2⟩
      unfold pWs
      rw [e1, bnd_r]
      show (if isW B n q1 11 = true then _ else _) = _
      rw [if_pos x, if_pos (by omega)]
      show pWs B n s f (w + 1) q1 (up P 8 (6 * s + w) v) = _
      rw [e2, List.length_cons, List.length_cons, List.length_cons, show w + 1 + (us.length + 1) = w + (us.length + 1 + 1) by omega]
      rfl
theorem ln_slate {ws : List Nat} (h0 : P 0 0 ≠ 0) (h4 : P 0 7 < 3) (h8 : P 0 4 ≤ 8) (ha : a < P 0 4) (hw0 : ws ≠ []) (hw6 : ws.length ≤ 6) (hw : ∀ v, v ∈ ws → 1 ≤ v ∧ v < 31) : LnS ((0, 10) :: (0, 8) :: (1, a) :: (wsT ws ++ [(2, 0)])) P (up (up (up (wsP (P 0 7) 0 ws (up P 6 (P 0 7) a)) 7 (P 0 7) ws.length) 0 7 (P 0 7 + 1)) 0 0 (P 0 0 + 1)) 1 := by
  refine LnS.one (ts := (0, 10) :: (0, 8) :: (1, a) :: wsT ws) (fun B n q rest T => ?_)
  obtain ⟨hq, w, w', T1⟩ := Tk.w (j := 10) (by decide) T
  obtain ⟨q1, e1, T2⟩ := pA_ok (lo := 0) (top := P 0 4) T1 (by decide) (by omega) (Nat.zero_le _) ha
  obtain ⟨q2, e2, T3⟩ := pWs_ok (s := P 0 7) ws 6 0 q1 (up P 6 (P 0 7) a) hw0 hw6 (by omega) hw T2
  refine ⟨hq, q2, ?_, T3⟩
  unfold bLine bSlate
  rw [if_neg h0, w' 4 (by decide) (by decide), if_neg Bool.false_ne_true, w' 6 (by decide) (by decide), if_neg Bool.false_ne_true, w' 7 (by decide) (by decide), if_neg Bool.false_ne_true, if_pos w, if_pos h4, e1, bnd_r, e2, bnd_r, Nat.zero_add]
/-- all of it -/
theorem ln_all {ts : List (Nat × Nat)} {Q : PT} {k m n : Nat} {B : Nat → Int32} (H : LnS ts Z0 Q k) (A : AtL B n 0 (tBs ts ++ List.replicate m 32)) : bAll B n (n + 1) (skp B n 0) Z0 = .inr Q := by
  have a1 := A.1
  rw [List.length_append] at a1
  have T : Tk B n (skp B n 0) (ts ++ []) := ⟨0, rfl, m, by rw [List.append_nil]; exact A⟩
  obtain ⟨q', e, T'⟩ := H.2 B n _ _ T
  have := H.1
  rw [show n + 1 = (n - k) + 1 + k by omega, e, T'.e]
  show (if n < n then _ else _) = _
  rw [if_neg (Nat.lt_irrefl _)]
end
