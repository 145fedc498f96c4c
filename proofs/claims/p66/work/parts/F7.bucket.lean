set_option maxRecDepth 100000
set_option maxHeartbeats 1000000
/-! states awaited, state by state settled: what holds (plain numbers, lists) -/
def fuL (ls : Nat → List Nat) (u : Nat) (l : List Nat) : Nat → List Nat := fun v => if v = u then l else ls v
theorem fuL_eq (ls : Nat → List Nat) (u : Nat) (l : List Nat) : fuL ls u l u = l := if_pos rfl
theorem fuL_ne (ls : Nat → List Nat) {u v : Nat} (l : List Nat) (h : v ≠ u) : fuL ls u l v = ls v := if_neg h
/-- of: strength t, marks, lists, states awaited, how many, least strengths by one more, how many popped; state cc left by its doors below k -/
def AB (P : PT) (s t : Nat) (mk : Nat → Nat) (ls : Nat → List Nat) (aw : Nat → Nat) (n : Nat) (nd : Nat → Nat) (pp cc k : Nat) : Prop :=
  (∀ c, mk c ≠ 0 → Rt P s t c) ∧ (∀ u, u < t → ls u = []) ∧ (∀ u, u < 201 → ∀ i ∈ ls u, i < n ∧ Rt P s u (aw i)) ∧
  (∀ c x, mk c ≠ 0 → x < P 0 4 → dorE P c x → (c = cc → x < k) → mk (toE c x) ≠ 0 ∨ ∃ u, u ≤ max t (ewE P s c x) ∧ u < 201 ∧ ∃ i ∈ ls u, aw i = toE c x) ∧
  (mk (c0E P s) ≠ 0 ∨ ∃ i ∈ ls 0, aw i = c0E P s) ∧
  fb_sm (fun u => (ls u).length) 201 + pp = n ∧
  n + (deE P cc - cdE P cc k) ≤ 1 + WM P mk ∧
  (∀ x, x < 8 → (nd x ≠ 0 ↔ ∃ c, mk c ≠ 0 ∧ c / 256 = x) ∧ (nd x ≠ 0 → nd x ≤ t + 1 ∧ soE P s (nd x - 1) x ≠ 0 ∧ ∀ v, v < nd x - 1 → soE P s v x = 0)) ∧
  (∀ v, v < t → ∀ c, Rt P s v c → mk c ≠ 0)
section
variable {P : PT} {s t : Nat} {mk : Nat → Nat} {ls : Nat → List Nat} {aw : Nat → Nat} {n : Nat} {nd : Nat → Nat} {pp cc k : Nat}
theorem AB.lt (H : AB P s t mk ls aw n nd pp cc k) (hW : WFP P) (hs : s < P 0 7) : n + (deE P cc - cdE P cc k) ≤ 3073 := by
  have h1 := H.2.2.2.2.2.2.1
  have h2 := WM_le hW hs (mk := mk) (fun c hc => Rt_ok hW hs (H.1 c hc))
  omega
/-- all of a state's doors done: it may be any state -/
theorem AB.any (H : AB P s t mk ls aw n nd pp cc k) (hk : P 0 4 ≤ k) (hd : cdE P cc k = deE P cc) (c' : Nat) : AB P s t mk ls aw n nd pp c' 8 := by
  obtain ⟨h1, h2, h3, h4, h5, h6, h7, h8, h9⟩ := H
  refine ⟨h1, h2, h3, fun c x a b d _ => h4 c x a b d (fun _ => by omega), h5, h6, ?_, h8, h9⟩
  rw [cd_8, Nat.sub_self]
  omega
theorem AB.skip (H : AB P s t mk ls aw n nd pp cc k) (hd : ¬ dorE P cc k) : AB P s t mk ls aw n nd pp cc (k + 1) := by
  obtain ⟨h1, h2, h3, h4, h5, h6, h7, h8, h9⟩ := H
  have e : cdE P cc (k + 1) = cdE P cc k := by
    unfold cdE
    rw [fb_ct_succ]
    have : (doors P (cc / 256) 0).testBit k = false := by
      cases q : (doors P (cc / 256) 0).testBit k
      · rfl
      · exact absurd q hd
    rw [this]
    rfl
  refine ⟨h1, h2, h3, fun c x a b d e => h4 c x a b d (fun q => ?_), h5, h6, by rw [e]; exact h7, h8, h9⟩
  have := e q
  by_cases y : x = k
  · subst y; subst q; exact absurd d hd
  · omega
/-- a state more is awaited -/
theorem AB.await (H : AB P s t mk ls aw n nd pp cc k) (hW : WFP P) (hs : s < P 0 7) (ht : t < 201) (hk : k < P 0 4) (hd : dorE P cc k) (hm : mk cc ≠ 0) : AB P s t mk (fuL ls (max t (ewE P s cc k)) (n :: ls (max t (ewE P s cc k)))) (fuN aw n (toE cc k)) (n + 1) nd pp cc (k + 1) ∧ n < 3073 ∧ max t (ewE P s cc k) < 201 := by
  have hb := hW.all
  have hlt := H.lt hW hs
  have hew := ewE_le hW hs cc hk
  have hcd : cdE P cc (k + 1) = cdE P cc k + 1 := by
    unfold cdE
    rw [fb_ct_succ]
    have : (doors P (cc / 256) 0).testBit k = true := hd
    rw [this]
    rfl
  have hcl := cd_le P cc (k := k + 1) (by omega)
  obtain ⟨u, hu⟩ : ∃ u, u = max t (ewE P s cc k) := ⟨_, rfl⟩
  have hu2 : u < 201 := by omega
  have hu3 : t ≤ u ∧ ewE P s cc k ≤ u := by omega
  rw [← hu]
  obtain ⟨h1, h2, h3, h4, h5, h6, h7, h8, h9⟩ := H
  have haw : ∀ v, v < 201 → ∀ i ∈ ls v, fuN aw n (toE cc k) i = aw i := fun v hv i hi1 => by
    have := (h3 v hv i hi1).1
    unfold fuN
    rw [if_neg (by omega)]
  have hin : ∀ v i, i ∈ ls v → i ∈ fuL ls u (n :: ls u) v := fun v i hi1 => by
    by_cases z : v = u
    · subst z; rw [fuL_eq]; exact List.mem_cons_of_mem _ hi1
    · rw [fuL_ne ls _ z]; exact hi1
  refine ⟨⟨h1, fun v hv => by rw [fuL_ne ls _ (by omega)]; exact h2 v hv, fun v hv i hi1 => ?_, fun c x a b d e => ?_, ?_, ?_, by omega, h8, h9⟩, by omega, hu2⟩
  · by_cases z : v = u
    · subst z
      rw [fuL_eq] at hi1
      rcases List.mem_cons.mp hi1 with q | q
      · subst q
        refine ⟨by omega, ?_⟩
        show Rt P s v (if i = i then toE cc k else aw i)
        rw [if_pos rfl]
        exact Rt_cl hW hs (Rt_mono hW hs hu3.1 (h1 cc hm)) hk ⟨hd, hu3.2⟩
      · rw [haw v hv i q]
        exact ⟨by have := (h3 v hv i q).1; omega, (h3 v hv i q).2⟩
    · rw [fuL_ne ls _ z] at hi1
      rw [haw v hv i hi1]
      exact ⟨by have := (h3 v hv i hi1).1; omega, (h3 v hv i hi1).2⟩
  · by_cases y : c = cc ∧ x = k
    · obtain ⟨rfl, rfl⟩ := y
      refine Or.inr ⟨u, by omega, hu2, n, by rw [fuL_eq]; exact List.mem_cons_self, ?_⟩
      show (if n = n then toE c x else aw n) = _
      rw [if_pos rfl]
    · rcases h4 c x a b d (fun q => by have := e q; omega) with q | ⟨v, v1, v2, i, i1, i2⟩
      · exact Or.inl q
      · exact Or.inr ⟨v, v1, v2, i, hin v i i1, by rw [haw v v2 i i1]; exact i2⟩
  · rcases h5 with q | ⟨i, i1, i2⟩
    · exact Or.inl q
    · exact Or.inr ⟨i, hin 0 i i1, by rw [haw 0 (by decide) i i1]; exact i2⟩
  · have e := fb_sm_upd (fun u => (ls u).length) ((n :: ls u).length) (i := u) (n := 201) hu2
    have e2 : fb_sm (fun v => (fuL ls u (n :: ls u) v).length) 201 = fb_sm (fun k => if k = u then (n :: ls u).length else (ls k).length) 201 := fb_sm_cong (fun v _ => by
      unfold fuL
      by_cases z : v = u
      · rw [if_pos z, if_pos z]
      · rw [if_neg z, if_neg z])
    rw [e2]
    have e3 : (n :: ls u).length = (ls u).length + 1 := rfl
    rw [e3] at e ⊢
    omega
/-- the latest of a list is taken: it is marked already -/
theorem AB.seen (H : AB P s t mk ls aw n nd pp cc 8) (hW : WFP P) {i : Nat} {l : List Nat} (ht : t < 201) (hl : ls t = i :: l) (hm : mk (aw i) ≠ 0) : AB P s t mk (fuL ls t l) aw n nd (pp + 1) cc 8 := by
  have hb := hW.all
  obtain ⟨h1, h2, h3, h4, h5, h6, h7, h8, h9⟩ := H
  have hsub : ∀ v j, j ∈ fuL ls t l v → j ∈ ls v := fun v j hj => by
    by_cases z : v = t
    · subst z; rw [fuL_eq] at hj; rw [hl]; exact List.mem_cons_of_mem _ hj
    · rw [fuL_ne ls _ z] at hj; exact hj
  have hback : ∀ v j, j ∈ ls v → j ∈ fuL ls t l v ∨ j = i := fun v j hj => by
    by_cases z : v = t
    · subst z
      rw [hl] at hj
      rcases List.mem_cons.mp hj with q | q
      · exact Or.inr q
      · rw [fuL_eq]; exact Or.inl q
    · rw [fuL_ne ls _ z]; exact Or.inl hj
  refine ⟨h1, fun v hv => by rw [fuL_ne ls _ (by omega)]; exact h2 v hv, fun v hv j hj => h3 v hv j (hsub v j hj), fun c x a b d e => ?_, ?_, ?_, h7, h8, h9⟩
  · rcases h4 c x a b d e with q | ⟨v, v1, v2, j, j1, j2⟩
    · exact Or.inl q
    · rcases hback v j j1 with q | rfl
      · exact Or.inr ⟨v, v1, v2, j, q, j2⟩
      · rw [← j2]; exact Or.inl hm
  · rcases h5 with q | ⟨j, j1, j2⟩
    · exact Or.inl q
    · rcases hback 0 j j1 with q | rfl
      · exact Or.inr ⟨j, q, j2⟩
      · rw [← j2]; exact Or.inl hm
  · have e := fb_sm_upd (fun u => (ls u).length) l.length (i := t) (n := 201) ht
    have e2 : fb_sm (fun v => (fuL ls t l v).length) 201 = fb_sm (fun k => if k = t then l.length else (ls k).length) 201 := fb_sm_cong (fun v _ => by
      unfold fuL
      by_cases z : v = t
      · rw [if_pos z, if_pos z]
      · rw [if_neg z, if_neg z])
    rw [e2]
    have e3 : (ls t).length = l.length + 1 := by rw [hl]; rfl
    have e : _ + (ls t).length = _ := e
    rw [e3] at e
    omega
def ndE (nd : Nat → Nat) (x t : Nat) : Nat → Nat := if nd x = 0 then fuN nd x (t + 1) else nd
/-- the latest of a list is taken: it is marked now, none of its doors is looked at -/
theorem AB.mark (H : AB P s t mk ls aw n nd pp cc 8) (hW : WFP P) (hs : s < P 0 7) {i : Nat} {l : List Nat} (ht : t < 201) (hl : ls t = i :: l) (hm : mk (aw i) = 0) : AB P s t (fuN mk (aw i) 1) (fuL ls t l) aw n (ndE nd (aw i / 256) t) (pp + 1) (aw i) 0 := by
  have hb := hW.all
  obtain ⟨c', hc'⟩ : ∃ c', c' = aw i := ⟨_, rfl⟩
  have hR : Rt P s t c' := by
    rw [hc']; exact (H.2.2.1 t ht i (by rw [hl]; exact List.mem_cons_self)).2
  have hok := Rt_ok hW hs hR
  have hlt := OKc.lt hok hb.2.2.2.1
  obtain ⟨h1, h2, h3, h4, h5, h6, h7, h8, h9⟩ := H
  rw [← hc'] at hm ⊢
  have hmk : ∀ c, fuN mk c' 1 c ≠ 0 ↔ mk c ≠ 0 ∨ c = c' := fun c => by
    unfold fuN
    by_cases z : c = c'
    · rw [if_pos z]; exact ⟨fun _ => Or.inr z, fun _ => by decide⟩
    · rw [if_neg z]; exact ⟨fun q => Or.inl q, fun q => q.elim id (fun y => absurd y z)⟩
  have hsub : ∀ v j, j ∈ fuL ls t l v → j ∈ ls v := fun v j hj => by
    by_cases z : v = t
    · subst z; rw [fuL_eq] at hj; rw [hl]; exact List.mem_cons_of_mem _ hj
    · rw [fuL_ne ls _ z] at hj; exact hj
  have hback : ∀ v j, j ∈ ls v → j ∈ fuL ls t l v ∨ j = i := fun v j hj => by
    by_cases z : v = t
    · subst z
      rw [hl] at hj
      rcases List.mem_cons.mp hj with q | q
      · exact Or.inr q
      · rw [fuL_eq]; exact Or.inl q
    · rw [fuL_ne ls _ z]; exact Or.inl hj
  refine ⟨fun c hc => ?_, fun v hv => by rw [fuL_ne ls _ (by omega)]; exact h2 v hv, fun v hv j hj => h3 v hv j (hsub v j hj), fun c x a b d e => ?_, ?_, ?_, ?_, fun x hx => ?_, fun v hv c hc => (hmk c).mpr (Or.inl (h9 v hv c hc))⟩
  · rcases (hmk c).mp hc with q | q
    · exact h1 c q
    · rw [q]; exact hR
  · rcases (hmk c).mp a with q | q
    · rcases h4 c x q b d (fun _ => by omega) with q | ⟨v, v1, v2, j, j1, j2⟩
      · exact Or.inl ((hmk _).mpr (Or.inl q))
      · rcases hback v j j1 with q | rfl
        · exact Or.inr ⟨v, v1, v2, j, q, j2⟩
        · exact Or.inl ((hmk _).mpr (Or.inr (by rw [← j2, hc'])))
    · exact absurd (e q) (Nat.not_lt_zero _)
  · rcases h5 with q | ⟨j, j1, j2⟩
    · exact Or.inl ((hmk _).mpr (Or.inl q))
    · rcases hback 0 j j1 with q | rfl
      · exact Or.inr ⟨j, q, j2⟩
      · exact Or.inl ((hmk _).mpr (Or.inr (by rw [← j2, hc'])))
  · have e := fb_sm_upd (fun u => (ls u).length) l.length (i := t) (n := 201) ht
    have e2 : fb_sm (fun v => (fuL ls t l v).length) 201 = fb_sm (fun k => if k = t then l.length else (ls k).length) 201 := fb_sm_cong (fun v _ => by
      unfold fuL
      by_cases z : v = t
      · rw [if_pos z, if_pos z]
      · rw [if_neg z, if_neg z])
    rw [e2]
    have e3 : (ls t).length = l.length + 1 := by rw [hl]; rfl
    have e : _ + (ls t).length = _ := e
    rw [e3] at e
    omega
  · have e := fb_sm_upd (fun c => if mk c ≠ 0 then deE P c else 0) (deE P c') (i := c') (n := 2048) hlt
    have e2 : WM P (fuN mk c' 1) = fb_sm (fun c => if c = c' then deE P c' else if mk c ≠ 0 then deE P c else 0) 2048 := fb_sm_cong (fun c _ => by
      unfold fuN
      by_cases z : c = c'
      · subst z; simp
      · simp [z])
    have e : _ + (if mk c' ≠ 0 then deE P c' else 0) = fb_sm (fun c => if mk c ≠ 0 then deE P c else 0) 2048 + deE P c' := e
    rw [if_neg (fun q => q hm)] at e
    rw [cd_8, Nat.sub_self] at h7
    have h7 : n + 0 ≤ 1 + fb_sm (fun c => if mk c ≠ 0 then deE P c else 0) 2048 := h7
    rw [e2]
    omega
  · obtain ⟨p1, p2⟩ := h8 x hx
    by_cases y : x = c' / 256
    · have hR2 : ∃ c, fuN mk c' 1 c ≠ 0 ∧ c / 256 = x := ⟨c', (hmk c').mpr (Or.inr rfl), y.symm⟩
      by_cases z : nd (c' / 256) = 0
      · have e : ndE nd (c' / 256) t x = t + 1 := by
          unfold ndE fuN
          rw [if_pos z, if_pos y]
        rw [e]
        refine ⟨⟨fun _ => hR2, fun _ => by omega⟩, fun _ => ⟨Nat.le_refl _, (so_Rt hW hs).mpr ⟨c', hR, y.symm⟩, fun v hv => ?_⟩⟩
        refine Classical.byContradiction fun q => ?_
        obtain ⟨d, d1, d2⟩ := (so_Rt hW hs).mp q
        have := h9 v (by omega) d d1
        rw [← y] at z
        exact (p1.mpr ⟨d, this, d2⟩) z
      · have e : ndE nd (c' / 256) t = nd := by
          unfold ndE
          rw [if_neg z]
        rw [e]
        rw [← y] at z
        exact ⟨⟨fun _ => hR2, fun _ => z⟩, p2⟩
    · have e : ndE nd (c' / 256) t x = nd x := by
        unfold ndE
        by_cases w : nd (c' / 256) = 0
        · rw [if_pos w]
          show (if x = c' / 256 then t + 1 else nd x) = nd x
          rw [if_neg y]
        · rw [if_neg w]
      rw [e]
      refine ⟨⟨fun q => ?_, fun q => ?_⟩, p2⟩
      · obtain ⟨c, c1, c2⟩ := p1.mp q
        exact ⟨c, (hmk c).mpr (Or.inl c1), c2⟩
      · obtain ⟨c, c1, c2⟩ := q
        rcases (hmk c).mp c1 with r | r
        · exact p1.mpr ⟨c, r, c2⟩
        · rw [r] at c2; exact absurd c2.symm y
/-- a strength is done: the next one -/
theorem AB.next (H : AB P s t mk ls aw n nd pp cc 8) (hW : WFP P) (hs : s < P 0 7) (hl : ls t = []) : AB P s (t + 1) mk ls aw n nd pp cc 8 ∧ ∀ c, Rt P s t c → mk c ≠ 0 := by
  have hb := hW.all
  obtain ⟨h1, h2, h3, h4, h5, h6, h7, h8, h9⟩ := H
  have hno : ∀ u, u ≤ t → ls u = [] := fun u hu => by
    by_cases z : u = t
    · rw [z]; exact hl
    · exact h2 u (by omega)
  have hall : ∀ c, Rt P s t c → mk c ≠ 0 := Rt_min hW hs (Cl := fun c => mk c ≠ 0) (by
    rcases h5 with q | ⟨i, i1, i2⟩
    · exact q
    · rw [hno 0 (Nat.zero_le _)] at i1
      cases i1) (fun c x _ c2 c3 c4 => by
    rcases h4 c x c2 c3 c4.1 (fun _ => by omega) with q | ⟨u, u1, u2, i, i1, i2⟩
    · exact q
    · have : ewE P s c x ≤ t := c4.2
      rw [hno u (by omega)] at i1
      cases i1)
  refine ⟨⟨fun c hc => Rt_mono hW hs (Nat.le_succ _) (h1 c hc), fun u hu => hno u (by omega), h3, fun c x a b d e => ?_, h5, h6, h7, fun x hx => ⟨(h8 x hx).1, fun q => ?_⟩, fun v hv c hc => hall c (Rt_mono hW hs (by omega) hc)⟩, hall⟩
  · rcases h4 c x a b d e with q | ⟨u, u1, u2, i, i1, i2⟩
    · exact Or.inl q
    · exact Or.inr ⟨u, by omega, u2, i, i1, i2⟩
  · obtain ⟨q1, q2, q3⟩ := (h8 x hx).2 q
    exact ⟨by omega, q2, q3⟩
/-- at the end: the least strengths -/
theorem AB.done (H : AB P s 201 mk ls aw n nd pp cc 8) (hW : WFP P) (hs : s < P 0 7) {x : Nat} (hx : x < 8) : nd x = neE P s x := by
  obtain ⟨h1, h2, h3, h4, h5, h6, h7, h8, h9⟩ := H
  obtain ⟨p1, p2⟩ := h8 x hx
  by_cases z : nd x = 0
  · rw [z]
    refine Eq.symm (Classical.byContradiction fun q => ?_)
    have h := (ne_so hW hs (t := 200) x).mpr ⟨q, ne_le x⟩
    obtain ⟨c, c1, c2⟩ := (so_Rt hW hs).mp h
    exact (p1.mpr ⟨c, h9 200 (by decide) c c1, c2⟩) z
  · obtain ⟨q1, q2, q3⟩ := p2 z
    by_cases y : nd x - 1 ≤ 200
    · have := ne_is hW hs y q2 q3
      omega
    · have h200 := q3 200 (by omega)
      exact absurd (so_200 hW hs q2) (fun q => q h200)
/-- how it begins -/
theorem AB.init (hW : WFP P) (hs : s < P 0 7) : AB P s 0 (fun _ => 0) (fuL (fun _ => []) 0 [0]) (fun _ => c0E P s) 1 (fun _ => 0) 0 0 8 := by
  refine ⟨fun c hc => absurd rfl hc, fun u hu => absurd hu (Nat.not_lt_zero u), fun u hu i hi1 => ?_, fun c x a => absurd rfl a, Or.inr ⟨0, by rw [fuL_eq]; exact List.mem_cons_self, rfl⟩, ?_, ?_, fun x hx => ⟨⟨fun q => absurd rfl q, fun ⟨c, c1, _⟩ => absurd rfl c1⟩, fun q => absurd rfl q⟩, fun v hv => absurd hv (Nat.not_lt_zero v)⟩
  · by_cases z : u = 0
    · rw [z, fuL_eq] at hi1
      rcases List.mem_cons.mp hi1 with q | q
      · subst q; exact ⟨by decide, Rt_0 hW hs⟩
      · cases q
    · rw [fuL_ne _ _ z] at hi1
      cases hi1
  · have e := fb_sm_upd (fun _ => 0) 1 (i := 0) (n := 201) (by decide)
    rw [fb_sm_const] at e
    have e2 : fb_sm (fun u => (fuL (fun _ => []) 0 [0] u).length) 201 = fb_sm (fun k => if k = 0 then 1 else 0) 201 := fb_sm_cong (fun u _ => by
      by_cases z : u = 0
      · rw [z, fuL_eq, if_pos rfl]; rfl
      · rw [fuL_ne _ _ z, if_neg z]; rfl)
    rw [e2]
    omega
  · rw [cd_8, Nat.sub_self]
    omega
end
