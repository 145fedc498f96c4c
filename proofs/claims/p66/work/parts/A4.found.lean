set_option maxRecDepth 100000
set_option maxHeartbeats 1000000
/-! what is found while states are left -/
theorem pop_set : ∀ e, e < 256 → ∀ x, x < 8 → pop (e ||| 2 ^ x) = if e.testBit x = true then pop e else pop e + 1 := by decide +kernel
theorem pop_sub {a b : Nat} (h : ∀ i, i < 8 → a.testBit i = true → b.testBit i = true) : pop a ≤ pop b := fb_ct_sub h
theorem pop_clr (a b : Nat) : pop (clr a b) ≤ pop a := pop_sub (fun i hi1 h => by
  rw [clr_bit _ _ (by omega)] at h
  cases ha : a.testBit i
  · rw [ha] at h; cases h
  · rfl)
theorem lb_step (P : PT) (s k : Nat) : pop (lbN P s (k + 1)) ≤ pop (lbN P s k) := by
  show pop (rubL P s (lbN P s k) (P 0 2)) ≤ _
  unfold rubL
  split
  · exact Nat.le_refl _
  · exact pop_clr _ _
theorem lb_anti (P : PT) (s i : Nat) : ∀ d, pop (lbN P s (i + d)) ≤ pop (lbN P s i) := by
  intro d
  induction d with
  | zero => exact Nat.le_refl _
  | succ d ih => exact Nat.le_trans (lb_step P s (i + d)) ih
theorem lb_mono (P : PT) (s : Nat) {i j : Nat} (h : i ≤ j) : pop (lbN P s j) ≤ pop (lbN P s i) := by
  have := lb_anti P s i (j - i)
  rw [show i + (j - i) = j by omega] at this
  exact this
def vW (P : PT) (s c : Nat) : Nat := pop (lbN P s (pop (c % 256) - 2)) + 1
def SNs (sn : Nat → Nat) (X : BQ) : Prop := (∀ c, X.2.2 c ≠ 0 → sn (c / 256) ≠ 0 ∧ sn (c / 256) ≤ X.2.2 c) ∧ ∀ x, sn x ≠ 0 → ∃ c, X.2.2 c ≠ 0 ∧ c / 256 = x ∧ X.2.2 c = sn x
def MWs (P : PT) (s : Nat) (mw : Nat → Nat) (X : BQ) : Prop := (∀ c, X.2.2 c ≠ 0 → ∀ b, (c % 256).testBit b = true → b ≠ P 6 s → vW P s c ≤ mw b) ∧ (∀ x, x ≠ P 6 s → mw x ≠ 0 → ∃ c, X.2.2 c ≠ 0 ∧ c / 256 = x ∧ vW P s c = mw x) ∧ mw (P 6 s) = pop (lbN P s 0) + 1
def MHp (mh : Nat → Nat) (X : BQ) : Prop := (∀ c n, X.2.2 c = n + 1 → n < 8 → pop (c % 256) ≤ mh n) ∧ (∀ n, n < 8 → mh n ≠ 0 → ∃ c, X.2.2 c = n + 1 ∧ pop (c % 256) = mh n) ∧ ∀ n, mh n ≤ 8
theorem ent_to (Y : BQ) (c v : Nat) : (entE Y c v).2.2 c ≠ 0 := by
  unfold entE
  split
  · show (if c = c then v + 1 else _) ≠ 0
    rw [if_pos rfl]; omega
  · rename_i h; exact h
theorem ent_old {Y : BQ} {c v d : Nat} (h : Y.2.2 d ≠ 0) : (entE Y c v).2.2 d = Y.2.2 d := by
  unfold entE
  split
  · rename_i q
    show (if d = c then v + 1 else Y.2.2 d) = _
    rw [if_neg (fun z : d = c => h (by rw [z]; exact q))]
  · rfl
theorem ent_is {Y : BQ} {c v d : Nat} (h : (entE Y c v).2.2 d ≠ 0) : d = c ∨ Y.2.2 d ≠ 0 := by
  by_cases z : Y.2.2 d = 0
  · left
    unfold entE at h
    split at h
    · have h : (if d = c then v + 1 else Y.2.2 d) ≠ 0 := h
      by_cases y : d = c
      · exact y
      · rw [if_neg y] at h; exact absurd z h
    · exact absurd z h
  · exact Or.inr z
theorem ent_new {Y : BQ} {c v : Nat} (h : Y.2.2 c = 0) : (entE Y c v).2.2 c = v + 1 := by
  unfold entE
  rw [if_pos h]
  show (if c = c then v + 1 else _) = _
  rw [if_pos rfl]
section
variable {P : PT} {s t k x : Nat} {Y : BQ} {sn mw mh : Nat → Nat}
theorem SN_step (hw : WE P s Y) (hn : NE k Y) (hk : k < Y.2.1) (hx : x < 8) (h : SNs sn Y) : SNs (if sn x = 0 then fuN sn x (Y.2.2 (Y.1 k) + 1) else sn) (entE Y (toE (Y.1 k) x) (Y.2.2 (Y.1 k))) := by
  obtain ⟨h1, h2⟩ := h
  have hdv : toE (Y.1 k) x / 256 = x := toE_div hx
  have hmax : ∀ c, Y.2.2 c ≠ 0 → Y.2.2 c ≤ Y.2.2 (Y.1 k) + 1 := fun c hc => by
    obtain ⟨i, h3, h4⟩ := hw.2.1 c hc
    have := hn i h3
    rw [h4] at this
    exact this
  refine ⟨fun c hc => ?_, fun y hy => ?_⟩
  · by_cases zc : Y.2.2 c = 0
    · rcases ent_is hc with e | e
      · rw [e, hdv, ent_new (e ▸ zc)]
        by_cases z : sn x = 0
        · rw [if_pos z]
          show (if x = x then _ else _) ≠ 0 ∧ (if x = x then _ else _) ≤ _
          rw [if_pos rfl]
          exact ⟨by omega, Nat.le_refl _⟩
        · rw [if_neg z]
          obtain ⟨d, h3, h4, h5⟩ := h2 x z
          have := hmax d h3
          exact ⟨z, by omega⟩
      · exact absurd zc e
    · rw [ent_old zc]
      have h3 := h1 c zc
      by_cases z : sn x = 0
      · rw [if_pos z]
        show (if c / 256 = x then _ else sn (c / 256)) ≠ 0 ∧ (if c / 256 = x then _ else sn (c / 256)) ≤ _
        rw [if_neg (fun q => h3.1 (by rw [q]; exact z))]
        exact h3
      · rw [if_neg z]; exact h3
  · by_cases z : sn x = 0
    · rw [if_pos z] at hy ⊢
      by_cases zy : y = x
      · subst zy
        have hto : Y.2.2 (toE (Y.1 k) y) = 0 := by
          by_cases q : Y.2.2 (toE (Y.1 k) y) = 0
          · exact q
          · have := (h1 _ q).1
            rw [hdv] at this
            exact absurd z this
        refine ⟨_, ent_to _ _ _, hdv, ?_⟩
        rw [ent_new hto]
        show _ = if y = y then _ else _
        rw [if_pos rfl]
      · have hy : (if y = x then _ else sn y) ≠ 0 := hy
        rw [if_neg zy] at hy
        obtain ⟨c, h3, h4, h5⟩ := h2 y hy
        refine ⟨c, by rw [ent_old h3]; exact h3, h4, ?_⟩
        show _ = if y = x then _ else sn y
        rw [ent_old h3, if_neg zy, h5]
    · rw [if_neg z] at hy ⊢
      obtain ⟨c, h3, h4, h5⟩ := h2 y hy
      exact ⟨c, by rw [ent_old h3]; exact h3, h4, by rw [ent_old h3, h5]⟩
theorem MW_step (hw : WE P s Y) (hk : k < Y.2.1) (hx : x < 8) (h : MWs P s mw Y) : MWs P s (if (Y.1 k % 256).testBit x = true then mw else fuN mw x (max (mw x) (pop (lbN P s (pop (Y.1 k % 256) - 1)) + 1))) (entE Y (toE (Y.1 k) x) (Y.2.2 (Y.1 k))) := by
  obtain ⟨h1, h2, h0⟩ := h
  obtain ⟨c, hc⟩ : ∃ c, c = Y.1 k := ⟨_, rfl⟩
  rw [← hc]
  have hcD : Y.2.2 c ≠ 0 := by rw [hc]; exact hw.1 k hk
  have hOK := hw.2.2.2.2.2.1 c hcD
  have hdv : toE c x / 256 = x := toE_div hx
  have hmd : toE c x % 256 = (c % 256 ||| 2 ^ x) := toE_mod hx
  have hps := pop_set (c % 256) (Nat.mod_lt _ (by decide)) x hx
  have hpp := pop_pos (c % 256) (Nat.mod_lt _ (by decide)) (met_pos hOK.2.2)
  by_cases z : (c % 256).testBit x = true
  · rw [if_pos z] at hps ⊢
    have hv : vW P s (toE c x) = vW P s c := by unfold vW; rw [hmd, hps]
    refine ⟨fun d hd b hb1 hb2 => ?_, fun y hy1 hy2 => ?_, h0⟩
    · rcases ent_is hd with e | e
      · rw [e, hv]
        rw [e, hmd, fb_bit_set] at hb1
        by_cases zb : b = x
        · subst zb; exact h1 c hcD b z hb2
        · simp [zb] at hb1
          exact h1 c hcD b hb1 hb2
      · exact h1 d e b hb1 hb2
    · obtain ⟨d, h3, h4, h5⟩ := h2 y hy1 hy2
      exact ⟨d, by rw [ent_old h3]; exact h3, h4, h5⟩
  · rw [if_neg z] at hps ⊢
    have hv : vW P s (toE c x) = pop (lbN P s (pop (c % 256) - 1)) + 1 := by unfold vW; rw [hmd, hps, show pop (c % 256) + 1 - 2 = pop (c % 256) - 1 by omega]
    have hxf : ¬ x = P 6 s := fun q => z (q ▸ hOK.2.2)
    have hge : ∀ b, mw b ≤ fuN mw x (max (mw x) (pop (lbN P s (pop (c % 256) - 1)) + 1)) b := fun b => by
      unfold fuN
      split
      · rename_i q; rw [q]; omega
      · exact Nat.le_refl _
    refine ⟨fun d hd b hb1 hb2 => ?_, fun y hy1 hy2 => ?_, ?_⟩
    · by_cases zd : Y.2.2 d = 0
      · rcases ent_is hd with e | e
        · rw [e, hv]
          rw [e, hmd, fb_bit_set] at hb1
          by_cases zb : b = x
          · rw [zb]
            show _ ≤ if x = x then _ else _
            rw [if_pos rfl]
            omega
          · simp [zb] at hb1
            have h3 := h1 c hcD b hb1 hb2
            have h4 := lb_mono P s (i := pop (c % 256) - 2) (j := pop (c % 256) - 1) (by omega)
            have h5 := hge b
            unfold vW at h3
            omega
        · exact absurd zd e
      · exact Nat.le_trans (h1 d zd b hb1 hb2) (hge b)
    · by_cases zy : y = x
      · subst zy
        have e : fuN mw y (max (mw y) (pop (lbN P s (pop (c % 256) - 1)) + 1)) y = max (mw y) (pop (lbN P s (pop (c % 256) - 1)) + 1) := if_pos rfl
        rw [e]
        by_cases q : mw y ≤ pop (lbN P s (pop (c % 256) - 1)) + 1
        · exact ⟨_, ent_to _ _ _, hdv, by rw [hv]; omega⟩
        · obtain ⟨d, h3, h4, h5⟩ := h2 y hy1 (by omega)
          exact ⟨d, by rw [ent_old h3]; exact h3, h4, by omega⟩
      · have e : fuN mw x (max (mw x) (pop (lbN P s (pop (c % 256) - 1)) + 1)) y = mw y := if_neg zy
        rw [e] at hy2 ⊢
        obtain ⟨d, h3, h4, h5⟩ := h2 y hy1 hy2
        exact ⟨d, by rw [ent_old h3]; exact h3, h4, h5⟩
    · show (if P 6 s = x then _ else mw (P 6 s)) = _
      rw [if_neg (fun q => hxf q.symm), h0]
theorem MH_ent {c v : Nat} (hc : pop (c % 256) ≤ 8) (h : MHp mh Y) : MHp (if Y.2.2 c = 0 ∧ v < 8 then fuN mh v (max (mh v) (pop (c % 256))) else mh) (entE Y c v) := by
  obtain ⟨h1, h2, h3⟩ := h
  by_cases z : Y.2.2 c = 0
  · by_cases zv : v < 8
    · rw [if_pos ⟨z, zv⟩]
      refine ⟨fun d n hd hn1 => ?_, fun n hn1 hn2 => ?_, fun n => ?_⟩
      · unfold fuN
        by_cases zd : Y.2.2 d = 0
        · have e := (ent_is (Y := Y) (c := c) (v := v) (d := d) (by omega)).resolve_right (fun q => q zd)
          rw [e, ent_new z] at hd
          rw [if_pos (by omega), e]
          omega
        · rw [ent_old zd] at hd
          have := h1 d n hd hn1
          split
          · rename_i q; rw [q] at this; omega
          · exact this
      · by_cases zn : n = v
        · subst zn
          have e : fuN mh n (max (mh n) (pop (c % 256))) n = max (mh n) (pop (c % 256)) := if_pos rfl
          rw [e] at hn2 ⊢
          by_cases q : mh n ≤ pop (c % 256)
          · exact ⟨c, ent_new z, by omega⟩
          · obtain ⟨d, h4, h5⟩ := h2 n hn1 (by omega)
            exact ⟨d, by rw [ent_old (by omega)]; exact h4, by omega⟩
        · have e : fuN mh v (max (mh v) (pop (c % 256))) n = mh n := if_neg zn
          rw [e] at hn2 ⊢
          obtain ⟨d, h4, h5⟩ := h2 n hn1 hn2
          exact ⟨d, by rw [ent_old (by omega)]; exact h4, h5⟩
      · unfold fuN
        have := h3 n
        have := h3 v
        split <;> omega
    · rw [if_neg (fun q => zv q.2)]
      refine ⟨fun d n hd hn1 => ?_, fun n hn1 hn2 => ?_, h3⟩
      · by_cases zd : Y.2.2 d = 0
        · have e := (ent_is (Y := Y) (c := c) (v := v) (d := d) (by omega)).resolve_right (fun q => q zd)
          rw [e, ent_new z] at hd
          omega
        · rw [ent_old zd] at hd
          exact h1 d n hd hn1
      · obtain ⟨d, h4, h5⟩ := h2 n hn1 hn2
        exact ⟨d, by rw [ent_old (by omega)]; exact h4, h5⟩
  · rw [if_neg (fun q => z q.1)]
    have e : entE Y c v = Y := by unfold entE; rw [if_neg z]
    rw [e]
    exact ⟨h1, h2, h3⟩
end
