set_option maxRecDepth 100000
set_option maxHeartbeats 1000000
/-! what the DAYS come to, told of the Port alone -/
def Z0 : PT := fun _ _ => 0
def tdN (P : PT) (d : Nat) : PT := runN P (asTold P Z0) d
theorem told6 (P S T : PT) (k : Nat) (hk1 : k < 6) : asTold P S 0 k = asTold P T 0 k := by
  rcases (show k = 0 ∨ k = 1 ∨ k = 2 ∨ k = 3 ∨ k = 4 ∨ k = 5 by omega) with rfl | rfl | rfl | rfl | rfl | rfl <;> rfl
theorem td_eq {P : PT} (hW : WFP P) (S : PT) (d : Nat) {j k : Nat} (hu : UIn P j k) (hn1 : j ≠ 0 ∨ k < 6) : runN P (asTold P S) d j k = tdN P d j k := (runN_same hW (told6 P S Z0) d).at hu hn1
theorem td_eq1 {P : PT} (hW : WFP P) (S : PT) (d : Nat) {j k : Nat} (hu : UIn P j k) : runN P (asTold P S) (d + 1) j k = tdN P (d + 1) j k := runN_same1 hW (told6 P S Z0) d j k hu
theorem heN_c {T U : PT} {s : Nat} : ∀ n, n ≤ 8 → (∀ a, a < n → T 4 (8 * s + a) = U 4 (8 * s + a)) → heN T s n = heN U s n := by
  intro n
  induction n with
  | zero => intro _ _; rfl
  | succ n ih =>
    intro hn1 q
    unfold heN
    rw [ih (by omega) (fun a ha => q a (by omega)), q n (by omega)]
theorem heard_eq {P : PT} (hW : WFP P) (S : PT) (d : Nat) {s : Nat} (hs : s < P 0 7) : heard P (runN P (asTold P S) d) s = heard P (tdN P d) s := by
  have hb := hW.all
  exact heN_c _ hb.2.2.2.1 (fun a ha => td_eq hW S d (by unfold UIn; omega) (by omega))
theorem td3 {P : PT} (hW : WFP P) (d : Nat) {s : Nat} (hs : s < P 0 7) : tdN P d 3 s < 2 ^ P 7 s := WFS3 hW (WFX_told hW Z0) d hs
theorem td4 {P : PT} (hW : WFP P) (d : Nat) {k : Nat} (hk1 : k < 24) : tdN P d 4 k < 64 := WFS4 hW (WFX_told hW Z0) d hk1
theorem td6 {P : PT} (hW : WFP P) (d : Nat) {k : Nat} (hk1 : k < 32) : tdN P d 6 k ≤ 5 := (WFB_run hW (WFX_told hW Z0) d).2.2.2.2.2.2.2.2.1 k hk1
theorem td7 {P : PT} (hW : WFP P) (d : Nat) {k : Nat} (hk1 : k < 32) : tdN P d 7 k ≤ 201 := (WFB_run hW (WFX_told hW Z0) d).2.2.2.2.2.2.2.2.2 k hk1
section
variable {W : St} {h g : St} {P S : PT}
theorem k_carrierOn (H : Inv W g P) (b : DRel g oD P (asTold P S)) {m day : Nat} (hm : m < P 0 6) (hday : day ≤ P 0 1) : DX3_carrierOn (sI (sI (sR fr0 0 oD) 1 (nI m)) 2 (nI day)) g = some (nI (tdN P day 1 m), g) := by
  have hb := H.w.all
  rw [x_carrierOn H.ds H.w b (by omega) hday, td_eq H.w S day (by unfold UIn; omega) (by omega)]
theorem k_slateOn (H : Inv W g P) (b : DRel g oD P (asTold P S)) {s day : Nat} (hs : s < P 0 7) (hday : day ≤ P 0 1) : DX3_slateOn (sI (sI (sR fr0 0 oD) 1 (nI s)) 2 (nI day)) g = some (nI (tdN P day 2 s), g) := by
  have hb := H.w.all
  rw [x_slateOn H.ds H.w b (by omega) hday, td_eq H.w S day (by unfold UIn; omega) (by omega)]
theorem k_leftOn (H : Inv W g P) (b : DRel g oD P (asTold P S)) {s day : Nat} (hs : s < P 0 7) (hday : day ≤ P 0 1) : DX3_leftOn (sI (sI (sR fr0 0 oD) 1 (nI s)) 2 (nI day)) g = some (nI (tdN P day 3 s), g) := by
  have hb := H.w.all
  rw [x_leftOn H.ds H.w b (by omega) hday, td_eq H.w S day (by unfold UIn; omega) (by omega)]
theorem k_knownOn (H : Inv W g P) (b : DRel g oD P (asTold P S)) {a s day : Nat} (ha : a < P 0 4) (hs : s < P 0 7) (hday : day ≤ P 0 1) : DX3_knownOn (sI (sI (sI (sR fr0 0 oD) 1 (nI a)) 2 (nI s)) 3 (nI day)) g = some (nI (tdN P day 4 (8 * s + a)), g) := by
  have hb := H.w.all
  rw [x_knownOn H.ds H.w b (by omega) (by omega) hday, td_eq H.w S day (by unfold UIn; omega) (by omega)]
theorem k_reasonOf (H : Inv W g P) (b : DRel g oD P (asTold P S)) {i : Nat} (hi1 : i < 32) : DX3_reasonOf (sI (sR fr0 0 oD) 1 (nI i)) g = some (nI (tdN P (P 0 1) 6 i), g) := by
  rw [x_reasonOf H.ds b hi1, td_eq H.w S _ (by unfold UIn; omega) (by omega)]
theorem k_hearersOn (H : Inv W g P) (b : DRel g oD P (asTold P S)) {s day : Nat} (hs : s < P 0 7) (hday : day ≤ P 0 1) : DX3_hearersOn (sI (sI (sR (sR fr0 0 oD) 1 oP) 2 (nI s)) 3 (nI day)) g = some (nI (heard P (tdN P day) s), g) := by
  have hb := H.w.all
  rw [x_hearersOn H.ds H.pg (WFX_told H.w S) b (by omega) hday, heard_eq H.w S day hs]
theorem n_shl2 {k : Nat} (hk1 : k < 32) : (nI 1 <<< (nI k &&& nI 31) : Int32) = nI (2 ^ k) := by
  have h1 : 2 ^ k < 2 ^ 32 := pow_lt hk1
  rw [n_shlk hk1 (by omega), Nat.one_mul]
/-- bits, counts, sums of what is done -/
def flN (P T : PT) (s : Nat) : Nat → Nat
  | 0 => 0
  | a + 1 => if T 4 (8 * s + a) = allW P s then flN P T s a ||| 2 ^ a else flN P T s a
def dnN (T : PT) : Nat → Nat
  | 0 => 0
  | i + 1 => if T 6 i = 0 then dnN T i ||| 2 ^ i else dnN T i
def ctN (P T : PT) (j v : Nat) : Nat → Nat
  | 0 => 0
  | i + 1 => if P j i = v ∧ T 6 i = 0 then ctN P T j v i + 1 else ctN P T j v i
def tlN (P T : PT) (v : Nat) : Nat → Nat
  | 0 => 0
  | i + 1 => if P 10 i = v ∧ T 6 i = 0 then tlN P T v i + (T 7 i - 1) else tlN P T v i
theorem ctN_le (P T : PT) (j v : Nat) : ∀ n, ctN P T j v n ≤ n := by
  intro n
  induction n with
  | zero => exact Nat.le_refl _
  | succ n ih =>
    show (if P j n = v ∧ T 6 n = 0 then ctN P T j v n + 1 else ctN P T j v n) ≤ _
    split <;> omega
/-- what is done has a load -/
theorem done7 {P : PT} (S : PT) : ∀ d i, runN P S d 6 i = 0 → runN P S d 7 i ≠ 0 := by
  have hs : ∀ (U : PT) (d i : Nat), (∀ c, U 6 c = 0 → U 7 c ≠ 0) → ∀ c, stepS P U d i 6 c = 0 → stepS P U d i 7 c ≠ 0 := by
    intro U d i hU c
    unfold stepS
    split
    · split
      · rename_i z
        rw [car6, car7]
        intro h6
        split
        · omega
        · rename_i hc
          have e6 : up U 6 i (hinS P U i) 6 c = U 6 c := by simp [up, hc]
          have e7 : up U 6 i (hinS P U i) 7 c = U 7 c := by simp [up]
          rw [e6] at h6
          rw [e7]
          exact hU c h6
      · rename_i z
        intro h6
        have e7 : up U 6 i (hinS P U i) 7 c = U 7 c := by simp [up]
        rw [e7]
        by_cases hc : c = i
        · subst hc
          rw [up_eq] at h6
          exact absurd h6 z
        · have e6 : up U 6 i (hinS P U i) 6 c = U 6 c := by simp [up, hc]
          rw [e6] at h6
          exact hU c h6
    · exact hU c
  intro d
  induction d with
  | zero =>
    intro i h6
    exact absurd h6 (by simp [runN, begS])
  | succ d ih =>
    have hk : ∀ k c, dayN P (runN P S d) d k 6 c = 0 → dayN P (runN P S d) d k 7 c ≠ 0 := by
      intro k
      induction k with
      | zero =>
        intro c h6
        have e6 : up (up (runN P S d) 0 6 0) 0 7 0 6 c = runN P S d 6 c := by simp [up]
        have e7 : up (up (runN P S d) 0 6 0) 0 7 0 7 c = runN P S d 7 c := by simp [up]
        show up (up (runN P S d) 0 6 0) 0 7 0 7 c ≠ 0
        rw [e7]
        refine ih c ?_
        rw [← e6]
        exact h6
      | succ k ihk => exact hs _ _ _ ihk
    intro i
    exact hk (P 9 1) i
end
