set_option maxRecDepth 100000
set_option maxHeartbeats 2000000
/-! what is made says it is the class, new -/
section
variable (L : Nat) (xs : Nat → Int32)
theorem S_hk {r : Nat} (h1 : 31 ≤ r) (h2 : r < 130) : hk (Efin L xs) r = KSm.getD (r - 31) (99, 0) := E_hk L xs h1 h2
theorem S_hr (o k : Nat) : hr (Efin L xs) o k = rfL 90 o k := rfl
theorem S_hi {r : Nat} (h1 : 31 ≤ r) (k : Nat) : hi (Efin L xs) r k = vlL 4 r k := E_hi L xs h1 k
theorem S_hl (r k : Nat) : hl (Efin L xs) r k = 0 := rfl
theorem S_z {r : Nat} (h1 : 31 ≤ r) (h2 : r ≠ 34 ∧ r ≠ 102) (k : Nat) : hi (Efin L xs) r k = 0 := by
  rw [S_hi L xs h1]
  refine vlL_0 4 (fun i hi1 => ?_) k
  rcases (show i = 0 ∨ i = 1 ∨ i = 2 ∨ i = 3 by omega) with rfl | rfl | rfl | rfl
  · exact fun z => h2.1 z.symm
  · exact fun z => h2.2 z.symm
  · exact fun z => h2.2 z.symm
  · exact fun z => h2.2 z.symm
theorem S_CO : CO (Efin L xs) := by
  have a1 : ∀ i, i < 18 → 31 ≤ (soK.getD i (0, (0, 0))).1 ∧ (soK.getD i (0, (0, 0))).1 < 130 ∧ KSm.getD ((soK.getD i (0, (0, 0))).1 - 31) (99, 0) = (soK.getD i (0, (0, 0))).2 := by decide +kernel
  have a2 : ∀ i, i < 22 → rfL 90 (soR.getD i (0, (0, 0))).1 (soR.getD i (0, (0, 0))).2.1 = (soR.getD i (0, (0, 0))).2.2 := by decide +kernel
  exact ⟨fun i hi1 => by rw [S_hk L xs (a1 i hi1).1 (a1 i hi1).2.1]; exact (a1 i hi1).2.2, fun i hi1 => a2 i hi1⟩
theorem S_PS {p : Nat} (h1 : 31 ≤ p) (h2 : p + 16 ≤ 130) (a1 : ∀ j, j < 16 → KSm.getD (p + j - 31) (99, 0) = (if j = 0 then 5 else if j = 9 then 1 else 13, [0, 8, 12, 12, 5, 5, 3, 3, 18, 0, 32, 32, 32, 32, 20, 20].getD j 0)) (a2 : ∀ j, j < 9 → rfL 90 p (8 + j) = p + 1 + j) (a3 : ∀ j, j < 6 → rfL 90 (p + 9) (3 + j) = p + 10 + j) : PS (Efin L xs) p := ⟨h1, fun j hj => by rw [S_hk L xs (by omega) (by omega)]; exact a1 j hj, a2, a3⟩
theorem S_PSp : PS (Efin L xs) oP := S_PS L xs (by decide) (by decide) (by decide +kernel) (by decide +kernel) (by decide +kernel)
theorem S_PSq : PS (Efin L xs) oQ := S_PS L xs (by decide) (by decide) (by decide +kernel) (by decide +kernel) (by decide +kernel)
theorem S_DS {d : Nat} (h1 : 31 ≤ d) (h2 : d + 14 ≤ 130) (a0 : KSm.getD (d + 1 - 31) (99, 0) = (2, 0)) (a1 : ∀ j, j < 8 → 1 ≤ j → KSm.getD (d + 1 + j - 31) (99, 0) = (13, cL8.getD j 0)) (a2 : ∀ j, j < 7 → rfL 90 (d + 1) (8 + j) = d + 1 + 1 + j) (a3 : KSm.getD (d - 31) (99, 0) = (3, 0)) (a4 : rfL 90 d 1 = d + 1) (a5 : ∀ j, j < 5 → rfL 90 d (2 + j) = d + 9 + j) (a6 : ∀ j, j < 5 → KSm.getD (d + 9 + j - 31) (99, 0) = (13, dL j)) : DS (Efin L xs) d :=
  ⟨⟨by omega, by rw [S_hk L xs (by omega) (by omega)]; exact a0, fun j hj hj1 => by rw [S_hk L xs (by omega) (by omega)]; exact a1 j hj hj1, a2⟩, by rw [S_hk L xs (by omega) (by omega)]; exact a3, a4, a5, fun j hj => by rw [S_hk L xs (by omega) (by omega)]; exact a6 j hj⟩
theorem S_DSd : DS (Efin L xs) oD := S_DS L xs (by decide) (by decide) (by decide +kernel) (by decide +kernel) (by decide +kernel) (by decide +kernel) (by decide +kernel) (by decide +kernel) (by decide +kernel)
theorem S_DSw : DS (Efin L xs) oW := S_DS L xs (by decide) (by decide) (by decide +kernel) (by decide +kernel) (by decide +kernel) (by decide +kernel) (by decide +kernel) (by decide +kernel) (by decide +kernel)
theorem S_AS : AS (Efin L xs) oA := by
  have a0 : KSm.getD (oA - 31) (99, 0) = (0, 0) := by decide +kernel
  have a1 : ∀ j, j < 12 → KSm.getD (oA + 1 + j - 31) (99, 0) = (13, alL j) := by decide +kernel
  have a2 : ∀ j, j < 12 → rfL 90 oA (alF j) = oA + 1 + j := by decide +kernel
  have ho := oA_is
  exact ⟨by decide, by rw [S_hk L xs (by omega) (by omega)]; exact a0, fun j hj => by rw [S_hk L xs (by omega) (by omega)]; exact a1 j hj, a2⟩
theorem S_Shp : Shp (Efin L xs) := ⟨S_CO L xs, S_PSp L xs, S_PSq L xs, S_DSd L xs, S_DSw L xs, S_AS L xs⟩
theorem nI_z0 : (0 : Int32) = nI 0 := by decide
theorem nI_z1 : (0 : Int32) = nI 1 + -nI 1 := by decide
def S0 : PT := fun j k => if j = 7 ∨ (j = 0 ∧ (k = 1 ∨ k = 4 ∨ k = 5)) then 1 else 0
theorem S_RC {c : Nat} (h1 : 31 ≤ c) (h2 : ∀ j, j < 8 → c + j ≠ 34 ∧ c + j ≠ 102) : RC (Efin L xs) c S0 := by
  intro j k hj
  rw [S_z L xs (by omega) (h2 j hj.1)]
  unfold enc S0
  by_cases z : j = 7 ∨ (j = 0 ∧ (k = 1 ∨ k = 4 ∨ k = 5))
  · rw [if_pos z, if_pos z]; exact nI_z1
  · rw [if_neg z, if_neg z]; exact nI_z0
theorem S_RP : RP (Efin L xs) oP Z0 := by
  have ho := oP_is
  refine ⟨fun j k hp => ?_, fun k hk1 => absurd hk1 (Nat.not_lt_zero k)⟩
  have hj : j ≤ 13 := by
    unfold PIn at hp
    omega
  rw [S_z L xs (by omega) (by omega)]
  exact nI_z0
theorem WFP_0 : WFP Z0 := by
  unfold WFP Z0
  simp
theorem S_67 (k : Nat) : hr (Efin L xs) 67 k = 0 := (S_hr L xs 67 k).trans (rfL_0 (q := 67) 90 (by decide +kernel) k)
theorem Inv_start : Inv (Efin L xs) (Efin L xs) Z0 := by
  have hD := oD_is
  have hW := oW_is
  have hA := oA_is
  refine ⟨S_Shp L xs, S_RP L xs, WFP_0, Or.inl ⟨?_, S0, S_RC L xs (by omega) (by omega)⟩, ⟨S0, S_RC L xs (by omega) (by omega)⟩, Or.inl ?_, Or.inl ?_, SH.rf _, fun _ _ => ⟨fun _ => rfl, fun _ => rfl⟩⟩
  · rw [S_z L xs (by omega) (by omega)]; exact nI_z0
  · rw [S_hi L xs (by omega)]
    have : vlL 4 oA 14 = -nI 1 := by decide +kernel
    exact this
  · rw [S_hi L xs (by omega)]
    have : vlL 4 oA 16 = -nI 1 := by decide +kernel
    exact this
theorem SCR_start (hL : L ≤ 260) : SCR L xs (Efin L xs) := ⟨rfl, fun _ => rfl, hL⟩
theorem TXh_start : TXh (Efin L xs) := by
  intro j hj
  refine ⟨?_, ?_, fun k => ?_⟩
  · show (if 3 + j < 31 then pK0 L (3 + j) else _) = _
    rw [if_pos (by omega)]
    unfold pK0
    rw [if_neg (by omega), if_neg (by omega), if_neg (by omega), if_pos (by omega)]
  · show (if 3 + j + 14 < 31 then pK0 L (3 + j + 14) else _) = _
    rw [if_pos (by omega)]
    unfold pK0
    rw [if_neg (by omega), if_neg (by omega), if_neg (by omega), if_neg (by omega), show 3 + j + 14 - 17 = j by omega]
    rfl
  · show (if 3 + j + 14 < 31 then pI0 xs (3 + j + 14) k else _) = _
    rw [if_pos (by omega)]
    unfold pI0
    rw [if_neg (by omega), if_neg (by omega), if_neg (by omega), show 3 + j + 14 - 17 = j by omega]
    rfl
theorem AR_start {r n : Nat} (h1 : 122 ≤ r) (h2 : r < 130) (hK : KSm.getD (r - 31) (99, 0) = (13, n)) : AR (Efin L xs) r n (fun _ => 0) := ⟨by rw [S_hk L xs (by omega) (by omega)]; exact hK, fun k _ => by rw [S_z L xs (by omega) (by omega)]; exact nI_z0⟩
theorem PX_start (hL : L ≤ 260) : PX L xs (Efin L xs) Z0 (fun _ => 0) 0 := ⟨Inv_start L xs, SCR_start L xs hL, TXh_start L xs, AR_start L xs (by decide) (by decide) (by decide +kernel), AR_start L xs (by decide) (by decide) (by decide +kernel)⟩
theorem TXS_start : TXS (Efin L xs) [] := by
  have z : ∀ k, hi (Efin L xs) 122 k = nI 0 := fun k => by rw [S_z L xs (by omega) (by omega)]; exact nI_z0
  refine ⟨Nat.zero_le _, ?_, z 5, ?_, fun j hj => absurd hj (Nat.not_lt_zero j), fun j hj => ⟨0, ?_⟩, fun k hk1 => absurd hk1 (Nat.not_lt_zero k)⟩
  · rw [S_hk L xs (by omega) (by omega)]
    have : KSm.getD (122 - 31) (99, 0) = (13, 8) := by decide +kernel
    exact this
  · rw [S_z L xs (by omega) (by omega)]; exact nI_z0
  · rw [z, show min 4 (([] : List Nat).length % 20 - 4 * j) = 0 by rw [List.length_nil]; omega]
    rfl
theorem St0_is : Ehp L xs 0 0 0 0 = St0 L xs := by
  unfold Ehp St0
  have e : (fun i => if i < 31 then pK0 L i else if i < 31 + 0 then KSm.getD (i - 31) (99, 0) else (99, 0)) = fun i => if i < 31 then pK0 L i else (99, 0) := by
    funext i
    by_cases z : i < 31
    · rw [if_pos z, if_pos z]
    · rw [if_neg z, if_neg z, if_neg (by omega)]
  rw [e]
  rfl
end
