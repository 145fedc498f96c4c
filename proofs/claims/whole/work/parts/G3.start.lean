set_option maxRecDepth 100000
set_option maxHeartbeats 4000000
set_option maxRecDepth 100000
set_option maxHeartbeats 2000000
/-! the class and the model, new, say the same -/
section
variable (L : Nat) (xs : Nat → Int32)
theorem S_hk {r : Nat} (h1 : 31 ≤ r) (h2 : r < 158) : hk (Efin L xs) r = KSm.getD (r - 31) (99, 0) := E_hk L xs h1 h2
theorem S_hr (o k : Nat) : hr (Efin L xs) o k = rfL 125 o k := rfl
theorem S_hi {r : Nat} (h1 : 31 ≤ r) (k : Nat) : hi (Efin L xs) r k = vlL 9 r k := E_hi L xs h1 k
theorem S_hl (r k : Nat) : hl (Efin L xs) r k = 0 := rfl
theorem S_z {r : Nat} (h1 : 31 ≤ r) (h2 : r ≠ 34 ∧ r ≠ 102 ∧ r ≠ 122 ∧ r ≠ 123) (k : Nat) : hi (Efin L xs) r k = 0 := by
  rw [S_hi L xs h1]
  refine vlL_0 9 (fun i hi1 => ?_) k
  rcases (show i = 0 ∨ i = 1 ∨ i = 2 ∨ i = 3 ∨ i = 4 ∨ i = 5 ∨ i = 6 ∨ i = 7 ∨ i = 8 by omega) with rfl | rfl | rfl | rfl | rfl | rfl | rfl | rfl | rfl
  · exact fun z => h2.1 z.symm
  · exact fun z => h2.2.1 z.symm
  · exact fun z => h2.2.1 z.symm
  · exact fun z => h2.2.1 z.symm
  · exact fun z => h2.2.2.1 z.symm
  · exact fun z => h2.2.2.2 z.symm
  · exact fun z => h2.2.2.2 z.symm
  · exact fun z => h2.2.2.2 z.symm
  · exact fun z => h2.2.2.2 z.symm
theorem S_CO : CO (Efin L xs) := by
  have a1 : ∀ i, i < 18 → 31 ≤ (soK.getD i (0, (0, 0))).1 ∧ (soK.getD i (0, (0, 0))).1 < 158 ∧ KSm.getD ((soK.getD i (0, (0, 0))).1 - 31) (99, 0) = (soK.getD i (0, (0, 0))).2 := by decide +kernel
  have a2 : ∀ i, i < 22 → rfL 125 (soR.getD i (0, (0, 0))).1 (soR.getD i (0, (0, 0))).2.1 = (soR.getD i (0, (0, 0))).2.2 := by decide +kernel
  exact ⟨fun i hi1 => by rw [S_hk L xs (a1 i hi1).1 (a1 i hi1).2.1]; exact (a1 i hi1).2.2, fun i hi1 => a2 i hi1⟩
theorem S_PS {p : Nat} (h1 : 31 ≤ p) (h2 : p + 16 ≤ 158) (a1 : ∀ j, j < 16 → KSm.getD (p + j - 31) (99, 0) = (if j = 0 then 5 else if j = 9 then 1 else 13, [0, 8, 12, 12, 5, 5, 3, 3, 18, 0, 32, 32, 32, 32, 20, 20].getD j 0)) (a2 : ∀ j, j < 9 → rfL 125 p (8 + j) = p + 1 + j) (a3 : ∀ j, j < 6 → rfL 125 (p + 9) (3 + j) = p + 10 + j) : PS (Efin L xs) p := ⟨h1, fun j hj => by rw [S_hk L xs (by omega) (by omega)]; exact a1 j hj, a2, a3⟩
theorem S_PSp : PS (Efin L xs) oP := S_PS L xs (by decide) (by decide) (by decide +kernel) (by decide +kernel) (by decide +kernel)
theorem S_PSq : PS (Efin L xs) oQ := S_PS L xs (by decide) (by decide) (by decide +kernel) (by decide +kernel) (by decide +kernel)
theorem S_DS {d : Nat} (h1 : 31 ≤ d) (h2 : d + 14 ≤ 158) (a0 : KSm.getD (d + 1 - 31) (99, 0) = (2, 0)) (a1 : ∀ j, j < 8 → 1 ≤ j → KSm.getD (d + 1 + j - 31) (99, 0) = (13, cL8.getD j 0)) (a2 : ∀ j, j < 7 → rfL 125 (d + 1) (8 + j) = d + 1 + 1 + j) (a3 : KSm.getD (d - 31) (99, 0) = (3, 0)) (a4 : rfL 125 d 1 = d + 1) (a5 : ∀ j, j < 5 → rfL 125 d (2 + j) = d + 9 + j) (a6 : ∀ j, j < 5 → KSm.getD (d + 9 + j - 31) (99, 0) = (13, dL j)) : DS (Efin L xs) d :=
  ⟨⟨by omega, by rw [S_hk L xs (by omega) (by omega)]; exact a0, fun j hj hj1 => by rw [S_hk L xs (by omega) (by omega)]; exact a1 j hj hj1, a2⟩, by rw [S_hk L xs (by omega) (by omega)]; exact a3, a4, a5, fun j hj => by rw [S_hk L xs (by omega) (by omega)]; exact a6 j hj⟩
theorem S_DSd : DS (Efin L xs) oD := S_DS L xs (by decide) (by decide) (by decide +kernel) (by decide +kernel) (by decide +kernel) (by decide +kernel) (by decide +kernel) (by decide +kernel) (by decide +kernel)
theorem S_DSw : DS (Efin L xs) oW := S_DS L xs (by decide) (by decide) (by decide +kernel) (by decide +kernel) (by decide +kernel) (by decide +kernel) (by decide +kernel) (by decide +kernel) (by decide +kernel)
theorem S_AS : AS (Efin L xs) oA := by
  have a0 : KSm.getD (oA - 31) (99, 0) = (0, 0) := by decide +kernel
  have a1 : ∀ j, j < 12 → KSm.getD (oA + 1 + j - 31) (99, 0) = (13, alL j) := by decide +kernel
  have a2 : ∀ j, j < 12 → rfL 125 oA (alF j) = oA + 1 + j := by decide +kernel
  have ho := oA_is
  exact ⟨by decide, by rw [S_hk L xs (by omega) (by omega)]; exact a0, fun j hj => by rw [S_hk L xs (by omega) (by omega)]; exact a1 j hj, a2⟩
theorem S_MS : MS (Efin L xs) oM := by
  have a0 : KSm.getD (oM - 31) (99, 0) = (12, 0) := by decide +kernel
  have a1 : ∀ j, j < 35 → KSm.getD (oM + 1 + j - 31) (99, 0) = mK.getD j (0, 0) := by decide +kernel
  have a2 : ∀ j, j < 35 → rfL 125 oM (mF.getD j 0) = oM + 1 + j := by decide +kernel
  have ho := oM_is
  exact ⟨by decide, by rw [S_hk L xs (by omega) (by omega)]; exact a0, fun j hj => by rw [S_hk L xs (by omega) (by omega)]; exact a1 j hj, a2⟩
theorem S_Shp : Shp (Efin L xs) := ⟨S_CO L xs, S_PSp L xs, S_PSq L xs, S_DSd L xs, S_DSw L xs, S_AS L xs, S_MS L xs⟩
theorem nI_z0 : (0 : Int32) = nI 0 := by decide
theorem nI_z1 : (0 : Int32) = nI 1 + -nI 1 := by decide
def S0 : PT := fun j k => if j = 7 ∨ (j = 0 ∧ (k = 1 ∨ k = 4 ∨ k = 5)) then 1 else 0
theorem S_RC {c : Nat} (h1 : 31 ≤ c) (h2 : ∀ j, j < 8 → c + j ≠ 34 ∧ c + j ≠ 102 ∧ c + j ≠ 122 ∧ c + j ≠ 123) : RC (Efin L xs) c S0 := by
  intro j k hj
  rw [S_z L xs (by omega) (h2 j hj.1)]
  unfold enc S0
  by_cases z : j = 7 ∨ (j = 0 ∧ (k = 1 ∨ k = 4 ∨ k = 5))
  · rw [if_pos z, if_pos z]; exact nI_z1
  · rw [if_neg z, if_neg z]; exact nI_z0
theorem S_RP : RP (Efin L xs) oP Z0 := by
  have ho := oP_is
  refine ⟨fun j k hp => ?_, fun k hk1 => absurd hk1 (Nat.not_lt_zero k)⟩
  have hj : j ≤ 13 := by
    unfold PIn at hp
    omega
  rw [S_z L xs (by omega) (by omega)]
  exact nI_z0
theorem WFP_0 : WFP Z0 := by
  unfold WFP Z0
  simp
theorem S_MP : MP (Efin L xs) oM 0 Z0 := by
  have ho := oM_is
  refine ⟨?_, fun w hw => ?_, fun k hk1 => absurd hk1 (Nat.not_lt_zero k), fun k hk1 => absurd hk1 (Nat.not_lt_zero k), fun k hk1 => absurd hk1 (Nat.not_lt_zero k), fun s hs1 => absurd hs1 (Nat.not_lt_zero s), fun k t hk1 => absurd hk1 (Nat.not_lt_zero k), fun j t hk1 => absurd hk1 (Nat.not_lt_zero j), fun j hk1 => absurd hk1 (Nat.not_lt_zero j), rfl⟩
  · rw [S_z L xs (by omega) (by omega)]; exact nI_z0
  · rw [S_z L xs (by omega) (by omega)]
    have : ∀ w, w < 9 → hsP Z0 w = 0 := by decide +kernel
    rw [this w hw]
    exact nI_z0
theorem S_SL : SLr (Efin L xs) := by
  have ho := oM_is
  refine ⟨fun k _ => by rw [S_hl, S_hl], fun k hk1 => ⟨0, 0, by omega, by omega, ?_, ?_, ?_, ?_⟩⟩
  · rw [S_z L xs (by omega) (by omega)]; exact nI_z0
  · rw [S_hi L xs (by omega)]
    have : ∀ k, k < 4 → vlL 9 (oM + 1) k = nI 0 + -nI 1 := by decide +kernel
    exact this k hk1
  · rw [S_z L xs (by omega) (by omega)]; exact nI_z0
  · rw [S_z L xs (by omega) (by omega)]; exact nI_z0
theorem S_TP : TPr (Efin L xs) := by
  have ho := oM_is
  refine ⟨⟨0, by omega, ?_, ?_⟩, fun k _ => ?_, ?_, ?_⟩
  · rw [S_z L xs (by omega) (by omega)]; exact nI_z0
  · rw [S_hi L xs (by omega)]
    have : vlL 9 oM 6 = nI 0 := by decide +kernel
    exact this
  · rw [S_z L xs (by omega) (by omega), S_z L xs (by omega) (by omega)]
  · rw [S_hi L xs (by omega), S_hi L xs (by omega)]
    have : vlL 9 34 0 = vlL 9 oM 14 := by decide +kernel
    exact this
  · rw [S_hi L xs (by omega), S_hi L xs (by omega)]
    have : vlL 9 34 1 = vlL 9 oM 15 := by decide +kernel
    exact this
theorem S_67 (k : Nat) : hr (Efin L xs) 67 k = 0 := (S_hr L xs 67 k).trans (rfL_0 (q := 67) 125 (by decide +kernel) k)
theorem S_IM : IMr (Efin L xs) := by
  have ho := oM_is
  refine ⟨fun k hk1 => Or.inl ⟨S_67 L xs k, ?_⟩, fun j k hj hk1 hne => Or.inl (S_67 L xs j)⟩
  rw [S_z L xs (by omega) (by omega)]
  exact nI_z0
theorem S_NM : NMr (Efin L xs) := by
  unfold NMr cnI
  rw [S_67, S_67, S_67]
  have e : hs (Efin L xs) = 18658 := rfl
  rw [e]
  exact ⟨rfl, by decide⟩
theorem S_CNs : CNs (Efin L xs) L xs := by
  intro i hi1
  refine ⟨?_, fun k => ?_⟩
  · show (if i < 31 then pK0 L i else _) = _
    rw [if_pos hi1]
  · show (if i < 31 then pI0 xs i k else _) = _
    rw [if_pos hi1]
theorem Inv_start : Inv L xs (Efin L xs) Z0 := by
  have hD := oD_is
  have hW := oW_is
  have hA := oA_is
  refine ⟨S_Shp L xs, S_RP L xs, WFP_0, Or.inl ⟨?_, S0, S_RC L xs (by omega) (by omega)⟩, ⟨S0, S_RC L xs (by omega) (by omega)⟩, Or.inl ?_, Or.inl ?_, Or.inl ?_, S_MP L xs, S_SL L xs, S_TP L xs, S_IM L xs, S_NM L xs, S_CNs L xs⟩
  · rw [S_z L xs (by omega) (by omega)]; exact nI_z0
  · rw [S_hi L xs (by omega)]
    have : vlL 9 oA 14 = -nI 1 := by decide +kernel
    exact this
  · rw [S_hi L xs (by omega)]
    have : vlL 9 oA 16 = -nI 1 := by decide +kernel
    exact this
  · rw [S_z L xs (by omega) (by omega)]; exact nI_z0
theorem St0_is : Ehp L xs 0 0 0 0 = St0 L xs := by
  unfold Ehp St0
  have e : (fun i => if i < 31 then pK0 L i else if i < 31 + 0 then KSm.getD (i - 31) (99, 0) else (99, 0)) = fun i => if i < 31 then pK0 L i else (99, 0) := by
    funext i
    by_cases z : i < 31
    · rw [if_pos z, if_pos z]
    · rw [if_neg z, if_neg z, if_neg (by omega)]
  rw [e]
  rfl
end
