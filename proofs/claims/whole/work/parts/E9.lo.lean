set_option maxRecDepth 100000
set_option maxHeartbeats 1000000
/-! the shape of all, where a heap agrees below 158 -/
section
variable {h g : St}
def LoK (h g : St) : Prop := (∀ r, r < 158 → hk g r = hk h r) ∧ ∀ r j, r < 158 → r ≠ 67 → hr g r j = hr h r j
theorem soK_lo : ∀ i, i < 18 → (soK.getD i (0, (0, 0))).1 < 158 := by decide
theorem soR_lo : ∀ i, i < 22 → (soR.getD i (0, (0, 0))).1 < 158 ∧ (soR.getD i (0, (0, 0))).1 ≠ 67 := by decide
theorem CO.lo (H : CO h) (k : LoK h g) : CO g := ⟨fun i hi1 => by rw [k.1 _ (soK_lo i hi1)]; exact H.1 i hi1, fun i hi1 => by rw [k.2 _ _ (soR_lo i hi1).1 (soR_lo i hi1).2]; exact H.2 i hi1⟩
theorem PS.lo {p : Nat} (H : PS h p) (k : LoK h g) (hp : p + 16 ≤ 67 ∨ (67 < p ∧ p + 16 ≤ 158)) : PS g p := ⟨H.1, fun j hj => by rw [k.1 _ (by omega)]; exact H.2.1 j hj, fun j hj => by rw [k.2 _ _ (by omega) (by omega)]; exact H.2.2.1 j hj, fun j hj => by rw [k.2 _ _ (by omega) (by omega)]; exact H.2.2.2 j hj⟩
theorem CS.lo {c : Nat} (H : CS h c) (k : LoK h g) (hp : 67 < c ∧ c + 8 ≤ 158) : CS g c := ⟨H.1, by rw [k.1 _ (by omega)]; exact H.2.1, fun j hj h1 => by rw [k.1 _ (by omega)]; exact H.2.2.1 j hj h1, fun j hj => by rw [k.2 _ _ (by omega) (by omega)]; exact H.2.2.2 j hj⟩
theorem DS.lo {d : Nat} (H : DS h d) (k : LoK h g) (hp : 67 < d ∧ d + 14 ≤ 158) : DS g d := ⟨H.1.lo k (by omega), by rw [k.1 _ (by omega)]; exact H.2.1, by rw [k.2 _ _ (by omega) (by omega)]; exact H.2.2.1, fun j hj => by rw [k.2 _ _ (by omega) (by omega)]; exact H.2.2.2.1 j hj, fun j hj => by rw [k.1 _ (by omega)]; exact H.2.2.2.2 j hj⟩
theorem AS.lo {a : Nat} (H : AS h a) (k : LoK h g) (hp : 67 < a ∧ a + 13 ≤ 158) : AS g a := ⟨H.1, by rw [k.1 _ (by omega)]; exact H.2.1, fun j hj => by rw [k.1 _ (by omega)]; exact H.2.2.1 j hj, fun j hj => by rw [k.2 _ _ (by omega) (by omega)]; exact H.2.2.2 j hj⟩
theorem MS.lo {m : Nat} (H : MS h m) (k : LoK h g) (hp : 67 < m ∧ m + 36 ≤ 158) : MS g m := ⟨H.1, by rw [k.1 _ (by omega)]; exact H.2.1, fun j hj => by rw [k.1 _ (by omega)]; exact H.2.2.1 j hj, fun j hj => by rw [k.2 _ _ (by omega) (by omega)]; exact H.2.2.2 j hj⟩
theorem Shp.lo (H : Shp h) (k : LoK h g) : Shp g := by
  have hc := o_is
  exact ⟨H.1.lo k, H.2.1.lo k (by omega), H.2.2.1.lo k (by omega), H.2.2.2.1.lo k (by omega), H.2.2.2.2.1.lo k (by omega), H.2.2.2.2.2.1.lo k (by omega), H.2.2.2.2.2.2.lo k (by omega)⟩
end
