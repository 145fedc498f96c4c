set_option maxRecDepth 100000
set_option maxHeartbeats 1000000
/-! what holds between two calls -/
def oX : Nat := 31
theorem oX_is : oX = 31 := rfl
def oP : Nat := 35
theorem oP_is : oP = 35 := rfl
def oQ : Nat := 51
theorem oQ_is : oQ = 51 := rfl
def oD : Nat := 72
theorem oD_is : oD = 72 := rfl
def oW : Nat := 86
theorem oW_is : oW = 86 := rfl
def oA : Nat := 102
theorem oA_is : oA = 102 := rfl
theorem o_is : oX = 31 ∧ oP = 35 ∧ oQ = 51 ∧ oD = 72 ∧ oW = 86 ∧ oA = 102 := ⟨rfl, rfl, rfl, rfl, rfl, rfl⟩
def soK : List (Nat × (Nat × Nat)) := [(oX, (11, 0)), (32, (9, 0)), (33, (14, 800)), (34, (6, 0)), (67, (17, 3)), (68, (8, 0)), (69, (13, 4)), (70, (13, 4)), (71, (16, 240)), (100, (4, 0)), (101, (13, 8)), (115, (10, 0)), (116, (16, 24)), (117, (16, 3)), (118, (7, 0)), (119, (13, 104)), (120, (13, 4)), (121, (13, 4))]
def soR : List (Nat × (Nat × Nat)) := [(oX, (0, 32)), (oX, (1, 34)), (oX, (2, oP)), (oX, (3, oQ)), (oX, (4, 67)), (oX, (5, 68)), (oX, (6, oD)), (oX, (7, oW)), (oX, (8, 100)), (oX, (9, oA)), (oX, (10, 115)), (oX, (11, 118)), (oX, (12, 120)), (oX, (13, 121)), (32, (0, 33)), (68, (0, 69)), (68, (1, 70)), (68, (2, 71)), (100, (0, 101)), (115, (2, 116)), (115, (3, 117)), (118, (1, 119))]
def CO (h : St) : Prop := (∀ i, i < 18 → hk h (soK.getD i (0, (0, 0))).1 = (soK.getD i (0, (0, 0))).2) ∧ ∀ i, i < 22 → hr h (soR.getD i (0, (0, 0))).1 (soR.getD i (0, (0, 0))).2.1 = (soR.getD i (0, (0, 0))).2.2
theorem CO.koX {h : St} (H : CO h) : hk h oX = (11, 0) := H.1 0 (by decide)
theorem CO.k32 {h : St} (H : CO h) : hk h 32 = (9, 0) := H.1 1 (by decide)
theorem CO.k33 {h : St} (H : CO h) : hk h 33 = (14, 800) := H.1 2 (by decide)
theorem CO.k34 {h : St} (H : CO h) : hk h 34 = (6, 0) := H.1 3 (by decide)
theorem CO.k67 {h : St} (H : CO h) : hk h 67 = (17, 3) := H.1 4 (by decide)
theorem CO.k68 {h : St} (H : CO h) : hk h 68 = (8, 0) := H.1 5 (by decide)
theorem CO.k69 {h : St} (H : CO h) : hk h 69 = (13, 4) := H.1 6 (by decide)
theorem CO.k70 {h : St} (H : CO h) : hk h 70 = (13, 4) := H.1 7 (by decide)
theorem CO.k71 {h : St} (H : CO h) : hk h 71 = (16, 240) := H.1 8 (by decide)
theorem CO.k100 {h : St} (H : CO h) : hk h 100 = (4, 0) := H.1 9 (by decide)
theorem CO.k101 {h : St} (H : CO h) : hk h 101 = (13, 8) := H.1 10 (by decide)
theorem CO.k115 {h : St} (H : CO h) : hk h 115 = (10, 0) := H.1 11 (by decide)
theorem CO.k116 {h : St} (H : CO h) : hk h 116 = (16, 24) := H.1 12 (by decide)
theorem CO.k117 {h : St} (H : CO h) : hk h 117 = (16, 3) := H.1 13 (by decide)
theorem CO.k118 {h : St} (H : CO h) : hk h 118 = (7, 0) := H.1 14 (by decide)
theorem CO.k119 {h : St} (H : CO h) : hk h 119 = (13, 104) := H.1 15 (by decide)
theorem CO.k120 {h : St} (H : CO h) : hk h 120 = (13, 4) := H.1 16 (by decide)
theorem CO.k121 {h : St} (H : CO h) : hk h 121 = (13, 4) := H.1 17 (by decide)
theorem CO.roX_0 {h : St} (H : CO h) : hr h oX 0 = 32 := H.2 0 (by decide)
theorem CO.roX_1 {h : St} (H : CO h) : hr h oX 1 = 34 := H.2 1 (by decide)
theorem CO.roX_2 {h : St} (H : CO h) : hr h oX 2 = oP := H.2 2 (by decide)
theorem CO.roX_3 {h : St} (H : CO h) : hr h oX 3 = oQ := H.2 3 (by decide)
theorem CO.roX_4 {h : St} (H : CO h) : hr h oX 4 = 67 := H.2 4 (by decide)
theorem CO.roX_5 {h : St} (H : CO h) : hr h oX 5 = 68 := H.2 5 (by decide)
theorem CO.roX_6 {h : St} (H : CO h) : hr h oX 6 = oD := H.2 6 (by decide)
theorem CO.roX_7 {h : St} (H : CO h) : hr h oX 7 = oW := H.2 7 (by decide)
theorem CO.roX_8 {h : St} (H : CO h) : hr h oX 8 = 100 := H.2 8 (by decide)
theorem CO.roX_9 {h : St} (H : CO h) : hr h oX 9 = oA := H.2 9 (by decide)
theorem CO.roX_10 {h : St} (H : CO h) : hr h oX 10 = 115 := H.2 10 (by decide)
theorem CO.roX_11 {h : St} (H : CO h) : hr h oX 11 = 118 := H.2 11 (by decide)
theorem CO.roX_12 {h : St} (H : CO h) : hr h oX 12 = 120 := H.2 12 (by decide)
theorem CO.roX_13 {h : St} (H : CO h) : hr h oX 13 = 121 := H.2 13 (by decide)
theorem CO.r32_0 {h : St} (H : CO h) : hr h 32 0 = 33 := H.2 14 (by decide)
theorem CO.r68_0 {h : St} (H : CO h) : hr h 68 0 = 69 := H.2 15 (by decide)
theorem CO.r68_1 {h : St} (H : CO h) : hr h 68 1 = 70 := H.2 16 (by decide)
theorem CO.r68_2 {h : St} (H : CO h) : hr h 68 2 = 71 := H.2 17 (by decide)
theorem CO.r100_0 {h : St} (H : CO h) : hr h 100 0 = 101 := H.2 18 (by decide)
theorem CO.r115_2 {h : St} (H : CO h) : hr h 115 2 = 116 := H.2 19 (by decide)
theorem CO.r115_3 {h : St} (H : CO h) : hr h 115 3 = 117 := H.2 20 (by decide)
theorem CO.r118_1 {h : St} (H : CO h) : hr h 118 1 = 119 := H.2 21 (by decide)
theorem CO.to {h g : St} (H : CO h) (k : SH h g) : CO g := by
  unfold CO
  rw [k.1, k.2.1]
  exact H
/-- the shape of all -/
def Shp (h : St) : Prop := CO h ∧ PS h oP ∧ PS h oQ ∧ DS h oD ∧ DS h oW ∧ AS h oA
theorem Shp.to {h g : St} (H : Shp h) (k : SH h g) : Shp g := ⟨H.1.to k, H.2.1.to k, H.2.2.1.to k, H.2.2.2.1.to k, H.2.2.2.2.1.to k, H.2.2.2.2.2.to k⟩
/-- the least strength, by one more; 0: none -/
def neE (P : PT) (s x : Nat) : Nat := if fa_first (fun t => decide (soE P s t x ≠ 0)) 201 = 201 then 0 else fa_first (fun t => decide (soE P s t x ≠ 0)) 201 + 1
def AO2 (h : St) (a : Nat) (P : PT) : Prop := hi h a 16 = -nI 1 ∨ ∃ s, s < P 0 7 ∧ hi h a 16 = nI s ∧ ∀ x, x < 8 → hi h (a + 3) x = nI (neE P s x) + -nI 1
/-- what is not the class's stands as in W -/
def CNs (h W : St) : Prop := SH W h ∧ ∀ o, ¬ (31 ≤ o ∧ o < 122) → (∀ k, hi h o k = hi W o k) ∧ ∀ k, hl h o k = hl W o k
def Inv (W h : St) (P : PT) : Prop := Shp h ∧ RP h oP P ∧ WFP P ∧ Fresh h oD P ∧ (∃ S, RC h (oW + 1) S) ∧ AO1 h oA P ∧ AO2 h oA P ∧ CNs h W
