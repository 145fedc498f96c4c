set_option maxRecDepth 100000
set_option maxHeartbeats 1000000
/-! longs; in lowest terms, on both sides -/
theorem ol_rem {a b : Nat} (ha : a < 2 ^ 62) (h0 : 0 < b) (hb : b < 2 ^ 62) : o_lrem (lN a) (lN b) = lN (a % b) := pk_lRem (by omega) h0 (by omega)
theorem ol_div {a b : Nat} (ha : a < 2 ^ 62) (h0 : 0 < b) (hb : b < 2 ^ 62) : o_ldiv (lN a) (lN b) = lN (a / b) := pk_lDiv (by omega) h0 (by omega)
theorem ol_mul (a b : Nat) : o_lmul (lN a) (lN b) = lN (a * b) := lN_mul a b
theorem ol_add (a b : Nat) : o_ladd (lN a) (lN b) = lN (a + b) := lN_add a b
theorem ol_i2l {a : Nat} (ha : a < 2 ^ 31) : o_i2l (nI a) = lN a := nI_l ha
theorem ol_z {a b : Nat} (ha : a < 2 ^ 62) (hb : b < 2 ^ 62) : (lN a = lN b) = (a = b) := propext (pk_lEQ (by omega) (by omega))
theorem oc_eq {a b : Nat} (ha : a < 2 ^ 62) (hb : b < 2 ^ 62) : (o_lcmp (lN a) (lN b) = nI 0) = (a = b) := propext ((lg_cmp_eq (lN a) (lN b)).trans (pk_lEQ (by omega) (by omega)))
theorem oc_lt {a b : Nat} (ha : a < 2 ^ 62) (hb : b < 2 ^ 62) : (o_lcmp (lN a) (lN b) < nI 0) = (a < b) := propext ((lg_cmp_lt (lN a) (lN b)).trans (pk_lLT (by omega) (by omega)))
theorem oc_gt {a b : Nat} (ha : a < 2 ^ 62) (hb : b < 2 ^ 62) : (nI 0 < o_lcmp (lN a) (lN b)) = (b < a) := propext ((lg_cmp_gt (lN a) (lN b)).trans (pk_lLT (by omega) (by omega)))
