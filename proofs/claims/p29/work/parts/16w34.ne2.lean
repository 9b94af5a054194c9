/-! sets of at most eight corners -/
theorem p2_8 {C : Nat} (hC : C ≤ 8) : (2 : Nat) ^ C ≤ 256 := (Nat.pow_le_pow_right (by omega) hC : (2 : Nat) ^ C ≤ 2 ^ 8)
