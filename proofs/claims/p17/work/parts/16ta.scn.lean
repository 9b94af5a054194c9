/-! single bits of small numbers; what corners are chapels, as a function -/
theorem bt_nI {k i : Nat} (hi : i < 32) : bt (nI k) i = k.testBit i := by
  show (BitVec.ofNat 32 k).getLsbD i = _
  rw [BitVec.getLsbD_ofNat, decide_eq_true hi, Bool.true_and]
theorem b_1 (i : Nat) : bt 1 i = decide (i = 0) := by
  rcases Nat.lt_or_ge i 32 with h | h
  · exact (by decide +kernel : ∀ i, i < 32 → bt 1 i = decide (i = 0)) i h
  · rw [b_big h, decide_eq_false (by omega)]
theorem has_n {k j : Nat} (hj : j < 31) (hk : k < 2147483648) : nI k >>> (nI j &&& 31) &&& 1 = if k.testBit j then 1 else 0 := by
  refine b_ext (fun i hi => ?_)
  rw [b_and, b_1, b_sshr j (by omega) _ hi]
  by_cases e : i = 0
  · subst e
    rw [if_pos (by omega), bt_nI (by omega), Nat.add_zero]
    cases k.testBit j <;> decide
  · rw [decide_eq_false e, Bool.and_false]
    cases k.testBit j
    · exact (b_0 i).symm
    · rw [if_pos rfl, b_1, decide_eq_false e]
theorem nI_inj {a b : Nat} (ha : a < 2147483648) (hb : b < 2147483648) : nI a = nI b ↔ a = b := by
  refine ⟨fun h => ?_, fun h => by rw [h]⟩
  have := congrArg Int32.toInt h
  rw [nI_toInt ha, nI_toInt hb] at this
  omega
theorem nxlt {a b : Nat} (ha : a < 2147483648) (hb : b < 2147483648) : nI a < nI b ↔ a < b := by
  rw [Int32.lt_iff_toInt_lt, nI_toInt ha, nI_toInt hb]
  omega
theorem nxle {a b : Nat} (ha : a < 2147483648) (hb : b < 2147483648) : nI a ≤ nI b ↔ a ≤ b := by
  rw [Int32.le_iff_toInt_le, nI_toInt ha, nI_toInt hb]
  omega
theorem nI_mul (a b : Nat) : nI a * nI b = nI (a * b) := (Int32.ofNat_mul a b).symm
theorem shl_1 : ∀ k : Fin 16, (1 : Int32) <<< (nI k.val &&& 31) = nI (2 ^ k.val) := by decide +kernel
theorem shl_n {k : Nat} (hk : k < 16) : (1 : Int32) <<< (nI k &&& 31) = nI (2 ^ k) := shl_1 ⟨k, hk⟩
/-- the open streets at c among the first s -/
def opc (A B : Nat → Nat) (w c : Nat) : Nat → Nat
  | 0 => 0
  | s + 1 => opc A B w c s + (if w.testBit s = false ∧ (A s = c ∨ B s = c) then 1 else 0)
theorem opc_s {A B : Nat → Nat} {w c s : Nat} : opc A B w c (s + 1) = opc A B w c s + (if w.testBit s = false ∧ (A s = c ∨ B s = c) then 1 else 0) := rfl
theorem opc_le {A B : Nat → Nat} {w c : Nat} : ∀ s, opc A B w c s ≤ s
  | 0 => Nat.le_refl _
  | s + 1 => by
    have := opc_le (A := A) (B := B) (w := w) (c := c) s
    unfold opc
    split <;> omega
/-- the chapels among the first c corners -/
def chp (A B : Nat → Nat) (S w : Nat) : Nat → Nat
  | 0 => 0
  | c + 1 => chp A B S w c ||| (if opc A B w c S = 1 then 2 ^ c else 0)
theorem chp_s {A B : Nat → Nat} {S w c : Nat} : chp A B S w (c + 1) = chp A B S w c ||| (if opc A B w c S = 1 then 2 ^ c else 0) := rfl
theorem chp_lt {A B : Nat → Nat} {S w : Nat} : ∀ c, chp A B S w c < 2 ^ c
  | 0 => by unfold chp; decide
  | c + 1 => by
    have h := chp_lt (A := A) (B := B) (S := S) (w := w) c
    have h2 : (2 : Nat) ^ c < 2 ^ (c + 1) := Nat.pow_lt_pow_right (by omega) (by omega)
    unfold chp
    refine Nat.or_lt_two_pow (Nat.lt_trans h h2) ?_
    split
    · exact h2
    · exact Nat.two_pow_pos _
theorem chp_bit {A B : Nat → Nat} {S w k : Nat} : ∀ c, (chp A B S w c).testBit k = decide (k < c ∧ opc A B w k S = 1)
  | 0 => by unfold chp; simp
  | c + 1 => by
    unfold chp
    rw [Nat.testBit_or, chp_bit c]
    by_cases e : k = c
    · subst e
      by_cases h : opc A B w k S = 1
      · simp [h]
      · simp [h]
    · by_cases h : opc A B w c S = 1
      · rw [if_pos h, Nat.testBit_two_pow_of_ne (fun q => e q.symm)]
        have e2 : k < c + 1 ↔ k < c := by omega
        simp [e2]
      · rw [if_neg h]
        have e2 : k < c + 1 ↔ k < c := by omega
        simp [e2]
theorem k196_0 : lkc 0 (kcode 196) = some (.iconst 0) := by decide +kernel
theorem k196_1 : lkc 1 (kcode 196) = some (.istore_n 3) := by decide +kernel
theorem k196_2 : lkc 2 (kcode 196) = some (.iconst 0) := by decide +kernel
theorem k196_3 : lkc 3 (kcode 196) = some (.istore 4) := by decide +kernel
theorem k196_5 : lkc 5 (kcode 196) = some (.iload 4) := by decide +kernel
theorem k196_7 : lkc 7 (kcode 196) = some (.aload_n 0) := by decide +kernel
theorem k196_8 : lkc 8 (kcode 196) = some (.getfield 283) := by decide +kernel
theorem k196_11 : lkc 11 (kcode 196) = some (.if_icmp .ge 54) := by decide +kernel
theorem k196_14 : lkc 14 (kcode 196) = some (.iload_n 1) := by decide +kernel
theorem k196_15 : lkc 15 (kcode 196) = some (.iload 4) := by decide +kernel
theorem k196_17 : lkc 17 (kcode 196) = some (.invokestatic 223) := by decide +kernel
theorem k196_20 : lkc 20 (kcode 196) = some (.ifCond .ne 39) := by decide +kernel
theorem k196_23 : lkc 23 (kcode 196) = some (.iload_n 3) := by decide +kernel
theorem k196_24 : lkc 24 (kcode 196) = some (.aload_n 0) := by decide +kernel
theorem k196_25 : lkc 25 (kcode 196) = some (.getfield 40) := by decide +kernel
theorem k196_28 : lkc 28 (kcode 196) = some (.iconst 4) := by decide +kernel
theorem k196_29 : lkc 29 (kcode 196) = some (.iload 4) := by decide +kernel
theorem k196_31 : lkc 31 (kcode 196) = some (.imul) := by decide +kernel
theorem k196_32 : lkc 32 (kcode 196) = some (.iaload) := by decide +kernel
theorem k196_33 : lkc 33 (kcode 196) = some (.iload_n 2) := by decide +kernel
theorem k196_34 : lkc 34 (kcode 196) = some (.if_icmp .eq 18) := by decide +kernel
theorem k196_37 : lkc 37 (kcode 196) = some (.aload_n 0) := by decide +kernel
theorem k196_38 : lkc 38 (kcode 196) = some (.getfield 40) := by decide +kernel
theorem k196_41 : lkc 41 (kcode 196) = some (.iconst 4) := by decide +kernel
theorem k196_42 : lkc 42 (kcode 196) = some (.iload 4) := by decide +kernel
theorem k196_44 : lkc 44 (kcode 196) = some (.imul) := by decide +kernel
theorem k196_45 : lkc 45 (kcode 196) = some (.iconst 1) := by decide +kernel
theorem k196_46 : lkc 46 (kcode 196) = some (.iadd) := by decide +kernel
theorem k196_47 : lkc 47 (kcode 196) = some (.iaload) := by decide +kernel
theorem k196_48 : lkc 48 (kcode 196) = some (.iload_n 2) := by decide +kernel
theorem k196_49 : lkc 49 (kcode 196) = some (.if_icmp .ne 7) := by decide +kernel
theorem k196_52 : lkc 52 (kcode 196) = some (.iconst 1) := by decide +kernel
theorem k196_53 : lkc 53 (kcode 196) = some (.goto 4) := by decide +kernel
theorem k196_56 : lkc 56 (kcode 196) = some (.iconst 0) := by decide +kernel
theorem k196_57 : lkc 57 (kcode 196) = some (.iadd) := by decide +kernel
theorem k196_58 : lkc 58 (kcode 196) = some (.istore_n 3) := by decide +kernel
theorem k196_59 : lkc 59 (kcode 196) = some (.iinc 4 1) := by decide +kernel
theorem k196_62 : lkc 62 (kcode 196) = some (.goto (-57)) := by decide +kernel
theorem k196_65 : lkc 65 (kcode 196) = some (.iload_n 3) := by decide +kernel
theorem k196_66 : lkc 66 (kcode 196) = some (.ireturn) := by decide +kernel
theorem k197_0 : lkc 0 (kcode 197) = some (.iconst 0) := by decide +kernel
theorem k197_1 : lkc 1 (kcode 197) = some (.istore_n 2) := by decide +kernel
theorem k197_2 : lkc 2 (kcode 197) = some (.iconst 0) := by decide +kernel
theorem k197_3 : lkc 3 (kcode 197) = some (.istore_n 3) := by decide +kernel
theorem k197_4 : lkc 4 (kcode 197) = some (.iload_n 3) := by decide +kernel
theorem k197_5 : lkc 5 (kcode 197) = some (.aload_n 0) := by decide +kernel
theorem k197_6 : lkc 6 (kcode 197) = some (.getfield 280) := by decide +kernel
theorem k197_9 : lkc 9 (kcode 197) = some (.if_icmp .ge 29) := by decide +kernel
theorem k197_12 : lkc 12 (kcode 197) = some (.iload_n 2) := by decide +kernel
theorem k197_13 : lkc 13 (kcode 197) = some (.aload_n 0) := by decide +kernel
theorem k197_14 : lkc 14 (kcode 197) = some (.iload_n 1) := by decide +kernel
theorem k197_15 : lkc 15 (kcode 197) = some (.iload_n 3) := by decide +kernel
theorem k197_16 : lkc 16 (kcode 197) = some (.invokevirtual 298) := by decide +kernel
theorem k197_19 : lkc 19 (kcode 197) = some (.iconst 1) := by decide +kernel
theorem k197_20 : lkc 20 (kcode 197) = some (.if_icmp .ne 9) := by decide +kernel
theorem k197_23 : lkc 23 (kcode 197) = some (.iconst 1) := by decide +kernel
theorem k197_24 : lkc 24 (kcode 197) = some (.iload_n 3) := by decide +kernel
theorem k197_25 : lkc 25 (kcode 197) = some (.ishl) := by decide +kernel
theorem k197_26 : lkc 26 (kcode 197) = some (.goto 4) := by decide +kernel
theorem k197_29 : lkc 29 (kcode 197) = some (.iconst 0) := by decide +kernel
theorem k197_30 : lkc 30 (kcode 197) = some (.ior) := by decide +kernel
theorem k197_31 : lkc 31 (kcode 197) = some (.istore_n 2) := by decide +kernel
theorem k197_32 : lkc 32 (kcode 197) = some (.iinc 3 1) := by decide +kernel
theorem k197_35 : lkc 35 (kcode 197) = some (.goto (-31)) := by decide +kernel
theorem k197_38 : lkc 38 (kcode 197) = some (.iload_n 2) := by decide +kernel
theorem k197_39 : lkc 39 (kcode 197) = some (.ireturn) := by decide +kernel
