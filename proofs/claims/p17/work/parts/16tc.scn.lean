/-! bits of a mask counted; the class's chapels are the reference's -/
def pcv (v : Nat) : Nat → Nat
  | 0 => 0
  | s + 1 => pcv v s + (if v.testBit s then 1 else 0)
theorem pcv_le (v : Nat) : ∀ s, pcv v s ≤ s
  | 0 => Nat.le_refl _
  | s + 1 => by
    have := pcv_le v s
    unfold pcv
    split <;> omega
def opb (S w : Nat) : Nat := (2 ^ S - 1) ^^^ ((2 ^ S - 1) &&& w)
theorem opb_bit {S w i : Nat} : (opb S w).testBit i = (decide (i < S) && !(w.testBit i)) := by
  unfold opb
  rw [Nat.testBit_xor, Nat.testBit_and, Nat.testBit_two_pow_sub_one]
  cases decide (i < S) <;> cases w.testBit i <;> rfl
theorem opb_lt {S w : Nat} : opb S w < 2 ^ S := by
  refine Nat.lt_pow_two_of_testBit _ (fun i hi => ?_)
  rw [opb_bit, decide_eq_false (by omega), Bool.false_and]
theorem msk_1 : ∀ k : Fin 16, (1 : Int32) <<< (nI k.val &&& 31) - 1 = nI (2 ^ k.val - 1) := by decide +kernel
theorem opb_n {S w : Nat} (hS : S < 16) : (nI w ^^^ (-1)) &&& ((1 : Int32) <<< (nI S &&& 31) - 1) = nI (opb S w) := by
  rw [msk_1 ⟨S, hS⟩]
  refine b_ext (fun i hi => ?_)
  rw [b_and, b_xor, bt_nI hi, bt_nI hi, bt_nI hi, b_m1 i hi, opb_bit, Nat.testBit_two_pow_sub_one]
  cases w.testBit i <;> cases decide (i < S) <;> rfl
/-- the streets that touch c among the first s -/
def tchN (A B : Nat → Nat) (c : Nat) : Nat → Nat
  | 0 => 0
  | s + 1 => tchN A B c s ||| (if A s = c ∨ B s = c then 2 ^ s else 0)
theorem tchN_lt {A B : Nat → Nat} {c : Nat} : ∀ s, tchN A B c s < 2 ^ s
  | 0 => by unfold tchN; decide
  | s + 1 => by
    have h := tchN_lt (A := A) (B := B) (c := c) s
    have h2 : (2 : Nat) ^ s < 2 ^ (s + 1) := Nat.pow_lt_pow_right (by omega) (by omega)
    unfold tchN
    refine Nat.or_lt_two_pow (Nat.lt_trans h h2) ?_
    split
    · exact h2
    · exact Nat.two_pow_pos _
theorem tchN_bit {A B : Nat → Nat} {c k : Nat} : ∀ s, (tchN A B c s).testBit k = decide (k < s ∧ (A k = c ∨ B k = c))
  | 0 => by unfold tchN; simp
  | s + 1 => by
    unfold tchN
    rw [Nat.testBit_or, tchN_bit s]
    by_cases e : k = s
    · subst e
      by_cases h : A k = c ∨ B k = c
      · simp [h]
      · simp [h]
    · have e2 : k < s + 1 ↔ k < s := by omega
      by_cases h : A s = c ∨ B s = c
      · rw [if_pos h, Nat.testBit_two_pow_of_ne (fun q => e q.symm)]
        simp [e2]
      · rw [if_neg h]
        simp [e2]
theorem pcv_ext {u v : Nat} : ∀ s, (∀ i, i < s → u.testBit i = v.testBit i) → pcv u s = pcv v s
  | 0, _ => rfl
  | s + 1, h => by
    unfold pcv
    rw [pcv_ext s (fun i hi => h i (by omega)), h s (by omega)]
theorem pcv_up {v s : Nat} : ∀ k, (∀ i, s ≤ i → v.testBit i = false) → pcv v (s + k) = pcv v s
  | 0, _ => rfl
  | k + 1, h => by
    show pcv v (s + k) + (if v.testBit (s + k) then 1 else 0) = _
    rw [pcv_up k h, h (s + k) (by omega)]
    rfl
theorem pcv_opc {A B : Nat → Nat} {S w c o : Nat} (ho : ∀ i, i < S → o.testBit i = !(w.testBit i)) : ∀ s, s ≤ S → pcv (o &&& tchN A B c S) s = opc A B w c s
  | 0, _ => rfl
  | s + 1, h => by
    unfold pcv opc
    rw [pcv_opc ho s (by omega), Nat.testBit_and, ho s (by omega), tchN_bit]
    by_cases e : A s = c ∨ B s = c
    · cases hw : w.testBit s
      · simp [e, show s < S by omega]
      · simp [e]
    · cases hw : w.testBit s
      · simp [e]
      · simp [e]
theorem pcv_12 {A B : Nat → Nat} {S w c o : Nat} (hS : S ≤ 12) (ho : ∀ i, i < S → o.testBit i = !(w.testBit i)) : pcv (o &&& tchN A B c S) 12 = opc A B w c S := by
  have h : ∀ i, S ≤ i → (o &&& tchN A B c S).testBit i = false := fun i hi => by
    rw [Nat.testBit_and, tchN_bit, decide_eq_false (by omega), Bool.and_false]
  have := pcv_up (12 - S) h
  rw [show S + (12 - S) = 12 by omega] at this
  rw [this, pcv_opc ho S (Nat.le_refl _)]
theorem k52_0 : lkc 0 (kcode 52) = some (.iload_n 1) := by decide +kernel
theorem k52_1 : lkc 1 (kcode 52) = some (.iconst (-1)) := by decide +kernel
theorem k52_2 : lkc 2 (kcode 52) = some (.ixor) := by decide +kernel
theorem k52_3 : lkc 3 (kcode 52) = some (.iconst 1) := by decide +kernel
theorem k52_4 : lkc 4 (kcode 52) = some (.aload_n 0) := by decide +kernel
theorem k52_5 : lkc 5 (kcode 52) = some (.getfield 30) := by decide +kernel
theorem k52_8 : lkc 8 (kcode 52) = some (.ishl) := by decide +kernel
theorem k52_9 : lkc 9 (kcode 52) = some (.iconst 1) := by decide +kernel
theorem k52_10 : lkc 10 (kcode 52) = some (.isub) := by decide +kernel
theorem k52_11 : lkc 11 (kcode 52) = some (.iand) := by decide +kernel
theorem k52_12 : lkc 12 (kcode 52) = some (.ireturn) := by decide +kernel
theorem k53_0 : lkc 0 (kcode 53) = some (.iconst 0) := by decide +kernel
theorem k53_1 : lkc 1 (kcode 53) = some (.istore_n 2) := by decide +kernel
theorem k53_2 : lkc 2 (kcode 53) = some (.iconst 0) := by decide +kernel
theorem k53_3 : lkc 3 (kcode 53) = some (.istore_n 3) := by decide +kernel
theorem k53_4 : lkc 4 (kcode 53) = some (.iload_n 3) := by decide +kernel
theorem k53_5 : lkc 5 (kcode 53) = some (.aload_n 0) := by decide +kernel
theorem k53_6 : lkc 6 (kcode 53) = some (.getfield 26) := by decide +kernel
theorem k53_9 : lkc 9 (kcode 53) = some (.if_icmp .ge 30) := by decide +kernel
theorem k53_12 : lkc 12 (kcode 53) = some (.iload_n 1) := by decide +kernel
theorem k53_13 : lkc 13 (kcode 53) = some (.aload_n 0) := by decide +kernel
theorem k53_14 : lkc 14 (kcode 53) = some (.getfield 23) := by decide +kernel
theorem k53_17 : lkc 17 (kcode 53) = some (.iload_n 3) := by decide +kernel
theorem k53_18 : lkc 18 (kcode 53) = some (.iaload) := by decide +kernel
theorem k53_19 : lkc 19 (kcode 53) = some (.iand) := by decide +kernel
theorem k53_20 : lkc 20 (kcode 53) = some (.invokestatic 141) := by decide +kernel
theorem k53_23 : lkc 23 (kcode 53) = some (.iconst 1) := by decide +kernel
theorem k53_24 : lkc 24 (kcode 53) = some (.if_icmp .ne 9) := by decide +kernel
theorem k53_27 : lkc 27 (kcode 53) = some (.iload_n 2) := by decide +kernel
theorem k53_28 : lkc 28 (kcode 53) = some (.iconst 1) := by decide +kernel
theorem k53_29 : lkc 29 (kcode 53) = some (.iload_n 3) := by decide +kernel
theorem k53_30 : lkc 30 (kcode 53) = some (.ishl) := by decide +kernel
theorem k53_31 : lkc 31 (kcode 53) = some (.ior) := by decide +kernel
theorem k53_32 : lkc 32 (kcode 53) = some (.istore_n 2) := by decide +kernel
theorem k53_33 : lkc 33 (kcode 53) = some (.iinc 3 1) := by decide +kernel
theorem k53_36 : lkc 36 (kcode 53) = some (.goto (-32)) := by decide +kernel
theorem k53_39 : lkc 39 (kcode 53) = some (.iload_n 2) := by decide +kernel
theorem k53_40 : lkc 40 (kcode 53) = some (.ireturn) := by decide +kernel
theorem k264_0 : lkc 0 (kcode 264) = some (.iload_n 0) := by decide +kernel
theorem k264_1 : lkc 1 (kcode 264) = some (.iload_n 0) := by decide +kernel
theorem k264_2 : lkc 2 (kcode 264) = some (.iconst 1) := by decide +kernel
theorem k264_3 : lkc 3 (kcode 264) = some (.iushr) := by decide +kernel
theorem k264_4 : lkc 4 (kcode 264) = some (.ldc_w 265) := by decide +kernel
theorem k264_7 : lkc 7 (kcode 264) = some (.iand) := by decide +kernel
theorem k264_8 : lkc 8 (kcode 264) = some (.isub) := by decide +kernel
theorem k264_9 : lkc 9 (kcode 264) = some (.istore_n 0) := by decide +kernel
theorem k264_10 : lkc 10 (kcode 264) = some (.iload_n 0) := by decide +kernel
theorem k264_11 : lkc 11 (kcode 264) = some (.ldc_w 266) := by decide +kernel
theorem k264_14 : lkc 14 (kcode 264) = some (.iand) := by decide +kernel
theorem k264_15 : lkc 15 (kcode 264) = some (.iload_n 0) := by decide +kernel
theorem k264_16 : lkc 16 (kcode 264) = some (.iconst 2) := by decide +kernel
theorem k264_17 : lkc 17 (kcode 264) = some (.iushr) := by decide +kernel
theorem k264_18 : lkc 18 (kcode 264) = some (.ldc_w 266) := by decide +kernel
theorem k264_21 : lkc 21 (kcode 264) = some (.iand) := by decide +kernel
theorem k264_22 : lkc 22 (kcode 264) = some (.iadd) := by decide +kernel
theorem k264_23 : lkc 23 (kcode 264) = some (.istore_n 0) := by decide +kernel
theorem k264_24 : lkc 24 (kcode 264) = some (.iload_n 0) := by decide +kernel
theorem k264_25 : lkc 25 (kcode 264) = some (.iload_n 0) := by decide +kernel
theorem k264_26 : lkc 26 (kcode 264) = some (.iconst 4) := by decide +kernel
theorem k264_27 : lkc 27 (kcode 264) = some (.iushr) := by decide +kernel
theorem k264_28 : lkc 28 (kcode 264) = some (.iadd) := by decide +kernel
theorem k264_29 : lkc 29 (kcode 264) = some (.ldc_w 267) := by decide +kernel
theorem k264_32 : lkc 32 (kcode 264) = some (.iand) := by decide +kernel
theorem k264_33 : lkc 33 (kcode 264) = some (.istore_n 0) := by decide +kernel
theorem k264_34 : lkc 34 (kcode 264) = some (.iload_n 0) := by decide +kernel
theorem k264_35 : lkc 35 (kcode 264) = some (.iload_n 0) := by decide +kernel
theorem k264_36 : lkc 36 (kcode 264) = some (.bipush 8) := by decide +kernel
theorem k264_38 : lkc 38 (kcode 264) = some (.iushr) := by decide +kernel
theorem k264_39 : lkc 39 (kcode 264) = some (.iadd) := by decide +kernel
theorem k264_40 : lkc 40 (kcode 264) = some (.istore_n 0) := by decide +kernel
theorem k264_41 : lkc 41 (kcode 264) = some (.iload_n 0) := by decide +kernel
theorem k264_42 : lkc 42 (kcode 264) = some (.iload_n 0) := by decide +kernel
theorem k264_43 : lkc 43 (kcode 264) = some (.bipush 16) := by decide +kernel
theorem k264_45 : lkc 45 (kcode 264) = some (.iushr) := by decide +kernel
theorem k264_46 : lkc 46 (kcode 264) = some (.iadd) := by decide +kernel
theorem k264_47 : lkc 47 (kcode 264) = some (.istore_n 0) := by decide +kernel
theorem k264_48 : lkc 48 (kcode 264) = some (.iload_n 0) := by decide +kernel
theorem k264_49 : lkc 49 (kcode 264) = some (.bipush 63) := by decide +kernel
theorem k264_51 : lkc 51 (kcode 264) = some (.iand) := by decide +kernel
theorem k264_52 : lkc 52 (kcode 264) = some (.ireturn) := by decide +kernel
