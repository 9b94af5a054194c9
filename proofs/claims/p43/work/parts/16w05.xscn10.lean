theorem k107_0 : lkc 0 (kcode 107) = some (.aload_n 0) := by decide +kernel
theorem k107_1 : lkc 1 (kcode 107) = some (.getfield 19) := by decide +kernel
theorem k107_4 : lkc 4 (kcode 107) = some (.getfield 216) := by decide +kernel
theorem k107_7 : lkc 7 (kcode 107) = some (.ifCond .le 7) := by decide +kernel
theorem k107_10 : lkc 10 (kcode 107) = some (.iconst 1) := by decide +kernel
theorem k107_11 : lkc 11 (kcode 107) = some (.goto 4) := by decide +kernel
theorem k107_14 : lkc 14 (kcode 107) = some (.iconst 0) := by decide +kernel
theorem k107_15 : lkc 15 (kcode 107) = some (.ireturn) := by decide +kernel
theorem k109_0 : lkc 0 (kcode 109) = some (.iload_n 1) := by decide +kernel
theorem k109_1 : lkc 1 (kcode 109) = some (.ifCond .lt 18) := by decide +kernel
theorem k109_4 : lkc 4 (kcode 109) = some (.iload_n 1) := by decide +kernel
theorem k109_5 : lkc 5 (kcode 109) = some (.aload_n 0) := by decide +kernel
theorem k109_6 : lkc 6 (kcode 109) = some (.getfield 19) := by decide +kernel
theorem k109_9 : lkc 9 (kcode 109) = some (.getfield 156) := by decide +kernel
theorem k109_12 : lkc 12 (kcode 109) = some (.if_icmp .ge 7) := by decide +kernel
theorem k109_15 : lkc 15 (kcode 109) = some (.iconst 1) := by decide +kernel
theorem k109_16 : lkc 16 (kcode 109) = some (.goto 4) := by decide +kernel
theorem k109_19 : lkc 19 (kcode 109) = some (.iconst 0) := by decide +kernel
theorem k109_20 : lkc 20 (kcode 109) = some (.ireturn) := by decide +kernel
theorem k110_0 : lkc 0 (kcode 110) = some (.iload_n 1) := by decide +kernel
theorem k110_1 : lkc 1 (kcode 110) = some (.ifCond .lt 18) := by decide +kernel
theorem k110_4 : lkc 4 (kcode 110) = some (.iload_n 1) := by decide +kernel
theorem k110_5 : lkc 5 (kcode 110) = some (.aload_n 0) := by decide +kernel
theorem k110_6 : lkc 6 (kcode 110) = some (.getfield 19) := by decide +kernel
theorem k110_9 : lkc 9 (kcode 110) = some (.getfield 219) := by decide +kernel
theorem k110_12 : lkc 12 (kcode 110) = some (.if_icmp .ge 7) := by decide +kernel
theorem k110_15 : lkc 15 (kcode 110) = some (.iconst 1) := by decide +kernel
theorem k110_16 : lkc 16 (kcode 110) = some (.goto 4) := by decide +kernel
theorem k110_19 : lkc 19 (kcode 110) = some (.iconst 0) := by decide +kernel
theorem k110_20 : lkc 20 (kcode 110) = some (.ireturn) := by decide +kernel
theorem k115_0 : lkc 0 (kcode 115) = some (.aload_n 0) := by decide +kernel
theorem k115_1 : lkc 1 (kcode 115) = some (.iload_n 1) := by decide +kernel
theorem k115_2 : lkc 2 (kcode 115) = some (.invokevirtual 181) := by decide +kernel
theorem k115_5 : lkc 5 (kcode 115) = some (.ifCond .eq 14) := by decide +kernel
theorem k115_8 : lkc 8 (kcode 115) = some (.aload_n 0) := by decide +kernel
theorem k115_9 : lkc 9 (kcode 115) = some (.getfield 75) := by decide +kernel
theorem k115_12 : lkc 12 (kcode 115) = some (.getfield 226) := by decide +kernel
theorem k115_15 : lkc 15 (kcode 115) = some (.iconst 3) := by decide +kernel
theorem k115_16 : lkc 16 (kcode 115) = some (.if_icmp .ge 5) := by decide +kernel
theorem k115_19 : lkc 19 (kcode 115) = some (.iconst (-1)) := by decide +kernel
theorem k115_20 : lkc 20 (kcode 115) = some (.ireturn) := by decide +kernel
theorem k115_21 : lkc 21 (kcode 115) = some (.aload_n 0) := by decide +kernel
theorem k115_22 : lkc 22 (kcode 115) = some (.getfield 85) := by decide +kernel
theorem k115_25 : lkc 25 (kcode 115) = some (.aload_n 0) := by decide +kernel
theorem k115_26 : lkc 26 (kcode 115) = some (.getfield 75) := by decide +kernel
theorem k115_29 : lkc 29 (kcode 115) = some (.invokevirtual 243) := by decide +kernel
theorem k115_32 : lkc 32 (kcode 115) = some (.aload_n 0) := by decide +kernel
theorem k115_33 : lkc 33 (kcode 115) = some (.getfield 75) := by decide +kernel
theorem k115_36 : lkc 36 (kcode 115) = some (.dup) := by decide +kernel
theorem k115_37 : lkc 37 (kcode 115) = some (.getfield 226) := by decide +kernel
theorem k115_40 : lkc 40 (kcode 115) = some (.iconst 3) := by decide +kernel
theorem k115_41 : lkc 41 (kcode 115) = some (.isub) := by decide +kernel
theorem k115_42 : lkc 42 (kcode 115) = some (.putfield 226) := by decide +kernel
theorem k115_45 : lkc 45 (kcode 115) = some (.aload_n 0) := by decide +kernel
theorem k115_46 : lkc 46 (kcode 115) = some (.getfield 75) := by decide +kernel
theorem k115_49 : lkc 49 (kcode 115) = some (.dup) := by decide +kernel
theorem k115_50 : lkc 50 (kcode 115) = some (.getfield 193) := by decide +kernel
theorem k115_53 : lkc 53 (kcode 115) = some (.iconst 1) := by decide +kernel
theorem k115_54 : lkc 54 (kcode 115) = some (.iload_n 1) := by decide +kernel
theorem k115_55 : lkc 55 (kcode 115) = some (.ishl) := by decide +kernel
theorem k115_56 : lkc 56 (kcode 115) = some (.ixor) := by decide +kernel
theorem k115_57 : lkc 57 (kcode 115) = some (.putfield 193) := by decide +kernel
theorem k115_60 : lkc 60 (kcode 115) = some (.aload_n 0) := by decide +kernel
theorem k115_61 : lkc 61 (kcode 115) = some (.getfield 75) := by decide +kernel
theorem k115_64 : lkc 64 (kcode 115) = some (.getfield 193) := by decide +kernel
theorem k115_67 : lkc 67 (kcode 115) = some (.iload_n 1) := by decide +kernel
theorem k115_68 : lkc 68 (kcode 115) = some (.ishr) := by decide +kernel
theorem k115_69 : lkc 69 (kcode 115) = some (.iconst 1) := by decide +kernel
theorem k115_70 : lkc 70 (kcode 115) = some (.iand) := by decide +kernel
theorem k115_71 : lkc 71 (kcode 115) = some (.ireturn) := by decide +kernel
/-! forward: the acts, the class -/
theorem nI_sub {a b : Nat} (ha : a < 2147483648) (h : b ≤ a) : nI a - nI b = nI (a - b) := by
  apply Int32.toInt_inj.mp
  rw [Int32.toInt_sub, nI_toInt (by omega), nI_toInt (by omega), nI_toInt (by omega), Int.bmod_eq_of_le (by omega) (by omega)]
  omega
def kpO (x h : Nat) (m mk : xM) : Prop := ∃ m1, scB (101 + 5 * x) 89 m m1 ∧ mk.1 99 1 = nI (nx1 x) ∧ mk.1 99 2 = nI (min (h + 1) 40) ∧ mk.2 = m.2 ∧ ∀ a i, ¬ (a = 99 ∧ (i = 1 ∨ i = 2)) → mk.1 a i = m1.1 a i
theorem kpO_f {x h : Nat} {m mk : xM} (q : kpO x h m mk) (hx : x < 40) {a i : Nat} (ha : a < 99 ∨ 301 ≤ a) : mk.1 a i = m.1 a i := by
  obtain ⟨m1, s, -, -, -, k⟩ := q
  rw [k a i (by omega), s.2.1 a i (by omega)]
theorem kpO_r {x h : Nat} {m mk : xM} (q : kpO x h m mk) (hr : rS m) : rS mk := by
  obtain ⟨m1, s, -, -, e, k⟩ := q
  exact fun a i b z => by rw [e]; exact hr a i b z
theorem c_isStreet {m : xM} {C : Nat} {z : Int32} (hr : rS m) (hC : m.1 3 1 = nI C) (hC9 : C ≤ 1000) : fC 109 [.ref 0, .int z] m (fun rv m' => ((∃ e, e < C ∧ z = nI e ∧ rv = some (.int 1)) ∨ ((∀ e, e < C → z ≠ nI e) ∧ rv = some (.int 0))) ∧ m = m') := by
  refine fC_of (by decide) (fun d n P H => ?_)
  have neg : ∀ n, (∀ e, e < C → z ≠ nI e) → xF 109 (xw d) P n 19 [(0, .ref 0), (1, .int z)] [] m → ∃ rv m', P rv m' ∧ ((∃ e, e < C ∧ z = nI e ∧ rv = some (.int 1)) ∨ ((∀ e, e < C → z ≠ nI e) ∧ rv = some (.int 0))) ∧ m = m' := by
    intro n h H
    replace H := f_iconst H k109_19 (v := 0) (by decide)
    replace H := f_iret H k109_20
    exact ⟨_, _, H, Or.inr ⟨h, rfl⟩, rfl⟩
  replace H := f_iload_n H k109_0 rfl
  have Hbr := f_if_lt H k109_1 (t := 19) (by decide)
  clear H
  rcases Hbr with ⟨c0, H⟩ | ⟨c0, H⟩
  · exact neg _ (fun e he q => by rw [q, show (0 : Int32) = nI 0 from rfl, nxlt (by omega) (by omega)] at c0; omega) H
  · replace H := f_iload_n H k109_4 rfl
    replace H := f_aload_n H k109_5 rfl
    replace H := f_gr H k109_6 (ci := 11) (f := 1) (x := 3) (by decide +kernel) (by decide) (hr 0 1 3 rfl)
    replace H := f_gi H k109_9 (ci := 5) (f := 1) (by decide +kernel) (by decide)
    rw [hC] at H
    have Hbr := f_icmp_ge H k109_12 (t := 19) (by decide)
    clear H
    rcases Hbr with ⟨c1, H⟩ | ⟨c1, H⟩
    · exact neg _ (fun e he q => by rw [q, nxle (by omega) (by omega)] at c1; omega) H
    · replace H := f_iconst H k109_15 (v := 1) (by decide)
      replace H := f_goto H k109_16 (t := 20) (by decide)
      replace H := f_iret H k109_20
      obtain ⟨e, he, rfl⟩ := z_nI (z := z) (K := C) hC9 c0 (by
        rw [Int32.le_iff_toInt_le] at c1
        rw [Int32.lt_iff_toInt_lt]
        omega)
      exact ⟨_, _, H, Or.inl ⟨e, he, rfl, rfl⟩, rfl⟩
theorem c_isWalker {m : xM} {C : Nat} {z : Int32} (hr : rS m) (hC : m.1 3 2 = nI C) (hC9 : C ≤ 1000) : fC 110 [.ref 0, .int z] m (fun rv m' => ((∃ e, e < C ∧ z = nI e ∧ rv = some (.int 1)) ∨ ((∀ e, e < C → z ≠ nI e) ∧ rv = some (.int 0))) ∧ m = m') := by
  refine fC_of (by decide) (fun d n P H => ?_)
  have neg : ∀ n, (∀ e, e < C → z ≠ nI e) → xF 110 (xw d) P n 19 [(0, .ref 0), (1, .int z)] [] m → ∃ rv m', P rv m' ∧ ((∃ e, e < C ∧ z = nI e ∧ rv = some (.int 1)) ∨ ((∀ e, e < C → z ≠ nI e) ∧ rv = some (.int 0))) ∧ m = m' := by
    intro n h H
    replace H := f_iconst H k110_19 (v := 0) (by decide)
    replace H := f_iret H k110_20
    exact ⟨_, _, H, Or.inr ⟨h, rfl⟩, rfl⟩
  replace H := f_iload_n H k110_0 rfl
  have Hbr := f_if_lt H k110_1 (t := 19) (by decide)
  clear H
  rcases Hbr with ⟨c0, H⟩ | ⟨c0, H⟩
  · exact neg _ (fun e he q => by rw [q, show (0 : Int32) = nI 0 from rfl, nxlt (by omega) (by omega)] at c0; omega) H
  · replace H := f_iload_n H k110_4 rfl
    replace H := f_aload_n H k110_5 rfl
    replace H := f_gr H k110_6 (ci := 11) (f := 1) (x := 3) (by decide +kernel) (by decide) (hr 0 1 3 rfl)
    replace H := f_gi H k110_9 (ci := 5) (f := 2) (by decide +kernel) (by decide)
    rw [hC] at H
    have Hbr := f_icmp_ge H k110_12 (t := 19) (by decide)
    clear H
    rcases Hbr with ⟨c1, H⟩ | ⟨c1, H⟩
    · exact neg _ (fun e he q => by rw [q, nxle (by omega) (by omega)] at c1; omega) H
    · replace H := f_iconst H k110_15 (v := 1) (by decide)
      replace H := f_goto H k110_16 (t := 20) (by decide)
      replace H := f_iret H k110_20
      obtain ⟨e, he, rfl⟩ := z_nI (z := z) (K := C) hC9 c0 (by
        rw [Int32.le_iff_toInt_le] at c1
        rw [Int32.lt_iff_toInt_lt]
        omega)
      exact ⟨_, _, H, Or.inl ⟨e, he, rfl, rfl⟩, rfl⟩
theorem c_isCornerN {m : xM} {C : Nat} {z : Int32} (hr : rS m) (hC : m.1 3 0 = nI C) (hC9 : C ≤ 1000) : fC 108 [.ref 0, .int z] m (fun rv m' => ((∃ e, e < C ∧ z = nI e ∧ rv = some (.int 1)) ∨ ((∀ e, e < C → z ≠ nI e) ∧ rv = some (.int 0))) ∧ m = m') := by
  refine fC_of (by decide) (fun d n P H => ?_)
  have neg : ∀ n, (∀ e, e < C → z ≠ nI e) → xF 108 (xw d) P n 19 [(0, .ref 0), (1, .int z)] [] m → ∃ rv m', P rv m' ∧ ((∃ e, e < C ∧ z = nI e ∧ rv = some (.int 1)) ∨ ((∀ e, e < C → z ≠ nI e) ∧ rv = some (.int 0))) ∧ m = m' := by
    intro n h H
    replace H := f_iconst H k108_19 (v := 0) (by decide)
    replace H := f_iret H k108_20
    exact ⟨_, _, H, Or.inr ⟨h, rfl⟩, rfl⟩
  replace H := f_iload_n H k108_0 rfl
  have Hbr := f_if_lt H k108_1 (t := 19) (by decide)
  clear H
  rcases Hbr with ⟨c0, H⟩ | ⟨c0, H⟩
  · exact neg _ (fun e he q => by rw [q, show (0 : Int32) = nI 0 from rfl, nxlt (by omega) (by omega)] at c0; omega) H
  · replace H := f_iload_n H k108_4 rfl
    replace H := f_aload_n H k108_5 rfl
    replace H := f_gr H k108_6 (ci := 11) (f := 1) (x := 3) (by decide +kernel) (by decide) (hr 0 1 3 rfl)
    replace H := f_gi H k108_9 (ci := 5) (f := 0) (by decide +kernel) (by decide)
    rw [hC] at H
    have Hbr := f_icmp_ge H k108_12 (t := 19) (by decide)
    clear H
    rcases Hbr with ⟨c1, H⟩ | ⟨c1, H⟩
    · exact neg _ (fun e he q => by rw [q, nxle (by omega) (by omega)] at c1; omega) H
    · replace H := f_iconst H k108_15 (v := 1) (by decide)
      replace H := f_goto H k108_16 (t := 20) (by decide)
      replace H := f_iret H k108_20
      obtain ⟨e, he, rfl⟩ := z_nI (z := z) (K := C) hC9 c0 (by
        rw [Int32.le_iff_toInt_le] at c1
        rw [Int32.lt_iff_toInt_lt]
        omega)
      exact ⟨_, _, H, Or.inl ⟨e, he, rfl, rfl⟩, rfl⟩
theorem c_hasTown {m : xM} {C : Nat} (hr : rS m) (hC : m.1 3 0 = nI C) (hC9 : C ≤ 1000) : fC 107 [.ref 0] m (fun rv m' => ((0 < C ∧ rv = some (.int 1)) ∨ (C = 0 ∧ rv = some (.int 0))) ∧ m = m') := by
  refine fC_of (by decide) (fun d n P H => ?_)
  replace H := f_aload_n H k107_0 rfl
  replace H := f_gr H k107_1 (ci := 11) (f := 1) (x := 3) (by decide +kernel) (by decide) (hr 0 1 3 rfl)
  replace H := f_gi H k107_4 (ci := 5) (f := 0) (by decide +kernel) (by decide)
  rw [hC] at H
  have Hbr := f_if_le H k107_7 (t := 14) (by decide)
  clear H
  rcases Hbr with ⟨c, H⟩ | ⟨c, H⟩
  · rw [show (0 : Int32) = nI 0 from rfl, nxle (by omega) (by omega)] at c
    replace H := f_iconst H k107_14 (v := 0) (by decide)
    replace H := f_iret H k107_15
    exact ⟨_, _, H, Or.inr ⟨by omega, rfl⟩, rfl⟩
  · rw [show (0 : Int32) = nI 0 from rfl, nxle (by omega) (by omega)] at c
    replace H := f_iconst H k107_10 (v := 1) (by decide)
    replace H := f_goto H k107_11 (t := 15) (by decide)
    replace H := f_iret H k107_15
    exact ⟨_, _, H, Or.inl ⟨by omega, rfl⟩, rfl⟩
theorem c_wall {m : xM} {S w k x h : Nat} {z : Int32} (hr : rS m) (hS : m.1 3 1 = nI S) (hS12 : S ≤ 12) (hw : m.1 89 0 = nI w) (hw2 : w < 65536) (hk : m.1 89 1 = nI k) (hk9 : k ≤ 999) (hx : m.1 99 1 = nI x) (hx4 : x < 40) (hh : m.1 99 2 = nI h) (hh4 : h ≤ 40) : fC 115 [.ref 0, .int z] m (fun rv m' => (¬ (∃ e, e < S ∧ z = nI e ∧ 3 ≤ k) ∧ rv = some (.int (-1)) ∧ m' = m) ∨ ∃ e, e < S ∧ z = nI e ∧ 3 ≤ k ∧ rv = some (.int (if (w ^^^ 2 ^ e).testBit e then 1 else 0)) ∧ ∃ mk, kpO x h m mk ∧ m' = mI (mI mk 89 1 (nI (k - 3))) 89 0 (nI (w ^^^ 2 ^ e))) := by
  refine fC_of (by decide) (fun d n P H => ?_)
  have neg : ∀ n, ¬ (∃ e, e < S ∧ z = nI e ∧ 3 ≤ k) → xF 115 (xw d) P n 19 [(0, .ref 0), (1, .int z)] [] m → ∃ rv m', P rv m' ∧ ((¬ (∃ e, e < S ∧ z = nI e ∧ 3 ≤ k) ∧ rv = some (.int (-1)) ∧ m' = m) ∨ ∃ e, e < S ∧ z = nI e ∧ 3 ≤ k ∧ rv = some (.int (if (w ^^^ 2 ^ e).testBit e then 1 else 0)) ∧ ∃ mk, kpO x h m mk ∧ m' = mI (mI mk 89 1 (nI (k - 3))) 89 0 (nI (w ^^^ 2 ^ e))) := by
    intro n hn H
    replace H := f_iconst H k115_19 (v := -1) (by decide)
    replace H := f_iret H k115_20
    exact ⟨_, _, H, Or.inl ⟨hn, rfl, rfl⟩⟩
  replace H := f_aload_n H k115_0 rfl
  replace H := f_iload_n H k115_1 rfl
  obtain ⟨rv, m3, ⟨ho, e3⟩, h9_2⟩ := f_inv H k115_2 (by decide +kernel) (as := [.int _]) (b := 0) (r := []) (by rfl) (c_isStreet hr hS (by omega))
  replace H := h9_2
  rw [← e3] at H
  clear e3
  rcases ho with ⟨e, he, rfl, rfl⟩ | ⟨hno, rfl⟩
  · replace H := f_if_eq_f H k115_5 (by decide)
    replace H := f_aload_n H k115_8 rfl
    replace H := f_gr H k115_9 (ci := 11) (f := 9) (x := 89) (by decide +kernel) (by decide) (hr 0 9 89 rfl)
    replace H := f_gi H k115_12 (ci := 6) (f := 1) (by decide +kernel) (by decide)
    replace H := f_iconst H k115_15 (v := 3) (by decide)
    rw [hk, show (3 : Int32) = nI 3 from rfl] at H
    have Hbr := f_icmp_ge H k115_16 (t := 21) (by decide)
    clear H
    rcases Hbr with ⟨c, H⟩ | ⟨c, H⟩
    · rw [nxle (by omega) (by omega)] at c
      replace H := f_aload_n H k115_21 rfl
      replace H := f_gr H k115_22 (ci := 11) (f := 11) (x := 99) (by decide +kernel) (by decide) (hr 0 11 99 rfl)
      replace H := f_aload_n H k115_25 rfl
      replace H := f_gr H k115_26 (ci := 11) (f := 9) (x := 89) (by decide +kernel) (by decide) (hr 0 9 89 rfl)
      obtain ⟨rv, m4, ⟨rfl, hq⟩, h9_29⟩ := f_inv H k115_29 (by decide +kernel) (as := [.ref 89]) (b := 99) (r := []) (by rfl) (c_keep hr hx hx4 hh hh4)
      replace H := h9_29
      have hkp : kpO x h m m4 := hq
      have hr := kpO_r hkp hr
      have w4 : m4.1 89 0 = nI w := by rw [kpO_f hkp hx4 (by omega)]; exact hw
      have k4 : m4.1 89 1 = nI k := by rw [kpO_f hkp hx4 (by omega)]; exact hk
      have he16 : e < 16 := by omega
      have hlt : w ^^^ 2 ^ e < 65536 := Nat.xor_lt_two_pow (n := 16) hw2 (Nat.lt_of_lt_of_le (Nat.pow_lt_pow_right (by omega) he16) (Nat.le_refl _))
      replace H := f_aload_n H k115_32 rfl
      replace H := f_gr H k115_33 (ci := 11) (f := 9) (x := 89) (by decide +kernel) (by decide) (hr 0 9 89 rfl)
      replace H := f_dup H k115_36
      replace H := f_gi H k115_37 (ci := 6) (f := 1) (by decide +kernel) (by decide)
      replace H := f_iconst H k115_40 (v := 3) (by decide)
      replace H := f_isub H k115_41
      replace H := f_put_i H k115_42 (ci := 6) (f := 1) (by decide +kernel) (by decide)
      replace H := f_aload_n H k115_45 rfl
      replace H := f_gr H k115_46 (ci := 11) (f := 9) (x := 89) (by decide +kernel) (by decide) (hr 0 9 89 rfl)
      replace H := f_dup H k115_49
      replace H := f_gi H k115_50 (ci := 6) (f := 0) (by decide +kernel) (by decide)
      replace H := f_iconst H k115_53 (v := 1) (by decide)
      replace H := f_iload_n H k115_54 rfl
      replace H := f_ishl H k115_55
      replace H := f_ixor H k115_56
      replace H := f_put_i H k115_57 (ci := 6) (f := 0) (by decide +kernel) (by decide)
      replace H := f_aload_n H k115_60 rfl
      replace H := f_gr H k115_61 (ci := 11) (f := 9) (x := 89) (by decide +kernel) (by decide) (hr 0 9 89 rfl)
      replace H := f_gi H k115_64 (ci := 6) (f := 0) (by decide +kernel) (by decide)
      replace H := f_iload_n H k115_67 rfl
      replace H := f_ishr H k115_68
      replace H := f_iconst H k115_69 (v := 1) (by decide)
      replace H := f_iand H k115_70
      rw [k4, show (3 : Int32) = nI 3 from rfl, nI_sub (by omega) c, mI_at, mI_ne (by omega), w4, shl_n he16, nx_xor, has_n (by omega) (by omega)] at H
      replace H := f_iret H k115_71
      exact ⟨_, _, H, Or.inr ⟨e, he, rfl, c, rfl, m4, hkp, rfl⟩⟩
    · rw [nxle (by omega) (by omega)] at c
      exact neg _ (fun ⟨_, _, _, q⟩ => c q) H
  · replace H := f_if_eq_t H k115_5 rfl (t := 19) (by decide)
    exact neg _ (fun ⟨e, q1, q2, _⟩ => hno e q1 q2) H
