theorem k105_0 : lkc 0 (kcode 105) = some (.iload_n 1) := by decide +kernel
theorem k105_1 : lkc 1 (kcode 105) = some (.ifCond .lt 17) := by decide +kernel
theorem k105_4 : lkc 4 (kcode 105) = some (.iload_n 1) := by decide +kernel
theorem k105_5 : lkc 5 (kcode 105) = some (.bipush 9) := by decide +kernel
theorem k105_7 : lkc 7 (kcode 105) = some (.if_icmp .gt 11) := by decide +kernel
theorem k105_10 : lkc 10 (kcode 105) = some (.iload_n 1) := by decide +kernel
theorem k105_11 : lkc 11 (kcode 105) = some (.aload_n 0) := by decide +kernel
theorem k105_12 : lkc 12 (kcode 105) = some (.getfield 102) := by decide +kernel
theorem k105_15 : lkc 15 (kcode 105) = some (.if_icmp .ne 5) := by decide +kernel
theorem k105_18 : lkc 18 (kcode 105) = some (.iconst 0) := by decide +kernel
theorem k105_19 : lkc 19 (kcode 105) = some (.ireturn) := by decide +kernel
theorem k105_20 : lkc 20 (kcode 105) = some (.aload_n 0) := by decide +kernel
theorem k105_21 : lkc 21 (kcode 105) = some (.iload_n 1) := by decide +kernel
theorem k105_22 : lkc 22 (kcode 105) = some (.putfield 102) := by decide +kernel
theorem k105_25 : lkc 25 (kcode 105) = some (.iconst 1) := by decide +kernel
theorem k105_26 : lkc 26 (kcode 105) = some (.ireturn) := by decide +kernel
theorem k209_0 : lkc 0 (kcode 209) = some (.aload_n 0) := by decide +kernel
theorem k209_1 : lkc 1 (kcode 209) = some (.iconst 0) := by decide +kernel
theorem k209_2 : lkc 2 (kcode 209) = some (.putfield 90) := by decide +kernel
theorem k209_5 : lkc 5 (kcode 209) = some (.iload_n 1) := by decide +kernel
theorem k209_6 : lkc 6 (kcode 209) = some (.i2l) := by decide +kernel
theorem k209_7 : lkc 7 (kcode 209) = some (.lconst 0) := by decide +kernel
theorem k209_8 : lkc 8 (kcode 209) = some (.ldc2_w 365) := by decide +kernel
theorem k209_11 : lkc 11 (kcode 209) = some (.invokestatic 211) := by decide +kernel
theorem k209_14 : lkc 14 (kcode 209) = some (.ifCond .eq 11) := by decide +kernel
theorem k209_17 : lkc 17 (kcode 209) = some (.iload_n 1) := by decide +kernel
theorem k209_18 : lkc 18 (kcode 209) = some (.aload_n 0) := by decide +kernel
theorem k209_19 : lkc 19 (kcode 209) = some (.getfield 68) := by decide +kernel
theorem k209_22 : lkc 22 (kcode 209) = some (.if_icmp .ne 5) := by decide +kernel
theorem k209_25 : lkc 25 (kcode 209) = some (.iconst 0) := by decide +kernel
theorem k209_26 : lkc 26 (kcode 209) = some (.ireturn) := by decide +kernel
theorem k209_27 : lkc 27 (kcode 209) = some (.aload_n 0) := by decide +kernel
theorem k209_28 : lkc 28 (kcode 209) = some (.iload_n 1) := by decide +kernel
theorem k209_29 : lkc 29 (kcode 209) = some (.putfield 68) := by decide +kernel
theorem k209_32 : lkc 32 (kcode 209) = some (.iconst 1) := by decide +kernel
theorem k209_33 : lkc 33 (kcode 209) = some (.ireturn) := by decide +kernel
/-! forward: council (both sides) -/
theorem c_council {m : xM} {v : Int32} (hr : rS m) : fC 105 [.ref 0, .int v] m (fun rv m' => ((v < 0 ∨ 9 < v ∨ v = m.1 0 16) ∧ rv = some (.int 0) ∧ m' = m) ∨ (¬ (v < 0 ∨ 9 < v ∨ v = m.1 0 16) ∧ rv = some (.int 1) ∧ m' = mI m 0 16 v)) := by
  refine fC_of (by decide) (fun d n P H => ?_)
  have neg : ∀ n, (v < 0 ∨ 9 < v ∨ v = m.1 0 16) → xF 105 (xw d) P n 18 [(0, .ref 0), (1, .int v)] [] m → ∃ rv m', P rv m' ∧ (((v < 0 ∨ 9 < v ∨ v = m.1 0 16) ∧ rv = some (.int 0) ∧ m' = m) ∨ (¬ (v < 0 ∨ 9 < v ∨ v = m.1 0 16) ∧ rv = some (.int 1) ∧ m' = mI m 0 16 v)) := by
    intro n hn H
    replace H := f_iconst H k105_18 (v := 0) (by decide)
    replace H := f_iret H k105_19
    exact ⟨_, _, H, Or.inl ⟨hn, rfl, rfl⟩⟩
  replace H := f_iload_n H k105_0 rfl
  have Hbr := f_if_lt H k105_1 (t := 18) (by decide)
  clear H
  rcases Hbr with ⟨c1, H⟩ | ⟨c1, H⟩
  · exact neg _ (Or.inl c1) H
  · replace H := f_iload_n H k105_4 rfl
    replace H := f_bipush H k105_5 (v := 9) (by decide)
    have Hbr := f_icmp_gt H k105_7 (t := 18) (by decide)
    clear H
    rcases Hbr with ⟨c2, H⟩ | ⟨c2, H⟩
    · exact neg _ (Or.inr (Or.inl c2)) H
    · replace H := f_iload_n H k105_10 rfl
      replace H := f_aload_n H k105_11 rfl
      replace H := f_gi H k105_12 (ci := 11) (f := 16) (by decide +kernel) (by decide)
      have Hbr := f_icmp_ne H k105_15 (t := 20) (by decide)
      clear H
      rcases Hbr with ⟨c3, H⟩ | ⟨c3, H⟩
      · replace H := f_aload_n H k105_20 rfl
        replace H := f_iload_n H k105_21 rfl
        replace H := f_put_i H k105_22 (ci := 11) (f := 16) (by decide +kernel) (by decide)
        replace H := f_iconst H k105_25 (v := 1) (by decide)
        replace H := f_iret H k105_26
        exact ⟨_, _, H, Or.inr ⟨fun q => q.elim c1 (fun q => q.elim c2 c3), rfl, rfl⟩⟩
      · exact neg _ (Or.inr (Or.inr c3)) H
theorem c_mcouncil {m : xM} {v : Int32} (hr : rS m) : fC 209 [.ref 314, .int v] m (fun rv m' => ((v < 0 ∨ 9 < v ∨ v = m.1 314 35) ∧ rv = some (.int 0) ∧ m' = mI m 314 0 0) ∨ (¬ (v < 0 ∨ 9 < v ∨ v = m.1 314 35) ∧ rv = some (.int 1) ∧ m' = mI (mI m 314 0 0) 314 35 v)) := by
  refine fC_of (by decide) (fun d n P H => ?_)
  replace H := f_aload_n H k209_0 rfl
  replace H := f_iconst H k209_1 (v := 0) (by decide)
  replace H := f_put_i H k209_2 (ci := 12) (f := 0) (by decide +kernel) (by decide)
  have e0 : (mI m 314 0 0).1 314 35 = m.1 314 35 := mI_ne (by omega)
  replace hr : rS (mI m 314 0 0) := hr
  rw [← e0]
  clear e0
  generalize mI m 314 0 0 = m at *
  have neg : ∀ n, (v < 0 ∨ 9 < v ∨ v = m.1 314 35) → xF 209 (xw d) P n 25 [(0, .ref 314), (1, .int v)] [] m → ∃ rv m', P rv m' ∧ (((v < 0 ∨ 9 < v ∨ v = m.1 314 35) ∧ rv = some (.int 0) ∧ m' = m) ∨ (¬ (v < 0 ∨ 9 < v ∨ v = m.1 314 35) ∧ rv = some (.int 1) ∧ m' = mI m 314 35 v)) := by
    intro n hn H
    replace H := f_iconst H k209_25 (v := 0) (by decide)
    replace H := f_iret H k209_26
    exact ⟨_, _, H, Or.inl ⟨hn, rfl, rfl⟩⟩
  replace H := f_iload_n H k209_5 rfl
  replace H := f_i2l H k209_6
  replace H := f_lconst H k209_7 (v := 0) (by decide)
  replace H := f_ldc2 H k209_8 (v := 9) (by decide +kernel)
  obtain ⟨rv, m3, ⟨ho, e3⟩, h9_11⟩ := f_ins H k209_11 (by decide +kernel) (as := [.long _, .long _, .long _]) (r := []) (by rfl) (c_isInK (v := v) (l := 0) (mo := 9) (by decide) (by decide))
  replace H := h9_11
  rw [← e3] at H
  clear e3
  rcases ho with ⟨c1, c2, rfl⟩ | ⟨c1, rfl⟩
  · replace H := f_if_eq_f H k209_14 (by decide)
    replace H := f_iload_n H k209_17 rfl
    replace H := f_aload_n H k209_18 rfl
    replace H := f_gi H k209_19 (ci := 12) (f := 35) (by decide +kernel) (by decide)
    have Hbr := f_icmp_ne H k209_22 (t := 27) (by decide)
    clear H
    rcases Hbr with ⟨c3, H⟩ | ⟨c3, H⟩
    · replace H := f_aload_n H k209_27 rfl
      replace H := f_iload_n H k209_28 rfl
      replace H := f_put_i H k209_29 (ci := 12) (f := 35) (by decide +kernel) (by decide)
      replace H := f_iconst H k209_32 (v := 1) (by decide)
      replace H := f_iret H k209_33
      refine ⟨_, _, H, Or.inr ⟨fun q => ?_, rfl, rfl⟩⟩
      rcases q with q | q | q
      · rw [Int32.lt_iff_toInt_lt] at q
        rw [Int32.le_iff_toInt_le] at c1
        omega
      · rw [Int32.lt_iff_toInt_lt] at q
        rw [Int32.le_iff_toInt_le] at c2
        omega
      · exact c3 q
    · exact neg _ (Or.inr (Or.inr c3)) H
  · replace H := f_if_eq_t H k209_14 rfl (t := 25) (by decide)
    exact neg _ (c1.elim Or.inl (fun q => Or.inr (Or.inl q))) H
