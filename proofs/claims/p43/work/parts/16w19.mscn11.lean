theorem k207_0 : lkc 0 (kcode 207) = some (.aload_n 0) := by decide +kernel
theorem k207_1 : lkc 1 (kcode 207) = some (.aload_n 0) := by decide +kernel
theorem k207_2 : lkc 2 (kcode 207) = some (.iload_n 1) := by decide +kernel
theorem k207_3 : lkc 3 (kcode 207) = some (.invokevirtual 362) := by decide +kernel
theorem k207_6 : lkc 6 (kcode 207) = some (.ifCond .eq 17) := by decide +kernel
theorem k207_9 : lkc 9 (kcode 207) = some (.iload_n 2) := by decide +kernel
theorem k207_10 : lkc 10 (kcode 207) = some (.i2l) := by decide +kernel
theorem k207_11 : lkc 11 (kcode 207) = some (.lconst 0) := by decide +kernel
theorem k207_12 : lkc 12 (kcode 207) = some (.lconst 1) := by decide +kernel
theorem k207_13 : lkc 13 (kcode 207) = some (.invokestatic 211) := by decide +kernel
theorem k207_16 : lkc 16 (kcode 207) = some (.ifCond .eq 7) := by decide +kernel
theorem k207_19 : lkc 19 (kcode 207) = some (.iconst 0) := by decide +kernel
theorem k207_20 : lkc 20 (kcode 207) = some (.goto 4) := by decide +kernel
theorem k207_23 : lkc 23 (kcode 207) = some (.iconst 1) := by decide +kernel
theorem k207_24 : lkc 24 (kcode 207) = some (.putfield 90) := by decide +kernel
theorem k207_27 : lkc 27 (kcode 207) = some (.aload_n 0) := by decide +kernel
theorem k207_28 : lkc 28 (kcode 207) = some (.getfield 90) := by decide +kernel
theorem k207_31 : lkc 31 (kcode 207) = some (.ifCond .le 7) := by decide +kernel
theorem k207_34 : lkc 34 (kcode 207) = some (.iconst 0) := by decide +kernel
theorem k207_35 : lkc 35 (kcode 207) = some (.goto 16) := by decide +kernel
theorem k207_38 : lkc 38 (kcode 207) = some (.aload_n 0) := by decide +kernel
theorem k207_39 : lkc 39 (kcode 207) = some (.getfield 58) := by decide +kernel
theorem k207_42 : lkc 42 (kcode 207) = some (.bipush 16) := by decide +kernel
theorem k207_44 : lkc 44 (kcode 207) = some (.iconst 2) := by decide +kernel
theorem k207_45 : lkc 45 (kcode 207) = some (.iload_n 1) := by decide +kernel
theorem k207_46 : lkc 46 (kcode 207) = some (.imul) := by decide +kernel
theorem k207_47 : lkc 47 (kcode 207) = some (.iadd) := by decide +kernel
theorem k207_48 : lkc 48 (kcode 207) = some (.iload_n 2) := by decide +kernel
theorem k207_49 : lkc 49 (kcode 207) = some (.iadd) := by decide +kernel
theorem k207_50 : lkc 50 (kcode 207) = some (.iaload) := by decide +kernel
theorem k207_51 : lkc 51 (kcode 207) = some (.ireturn) := by decide +kernel
/-! forward: walker (the reference) -/
theorem c_mwalker {m : xM} {W C w k d0 lg : Nat} {h f : Nat → Nat} {z y : Int32} (hr : rS m) (hS : mS9 m C W w k d0 lg h f) : fC 207 [.ref 314, .int z, .int y] m (fun rv m' => ((∃ p, p < W ∧ z = nI p ∧ ((y = 0 ∧ rv = some (.int (nI (h p)))) ∨ (y = 1 ∧ rv = some (.int (nI (f p)))))) ∧ m' = mI m 314 0 0) ∨ (¬ ((∃ p, p < W ∧ z = nI p) ∧ (y = 0 ∨ y = 1)) ∧ rv = some (.int 0) ∧ m' = mI m 314 0 1)) := by
  refine fC_of (by decide) (fun d n P H => ?_)
  obtain ⟨hW, hW4, -, -, -, -, -, -, -, -, hh, hf⟩ := hS
  have hz : ∀ k : Int32, y.toInt = k.toInt → y = k := fun k h => Int32.toInt_inj.mp h
  have bad : ∀ n, ¬ ((∃ p, p < W ∧ z = nI p) ∧ (y = 0 ∨ y = 1)) → xF 207 (xw d) P n 23 [(0, .ref 314), (1, .int z), (2, .int y)] [.ref 314] m → ∃ rv m', P rv m' ∧ (((∃ p, p < W ∧ z = nI p ∧ ((y = 0 ∧ rv = some (.int (nI (h p)))) ∨ (y = 1 ∧ rv = some (.int (nI (f p)))))) ∧ m' = mI m 314 0 0) ∨ (¬ ((∃ p, p < W ∧ z = nI p) ∧ (y = 0 ∨ y = 1)) ∧ rv = some (.int 0) ∧ m' = mI m 314 0 1)) := by
    intro n hn H
    replace H := f_iconst H k207_23 (v := 1) (by decide)
    replace H := f_put_i H k207_24 (ci := 12) (f := 0) (by decide +kernel) (by decide)
    replace H := f_aload_n H k207_27 rfl
    replace H := f_gi H k207_28 (ci := 12) (f := 0) (by decide +kernel) (by decide)
    rw [mI_at] at H
    replace H := f_if_le_f H k207_31 (by decide)
    replace H := f_iconst H k207_34 (v := 0) (by decide)
    replace H := f_goto H k207_35 (t := 51) (by decide)
    replace H := f_iret H k207_51
    exact ⟨_, _, H, Or.inr ⟨hn, rfl, rfl⟩⟩
  replace H := f_aload_n H k207_0 rfl
  replace H := f_aload_n H k207_1 rfl
  replace H := f_iload_n H k207_2 rfl
  obtain ⟨rv, m3, ⟨ho, e3⟩, h9_3⟩ := f_inv H k207_3 (by decide +kernel) (as := [.int _]) (b := 314) (r := [.ref 314]) (by rfl) (c_misWalker hr hW (by omega))
  replace H := h9_3
  rw [← e3] at H
  clear e3
  rcases ho with ⟨p, h0, hze, rfl⟩ | ⟨h0, rfl⟩
  · subst hze
    replace H := f_if_eq_f H k207_6 (by decide)
    replace H := f_iload_n H k207_9 rfl
    replace H := f_i2l H k207_10
    replace H := f_lconst H k207_11 (v := 0) (by decide)
    replace H := f_lconst H k207_12 (v := 1) (by decide)
    obtain ⟨rv, m3, ⟨ho, e3⟩, h9_13⟩ := f_ins H k207_13 (by decide +kernel) (as := [.long _, .long _, .long _]) (r := [.ref 314]) (by rfl) (c_isInK (v := y) (l := 0) (mo := 1) (by decide) (by decide))
    replace H := h9_13
    rw [← e3] at H
    clear e3
    obtain ⟨a1, a2⟩ := hh p h0
    obtain ⟨b1, b2⟩ := hf p h0
    rcases ho with ⟨c1, c2, rfl⟩ | ⟨c1, rfl⟩
    · rw [Int32.le_iff_toInt_le, show (0 : Int32).toInt = 0 by decide] at c1
      rw [Int32.le_iff_toInt_le, show (1 : Int32).toInt = 1 by decide] at c2
      have h3 : y = 0 ∨ y = 1 := by
        have : y.toInt = 0 ∨ y.toInt = 1 := by omega
        rcases this with e | e
        · exact Or.inl (hz 0 e)
        · exact Or.inr (hz 1 e)
      replace H := f_if_eq_f H k207_16 (by decide)
      replace H := f_iconst H k207_19 (v := 0) (by decide)
      replace H := f_goto H k207_20 (t := 24) (by decide)
      replace H := f_put_i H k207_24 (ci := 12) (f := 0) (by decide +kernel) (by decide)
      replace H := f_aload_n H k207_27 rfl
      replace H := f_gi H k207_28 (ci := 12) (f := 0) (by decide +kernel) (by decide)
      rw [mI_at] at H
      replace H := f_if_le_t H k207_31 (by decide) (t := 38) (by decide)
      replace H := f_aload_n H k207_38 rfl
      replace H := f_gr H k207_39 (ci := 12) (f := 32) (x := 326) (by decide +kernel) (by decide) (hr 314 32 326 rfl)
      replace H := f_bipush H k207_42 (v := 16) (by decide)
      replace H := f_iconst H k207_44 (v := 2) (by decide)
      replace H := f_iload_n H k207_45 rfl
      replace H := f_imul H k207_46
      replace H := f_iadd H k207_47
      replace H := f_iload_n H k207_48 rfl
      replace H := f_iadd H k207_49
      have Hob := f_iald H k207_50 (c := 208) (by decide)
      clear H
      obtain ⟨hb50, H⟩ := Hob
      rw [show (2 : Int32) = nI 2 from rfl, show (16 : Int32) = nI 16 from rfl, nI_mul, r_ad] at H
      rcases h3 with rfl | rfl
      · rw [show (0 : Int32) = nI 0 from rfl, r_ad, nI_clamp (by omega), Nat.add_zero (16 + 2 * p), mI_ne (by omega), a1] at H
        replace H := f_iret H k207_51
        exact ⟨_, _, H, Or.inl ⟨⟨p, h0, rfl, Or.inl ⟨rfl, rfl⟩⟩, rfl⟩⟩
      · rw [show (1 : Int32) = nI 1 from rfl, r_ad, nI_clamp (by omega), mI_ne (by omega), show 16 + 2 * p + 1 = 17 + 2 * p by omega, b1] at H
        replace H := f_iret H k207_51
        exact ⟨_, _, H, Or.inl ⟨⟨p, h0, rfl, Or.inr ⟨rfl, rfl⟩⟩, rfl⟩⟩
    · replace H := f_if_eq_t H k207_16 rfl (t := 23) (by decide)
      exact bad _ (fun q => by
        rcases c1 with c1 | c1 <;> rcases q.2 with q | q <;> (rw [q] at c1; revert c1; decide)) H
  · replace H := f_if_eq_t H k207_6 rfl (t := 23) (by decide)
    exact bad _ (fun ⟨⟨e, q1, q2⟩, _⟩ => h0 e q1 q2) H
