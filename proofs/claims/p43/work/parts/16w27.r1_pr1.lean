/-! pairs over the scenes' relation: council -/
theorem p1_council (z : Int32) : Pair1 105 209 [.int z] := by
  intro x hi
  obtain ⟨hg, hj, hr, hs⟩ := id hi
  obtain ⟨C, S, W, b, k, A, B, Y, w, h1, h2, h3, h4, h5, h6, h7, h8, h9, h10, h11, h12, h13, h14, h15, h16⟩ := id hs
  refine ⟨fun rv x1 => cPo tS tR q120c x [.ref 0, .int z] rv x1 ∧ (((z < 0 ∨ 9 < z ∨ z = x.1 0 16) ∧ rv = some (.int 0) ∧ x1 = x) ∨ (¬ (z < 0 ∨ 9 < z ∨ z = x.1 0 16) ∧ rv = some (.int 1) ∧ x1 = mI x 0 16 z)), ?_, ?_⟩
  · refine xw_im (fC_and (xw_vc q120 (by decide) hg trivial ⟨aR_a 0, aI_a z, trivial⟩ rfl) (c_council hg.2)) (fun rv x1 h => ⟨?_, h⟩)
    rcases h.2 with ⟨-, h, -⟩ | ⟨-, h, -⟩ <;> exact ⟨_, h⟩
  · rintro rv x1 ⟨hp, ho⟩
    obtain ⟨i1, i2, i3⟩ := inv_st0 (c := q120c) (by decide +kernel) (Inv_0 hi) hp
    obtain ⟨g1, j1, fx⟩ := cx_st (by decide +kernel) hj hp
    refine xw_im (fC_and (xw_vc r25 (by decide) g1 j1 ⟨aR_a 314, aI_a z, trivial⟩ rfl) (c_mcouncil g1.2)) (fun rv2 x2 h => ?_)
    obtain ⟨hp2, ho2⟩ := h
    obtain ⟨a1, a2, a3⟩ := inv_st0 (c := r25c) (by decide +kernel) ⟨i1, i2, i3⟩ hp2
    have e35 : x1.1 314 35 = x.1 0 16 := by rw [fx 314 35 (by decide), h12, h11]
    rw [e35] at ho2
    rcases ho with ⟨c, rfl, e⟩ | ⟨c, rfl, e⟩ <;> rcases ho2 with ⟨c2, rfl, e2⟩ | ⟨c2, rfl, e2⟩
    · refine ⟨rfl, a1, a2, a3, relS_ag hs (fun a i hk => ?_)⟩
      unfold relSK at hk
      rw [e2, mI_ne (by omega), e]
    · exact absurd c c2
    · exact absurd c2 c
    · have q : ∀ a i, ¬ (a = 0 ∧ i = 16) → ¬ (a = 314 ∧ (i = 0 ∨ i = 35)) → x2.1 a i = x.1 a i := fun a i z1 z2 => by
        rw [e2, mI_ne (by omega), mI_ne (by omega), e, mI_ne z1]
      have hz0 : 0 ≤ z.toInt := by
        have : ¬ z < 0 := fun q => c (Or.inl q)
        rw [Int32.lt_iff_toInt_lt, show (0 : Int32).toInt = 0 by decide] at this
        omega
      have hz9 : z.toInt ≤ 9 := by
        have : ¬ 9 < z := fun q => c (Or.inr (Or.inl q))
        rw [Int32.lt_iff_toInt_lt, show (9 : Int32).toInt = 9 by decide] at this
        omega
      refine ⟨rfl, a1, a2, a3, C, S, W, z.toInt.toNat, k, A, B, Y, w, xT_3 h1 (fun a i c => q a i (by omega) (by omega)), mT_f h2 (fun i => ⟨⟨q _ _ (by omega) (by omega), q _ _ (by omega) (by omega)⟩, q _ _ (by omega) (by omega)⟩), h3, by rw [q _ _ (by omega) (by omega)]; exact h4, by rw [q _ _ (by omega) (by omega)]; exact h5, h6, h7, h8, WX_f h9 (fun a i c => q a i (by omega) (by omega)), WM_f h6 h10 (fun a i c => q a i (by omega) (by omega)), ?_, ?_, by omega, by rw [q _ _ (by omega) (by omega)]; exact h14, by rw [q _ _ (by omega) (by omega)]; exact h15, h16⟩
      · rw [e2, mI_ne (by omega), mI_ne (by omega), e, mI_at]
        exact nI_tn hz0
      · rw [e2, mI_at]
        exact nI_tn hz0
