/-! pairs over the scenes' relation: image -/
theorem p1_image : Pair1 126 261 [] := by
  intro x hi
  obtain ⟨hg, hj, hr, hs⟩ := id hi
  obtain ⟨C, S, W, b, k, A, B, Y, w, h1, h2, h3, h4, h5, h6, h7, h8, h9, h10, h11, h12, h13, h14, h15, h16⟩ := id hs
  have hC8 := h1.2.2.1
  have hS12 := h1.2.2.2.1
  have hd : x.1 89 2 = nI w.1.2.2.1 := h9.1.2.2.1
  have hd2 : x.1 326 26 = nI w.1.2.2.1 := by have := h10.1.2.2.1; rwa [Nat.zero_add] at this
  refine ⟨fun rv x1 => cPo tS tR q218c x [.ref 0] rv x1 ∧ ((C = 0 ∧ rv = some (.int (-1)) ∧ x1 = x) ∨ (0 < C ∧ rv = some (.int (nI w.1.2.2.1)) ∧ ∃ m1, scB 305 89 x m1 ∧ x1.1 0 15 = 1 ∧ ∀ a i, ¬ (a = 0 ∧ i = 15) → a < 310 → x1.1 a i = m1.1 a i)), ?_, ?_⟩
  · refine xw_im (fC_and (xw_vc q218 (by decide) hg trivial ⟨aR_a 0, trivial⟩ rfl) (c_image hg h1.1 (by omega) hd)) (fun rv x1 h => ⟨?_, h⟩)
    rcases h.2 with ⟨-, h, -⟩ | ⟨-, h, -⟩ <;> exact ⟨_, h⟩
  · rintro rv x1 ⟨hp, ho⟩
    obtain ⟨i1, i2, i3⟩ := inv_st0 (c := q218c) (by decide +kernel) (Inv_0 hi) hp
    obtain ⟨g1, j1, fx⟩ := cx_st (by decide +kernel) hj hp
    refine xw_im (fC_and (xw_vc r223 (by decide) g1 j1 ⟨aR_a 314, trivial⟩ rfl) (c_mimage (S := S) g1.2 (by rw [fx 314 26 (by decide)]; exact h2.2.1) hS12 (by rw [fx 326 26 (by decide)]; exact hd2))) (fun rv2 x2 h => ?_)
    obtain ⟨hp2, ho2⟩ := h
    obtain ⟨a1, a2, a3⟩ := inv_st0 (c := r223c) (by decide +kernel) ⟨i1, i2, i3⟩ hp2
    rcases ho with ⟨c, rfl, e⟩ | ⟨c, rfl, m1, s1, s2, s3⟩ <;> rcases ho2 with ⟨c2, rfl, e2⟩ | ⟨c2, rfl, t1, t2, t3⟩
    · refine ⟨rfl, a1, a2, a3, relS_ag hs (fun a i hk => ?_)⟩
      unfold relSK at hk
      rw [e2, mI_ne (by omega), e]
    · have := h3.mp c; omega
    · have := h3.mpr c2; omega
    · have q : ∀ a i, relSK a i → ¬ (a = 0 ∧ i = 15) → ¬ (305 ≤ a ∧ a ≤ 309) → ¬ (a = 314 ∧ i = 53) → ¬ a = 333 → x2.1 a i = x.1 a i := fun a i hk z1 z2 z3 z4 => by
        unfold relSK at hk
        rw [t3 a i z4 (by omega)]
        by_cases c : a < 314
        · rw [s3 a i z1 (by omega), s1.2.1 a i (by omega)]
        · exact fx a i (by omega)
      unfold relSK at q
      have wx1 : WX x1 W (w.1, w.2.1, some w.1) := WX_image h6 h9 s1 s2 s3
      have wm1 : WM x1 W w := WM_f h6 h10 (fun a i z => fx a i (by omega))
      refine ⟨rfl, a1, a2, a3, C, S, W, b, k, A, B, Y, (w.1, w.2.1, some w.1), xT_3 h1 (fun a i c => q a i (by omega) (by omega) (by omega) (by omega) (by omega)), mT_f h2 (fun i => ⟨⟨q _ _ (by omega) (by omega) (by omega) (by omega) (by omega), q _ _ (by omega) (by omega) (by omega) (by omega) (by omega)⟩, q _ _ (by omega) (by omega) (by omega) (by omega) (by omega)⟩), h3, by rw [q _ _ (by omega) (by omega) (by omega) (by omega) (by omega)]; exact h4, by rw [q _ _ (by omega) (by omega) (by omega) (by omega) (by omega)]; exact h5, h6, h7, ⟨h8.1, h8.2.1, fun t ht => by cases ht; exact h8.1⟩, WX_f wx1 (fun a i z => t3 a i (by omega) (by omega)), WM_image h6 wm1 t1 t2 t3, by rw [q _ _ (by omega) (by omega) (by omega) (by omega) (by omega)]; exact h11, by rw [q _ _ (by omega) (by omega) (by omega) (by omega) (by omega)]; exact h12, h13, by rw [q _ _ (by omega) (by omega) (by omega) (by omega) (by omega)]; exact h14, by rw [q _ _ (by omega) (by omega) (by omega) (by omega) (by omega)]; exact h15, h16⟩
