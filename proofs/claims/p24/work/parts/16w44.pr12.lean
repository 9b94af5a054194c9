/-! pairs over the scenes' relation: feast -/
theorem p_feast (z y : Int32) : Pair 132 230 [.int z, .int y] := by
  refine pair_ans q240 r150 rfl rfl (by decide) (by decide) ⟨aR_a 0, aI_a z, aI_a y, trivial⟩ ⟨aR_a 314, aI_a z, aI_a y, trivial⟩ rfl rfl (by decide +kernel) (by decide +kernel) (by decide +kernel) (fun x hi => ?_)
  obtain ⟨hg, hj, hr, C, S, W, b, k, A, B, Y, w, ht⟩ := id hi
  obtain ⟨h1, h2, h3, h4, h5, h6, h7, h8, h9, h10, -⟩ := id ht
  have hv : scV C S W w.1 := h8.1
  have hX : SX x 89 W w.1 := h9.1
  have hS12 := h1.2.2.2.1
  refine ⟨_, c_feast hg h1 hX.1 (two_16 hS12 hv.1), fun rv x1 ⟨v, h, _⟩ => ⟨v, h⟩, ?_⟩
  rintro rv x1 ⟨v, rfl, q⟩ i1 fx
  have hM1 := WM_1 h6 h10 fx
  refine ⟨_, c_mfeast i1.1.2 (mT_1 h2 fx) (SM_0.mp hM1.1).1 (two_16 hS12 hv.1), ?_⟩
  rintro rv2 x2 ⟨v2, rfl, q2⟩
  rw [fsV_1 h1.2.2.1 q2 q]
