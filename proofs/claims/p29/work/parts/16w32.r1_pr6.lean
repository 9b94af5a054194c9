/-! pairs over the scenes' relation: street -/
theorem p1_street (z y : Int32) : Pair1 102 206 [.int z, .int y] := by
  refine pair_act q118 r18 rfl rfl (by decide) (by decide) ⟨aR_a 0, aI_a z, aI_a y, trivial⟩ ⟨aR_a 314, aI_a z, aI_a y, trivial⟩ rfl rfl (by decide +kernel) (by decide +kernel) (by decide +kernel) (by decide +kernel) (fun x hi => ?_)
  obtain ⟨hg, hj, hr, C, S, W, b, k, A, B, Y, ⟨s, ks, im⟩, ht⟩ := id hi
  obtain ⟨h1, h2, h3, h4, h5, h6, h7, h8, h9, h10, -⟩ := id ht
  have hv : scV C S W s := h8.1
  have hX : SX x 89 W s := h9.1
  have hS12 := h1.2.2.2.1
  refine ⟨_, c_street hg.2 h1 hX.1 (two_16 hS12 hv.1), ?_, ?_⟩
  · rintro rv x1 ⟨v, h, -⟩
    exact ⟨v, h⟩
  · rintro rv x1 ⟨v, rfl, hs, rfl⟩ g1 j1 _ fx
    have hM1 := WM_1 h6 h10 fx
    refine ⟨_, c_mstreet g1.2 (mT_1 h2 fx) (SM_0.mp hM1.1).1 (two_16 hS12 hv.1), ?_⟩
    rintro rv2 x2 ⟨v2, rfl, hs2, e⟩ - fm
    refine ⟨by rw [stV_1 hS12 hs2 hs], ?_⟩
    rw [e]
    exact relS_no hi.2.2.2
