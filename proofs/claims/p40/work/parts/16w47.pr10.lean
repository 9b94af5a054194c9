/-! pairs over the scenes' relation: soon -/
theorem p_soon (z : Int32) : Pair 134 231 [.int z] := by
  refine pair_ans q248 r155 rfl rfl (by decide) (by decide) ⟨aR_a 0, aI_a z, trivial⟩ ⟨aR_a 314, aI_a z, trivial⟩ rfl rfl (by decide +kernel) (by decide +kernel) (by decide +kernel) (fun x hi => ?_)
  obtain ⟨hg, hj, hr, C, S, W, b, k, A, B, Y, w, ht⟩ := id hi
  obtain ⟨h1, h2, h3, h4, h5, h6, h7, h8, h9, h10, -⟩ := id ht
  have hv : scV C S W w.1 := h8.1
  have hX : SX x 89 W w.1 := h9.1
  have hS12 := h1.2.2.2.1
  refine ⟨_, c_soon (g := gAny C S A B Y w.1) (fun p => (congrFun (gAny_x h1.2.2.1 (xT_st h1) w.1) p).symm) hg h1 (xS_of hS12 h4 h6 hv hX), fun rv x1 ⟨v, h, _⟩ => ⟨v, h⟩, ?_⟩
  rintro rv x1 ⟨v, rfl, q⟩ i1 fx
  have hM1 := WM_1 h6 h10 fx
  refine ⟨_, c_msoon (g := gAny C S A B Y w.1) (fun p => rfl) i1.1 i1.2.1 (mT_1 h2 fx) (mS_of hS12 (by rw [fx 314 27 (by decide)]; exact h5) h6 hv hM1.1), ?_⟩
  rintro rv2 x2 ⟨v2, rfl, q2⟩
  rw [soV_1 h6 q2 q]
