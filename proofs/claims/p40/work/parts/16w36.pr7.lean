/-! pairs over the scenes' relation: calls that only tell: far, around, odds -/
theorem pair_ans {cx cm : aCt} {jx jm DX DM : Nat} {vs : List Value} (hX : vC tS tR jT DX cx) (hM : vC tS tR jM DM cm) (e1 : cx.1 = jx) (e2 : cm.1 = jm) (hDX : DX ≤ 1200) (hDM : DM ≤ 1200) (a1 : aMt (.ref 0 :: vs) cx.2.1) (a2 : aMt (.ref 314 :: vs) cm.2.1) (b1 : cx.2.2.1 = []) (b2 : cm.2.2.1 = []) (k1 : mdOk cx.2.2.2.2 = true) (k2 : mdOk cm.2.2.2.2 = true) (m1 : mdX cx.2.2.2.2 = true)
    (F : ∀ x, Inv x → ∃ XO : Option Value → xM → Prop, fC jx (.ref 0 :: vs) x XO ∧ (∀ rv x1, XO rv x1 → ∃ z : Int32, rv = some (.int z)) ∧ ∀ rv x1, XO rv x1 → Inv x1 → (∀ a i, 314 ≤ a → x1.1 a i = x.1 a i) → ∃ MO : Option Value → xM → Prop, fC jm (.ref 314 :: vs) x1 MO ∧ ∀ rv2 x2, MO rv2 x2 → rv2 = rv) : Pair jx jm vs := by
  subst e1 e2
  intro x hi
  obtain ⟨XO, f1, f2, f3⟩ := F x hi
  refine ⟨fun rv x1 => cPo tS tR cx x (.ref 0 :: vs) rv x1 ∧ XO rv x1, xw_im (fC_and (xw_vc hX hDX hi.1 trivial a1 b1) f1) (fun rv x1 h => ⟨f2 rv x1 h.2, h⟩), ?_⟩
  rintro rv x1 ⟨hp, ho⟩
  have i1 : Inv x1 := inv_st (c := cx) k1 hi hp
  obtain ⟨-, -, fx⟩ := cx_st m1 hi.2.1 hp
  obtain ⟨MO, g2, g3⟩ := f3 rv x1 ho i1 fx
  exact xw_im (fC_and (xw_vc hM hDM i1.1 i1.2.1 a2 b2) g2) (fun rv2 x2 h => ⟨g3 rv2 x2 h.2, inv_st (c := cm) k2 i1 h.1⟩)
theorem p_far (z y : Int32) : Pair 130 226 [.int z, .int y] := by
  refine pair_ans q226 r148 rfl rfl (by decide) (by decide) ⟨aR_a 0, aI_a z, aI_a y, trivial⟩ ⟨aR_a 314, aI_a z, aI_a y, trivial⟩ rfl rfl (by decide +kernel) (by decide +kernel) (by decide +kernel) (fun x hi => ?_)
  obtain ⟨hg, hj, hr, C, S, W, b, k, A, B, Y, w, ht⟩ := id hi
  obtain ⟨h1, h2, h3, h4, h5, h6, h7, h8, h9, h10, -⟩ := id ht
  have hv : scV C S W w.1 := h8.1
  have hX : SX x 89 W w.1 := h9.1
  have hS12 := h1.2.2.2.1
  refine ⟨_, c_far hg.2 h1 hX.1, fun rv x1 ⟨v, h, _⟩ => ⟨v, h⟩, ?_⟩
  rintro rv x1 ⟨v, rfl, q⟩ i1 fx
  have hM1 := WM_1 h6 h10 fx
  refine ⟨_, c_mfar i1.1.2 (mT_1 h2 fx) (SM_0.mp hM1.1).1 (two_16 hS12 hv.1), ?_⟩
  rintro rv2 x2 ⟨v2, rfl, q2⟩
  rw [ftV_1 h1.2.2.1 (Nat.le_trans h1.2.2.1 (by decide)) q2 q]
theorem p_around (z y : Int32) : Pair 133 260 [.int z, .int y] := by
  refine pair_ans q241 r222 rfl rfl (by decide) (by decide) ⟨aR_a 0, aI_a z, aI_a y, trivial⟩ ⟨aR_a 314, aI_a z, aI_a y, trivial⟩ rfl rfl (by decide +kernel) (by decide +kernel) (by decide +kernel) (fun x hi => ?_)
  obtain ⟨hg, hj, hr, C, S, W, b, k, A, B, Y, w, ht⟩ := id hi
  obtain ⟨h1, h2, h3, h4, h5, h6, h7, h8, h9, h10, -⟩ := id ht
  have hv : scV C S W w.1 := h8.1
  have hX : SX x 89 W w.1 := h9.1
  have hS12 := h1.2.2.2.1
  refine ⟨_, c_around hg.2 h1 hX.1, fun rv x1 ⟨v, h, _⟩ => ⟨v, h⟩, ?_⟩
  rintro rv x1 ⟨v, rfl, q⟩ i1 fx
  have hM1 := WM_1 h6 h10 fx
  refine ⟨_, c_maround i1.1.2 (mT_1 h2 fx) (SM_0.mp hM1.1).1 (two_16 hS12 hv.1), ?_⟩
  rintro rv2 x2 ⟨v2, rfl, q2⟩
  rw [ftV_1 h1.2.2.1 (by decide) q2 q]
theorem p_odds (z y : Int32) : Pair 146 249 [.int z, .int y] := by
  refine pair_ans q268 r183 rfl rfl (by decide) (by decide) ⟨aR_a 0, aI_a z, aI_a y, trivial⟩ ⟨aR_a 314, aI_a z, aI_a y, trivial⟩ rfl rfl (by decide +kernel) (by decide +kernel) (by decide +kernel) (fun x hi => ?_)
  obtain ⟨hg, hj, hr, C, S, W, b, k, A, B, Y, w, ht⟩ := id hi
  obtain ⟨h1, h2, h3, h4, h5, h6, h7, h8, h9, h10, -⟩ := id ht
  have hv : scV C S W w.1 := h8.1
  have hX : SX x 89 W w.1 := h9.1
  have hS12 := h1.2.2.2.1
  refine ⟨_, c_odds hg h1 hX.1 (two_16 hS12 hv.1) h4 h6 (fun p hp => ⟨(hX.2.2.2.1 p hp).1, (hv.2.2.2.1 p hp).1⟩), fun rv x1 ⟨v, h, _⟩ => ⟨v, h⟩, ?_⟩
  rintro rv x1 ⟨v, rfl, q⟩ i1 fx
  have hM1 := WM_1 h6 h10 fx
  have hM0 := SM_0.mp hM1.1
  refine ⟨_, c_modds i1.1 i1.2.1 (mT_1 h2 fx) hM0.1 (two_16 hS12 hv.1) (by rw [fx 314 27 (by decide)]; exact h5) h6 (fun p hp => ⟨(hM0.2.2.2.2.1 p hp).1, (hv.2.2.2.1 p hp).1⟩), ?_⟩
  rintro rv2 x2 ⟨v2, rfl, q2⟩
  rw [ftV_1 (Nat.le_trans h6 (by decide)) (by decide) q2 q]
