/-! pairs over the scenes' relation: the acts by hand -/
theorem p1_wall (z : Int32) : Pair1 115 213 [.int z] := by
  refine pair_act q198 r71 rfl rfl (by decide) (by decide) ⟨aR_a 0, aI_a z, trivial⟩ ⟨aR_a 314, aI_a z, trivial⟩ rfl rfl (by decide +kernel) (by decide +kernel) (by decide +kernel) (by decide +kernel) (fun x hi => ?_)
  obtain ⟨hg, hj, hr, C, S, W, b, k, A, B, Y, ⟨s, ks, im⟩, ht⟩ := id hi
  obtain ⟨h1, h2, h3, h4, h5, h6, h7, h8, h9, h10, h11, h12, h13, -⟩ := id ht
  have hv : scV C S W s := h8.1
  have hX : SX x 89 W s := h9.1
  obtain ⟨xx, hR⟩ : ∃ xx, RX x W xx ks := h9.2.1
  have hS12 := h1.2.2.2.1
  have hC8 := h1.2.2.1
  refine ⟨_, c_wall hg.2 h1.2.1 hS12 hX.1 (two_16 hS12 hv.1) hX.2.1 hv.2.1 hR.2.1 hR.1 hR.2.2.1 hR.2.2.2.1, ?_, ?_⟩
  · rintro rv x1 (⟨-, h, -⟩ | ⟨e, -, -, -, h, -⟩) <;> exact ⟨_, h⟩
  · intro rv x1 ho g1 j1 _ fx
    have hM1 := WM_1 h6 h10 fx
    have hT1 := mT_1 h2 fx
    obtain ⟨u1, u2, u3, u4, u5, u6⟩ := SM_0.mp hM1.1
    refine ⟨_, c_mwall g1.2 u2 hv.2.1 hM1.2.1.1 hM1.2.1.2.1 hT1.2.1 hS12 u1 (two_16 hS12 hv.1), ?_⟩
    intro rv2 x2 ho2 _ fm
    rcases ho with ⟨c, rfl, e9⟩ | ⟨e, he, ez, hk, rfl, mk, q, ex⟩ <;> rcases ho2 with ⟨c2, rfl, e8⟩ | ⟨e2, he2, ez2, hk2, rfl, mr, q2, ex2⟩
    · exact ⟨rfl, by rw [e8, e9]; exact relS_no hi.2.2.2⟩
    · exact absurd ⟨e2, he2, ez2, hk2⟩ c
    · exact absurd ⟨e, he, ez, hk⟩ c2
    · have ee : e = e2 := (nI_inj (by omega) (by omega)).mp (ez.symm.trans ez2)
      subst ee
      refine ⟨rfl, act_S (s2 := (s.1 ^^^ 2 ^ e, s.2.1 - 3, s.2.2)) ht hR q ?_ ?_ fx q2 ?_ ?_ fm ?_⟩
      · rw [ex]; exact SX_cw (v := s.1 ^^^ 2 ^ e) (SX_ck (k := s.2.1 - 3) (SX_kp hR.1 hX q))
      · intro a i c; rw [ex, mI_ne (by omega), mI_ne (by omega)]
      · rw [ex2]; exact SM_cw (v := s.1 ^^^ 2 ^ e) h6 (SM_ck (k := s.2.1 - 3) h6 (SM_rm h6 hM1.1 q2))
      · intro a i c; rw [ex2, mI_ne (by omega), mI_ne (by omega)]
      · exact ⟨Nat.xor_lt_two_pow hv.1 (Nat.pow_lt_pow_right (by omega) he), by show s.2.1 - 3 ≤ 999; have := hv.2.1; omega, hv.2.2⟩
theorem p1_lamp (z : Int32) : Pair1 116 214 [.int z] := by
  refine pair_act q199 r72 rfl rfl (by decide) (by decide) ⟨aR_a 0, aI_a z, trivial⟩ ⟨aR_a 314, aI_a z, trivial⟩ rfl rfl (by decide +kernel) (by decide +kernel) (by decide +kernel) (by decide +kernel) (fun x hi => ?_)
  obtain ⟨hg, hj, hr, C, S, W, b, k, A, B, Y, ⟨s, ks, im⟩, ht⟩ := id hi
  obtain ⟨h1, h2, h3, h4, h5, h6, h7, h8, h9, h10, h11, h12, h13, -⟩ := id ht
  have hv : scV C S W s := h8.1
  have hX : SX x 89 W s := h9.1
  obtain ⟨xx, hR⟩ : ∃ xx, RX x W xx ks := h9.2.1
  have hS12 := h1.2.2.2.1
  have hC8 := h1.2.2.1
  refine ⟨_, c_lamp (l := s.2.2.2.2.2) hg.2 hX.2.1 hv.2.1 hR.2.1 hR.1 hR.2.2.1 hR.2.2.2.1 h1.1 hC8 (fun e he => ⟨hX.2.2.2.2.1 e he, hv.2.2.2.2 e he⟩), ?_, ?_⟩
  · rintro rv x1 (⟨-, h, -⟩ | ⟨e, -, -, -, -, h, -⟩) <;> exact ⟨_, h⟩
  · intro rv x1 ho g1 j1 _ fx
    have hM1 := WM_1 h6 h10 fx
    have hT1 := mT_1 h2 fx
    obtain ⟨u1, u2, u3, u4, u5, u6⟩ := SM_0.mp hM1.1
    refine ⟨_, c_mlamp (l := s.2.2.2.2.2) g1.2 u2 hv.2.1 hM1.2.1.1 hM1.2.1.2.1 hT1.1 hC8 (fun e he => ⟨u6 e he, hv.2.2.2.2 e he⟩), ?_⟩
    intro rv2 x2 ho2 _ fm
    rcases ho with ⟨c, rfl, e9⟩ | ⟨e, he, ez, hk, hl, rfl, mk, q, ex⟩ <;> rcases ho2 with ⟨c2, rfl, e8⟩ | ⟨e2, he2, ez2, hk2, hl2, rfl, mr, q2, ex2⟩
    · exact ⟨rfl, by rw [e8, e9]; exact relS_no hi.2.2.2⟩
    · exact absurd ⟨e2, he2, ez2, hk2, hl2⟩ c
    · exact absurd ⟨e, he, ez, hk, hl⟩ c2
    · have ee : e = e2 := (nI_inj (by omega) (by omega)).mp (ez.symm.trans ez2)
      subst ee
      refine ⟨rfl, act_S (s2 := (s.1, s.2.1 - 2, s.2.2.1, s.2.2.2.1, s.2.2.2.2.1, upN s.2.2.2.2.2 e (s.2.2.2.2.2 e + 1))) ht hR q ?_ ?_ fx q2 ?_ ?_ fm ?_⟩
      · rw [ex]; exact SX_cl (e := e) (v := s.2.2.2.2.2 e + 1) rfl (SX_ck (k := s.2.1 - 2) (SX_kp hR.1 hX q))
      · intro a i c; rw [ex, mI_ne (by omega), mI_ne (by omega)]
      · rw [ex2]; exact SM_cl (e := e) (v := s.2.2.2.2.2 e + 1) h6 (by omega) (SM_ck (k := s.2.1 - 2) h6 (SM_rm h6 hM1.1 q2))
      · intro a i c; rw [ex2, mI_ne (by omega), mI_ne (by omega)]
      · refine ⟨hv.1, by show s.2.1 - 2 ≤ 999; have := hv.2.1; omega, hv.2.2.1, hv.2.2.2.1, fun j hj => ?_⟩
        show upN s.2.2.2.2.2 e (s.2.2.2.2.2 e + 1) j ≤ 3
        by_cases c : j = e
        · subst c; rw [upN_at]; omega
        · rw [upN_ne c]; exact hv.2.2.2.2 j hj
theorem p1_preach (z : Int32) : Pair1 118 216 [.int z] := by
  refine pair_act q202 r74 rfl rfl (by decide) (by decide) ⟨aR_a 0, aI_a z, trivial⟩ ⟨aR_a 314, aI_a z, trivial⟩ rfl rfl (by decide +kernel) (by decide +kernel) (by decide +kernel) (by decide +kernel) (fun x hi => ?_)
  obtain ⟨hg, hj, hr, C, S, W, b, k, A, B, Y, ⟨s, ks, im⟩, ht⟩ := id hi
  obtain ⟨h1, h2, h3, h4, h5, h6, h7, h8, h9, h10, h11, h12, h13, -⟩ := id ht
  have hv : scV C S W s := h8.1
  have hX : SX x 89 W s := h9.1
  obtain ⟨xx, hR⟩ : ∃ xx, RX x W xx ks := h9.2.1
  have hS12 := h1.2.2.2.1
  have hC8 := h1.2.2.1
  refine ⟨_, c_preach (f := s.2.2.2.2.1) hg.2 hX.2.1 hv.2.1 hR.2.1 hR.1 hR.2.2.1 hR.2.2.2.1 h4 h6 (fun p hp => ⟨(hX.2.2.2.1 p hp).2, (hv.2.2.2.1 p hp).2⟩), ?_, ?_⟩
  · rintro rv x1 (⟨-, h, -⟩ | ⟨e, -, -, -, -, h, -⟩) <;> exact ⟨_, h⟩
  · intro rv x1 ho g1 j1 _ fx
    have hM1 := WM_1 h6 h10 fx
    have hT1 := mT_1 h2 fx
    obtain ⟨u1, u2, u3, u4, u5, u6⟩ := SM_0.mp hM1.1
    refine ⟨_, c_mpreach (f := s.2.2.2.2.1) g1.2 u2 hv.2.1 hM1.2.1.1 hM1.2.1.2.1 (by rw [fx 314 27 (by decide)]; exact h5) h6 (fun p hp => ⟨(u5 p hp).2, (hv.2.2.2.1 p hp).2⟩), ?_⟩
    intro rv2 x2 ho2 _ fm
    rcases ho with ⟨c, rfl, e9⟩ | ⟨e, he, ez, hk, hl, rfl, mk, q, ex⟩ <;> rcases ho2 with ⟨c2, rfl, e8⟩ | ⟨e2, he2, ez2, hk2, hl2, rfl, mr, q2, ex2⟩
    · exact ⟨rfl, by rw [e8, e9]; exact relS_no hi.2.2.2⟩
    · exact absurd ⟨e2, he2, ez2, hk2, hl2⟩ c
    · exact absurd ⟨e, he, ez, hk, hl⟩ c2
    · have ee : e = e2 := (nI_inj (by omega) (by omega)).mp (ez.symm.trans ez2)
      subst ee
      refine ⟨rfl, act_S (s2 := (s.1, s.2.1 - 4, s.2.2.1, s.2.2.2.1, upN s.2.2.2.2.1 e (s.2.2.2.2.1 e + 1), s.2.2.2.2.2)) ht hR q ?_ ?_ fx q2 ?_ ?_ fm ?_⟩
      · rw [ex]; exact SX_cf (e := e) (v := s.2.2.2.2.1 e + 1) rfl (SX_ck (k := s.2.1 - 4) (SX_kp hR.1 hX q))
      · intro a i c; rw [ex, mI_ne (by omega), mI_ne (by omega)]
      · rw [ex2]; exact SM_cf (e := e) (v := s.2.2.2.2.1 e + 1) h6 (by omega) (SM_ck (k := s.2.1 - 4) h6 (SM_rm h6 hM1.1 q2))
      · intro a i c; rw [ex2, mI_ne (by omega), mI_ne (by omega)]
      · refine ⟨hv.1, by show s.2.1 - 4 ≤ 999; have := hv.2.1; omega, hv.2.2.1, fun j hj => ⟨(hv.2.2.2.1 j hj).1, ?_⟩, hv.2.2.2.2⟩
        show upN s.2.2.2.2.1 e (s.2.2.2.2.1 e + 1) j ≤ 9
        by_cases c : j = e
        · subst c; rw [upN_at]; omega
        · rw [upN_ne c]; exact (hv.2.2.2.1 j hj).2
theorem p1_moves (z y : Int32) : Pair1 117 215 [.int z, .int y] := by
  refine pair_act q201 r73 rfl rfl (by decide) (by decide) ⟨aR_a 0, aI_a z, aI_a y, trivial⟩ ⟨aR_a 314, aI_a z, aI_a y, trivial⟩ rfl rfl (by decide +kernel) (by decide +kernel) (by decide +kernel) (by decide +kernel) (fun x hi => ?_)
  obtain ⟨hg, hj, hr, C, S, W, b, k, A, B, Y, ⟨s, ks, im⟩, ht⟩ := id hi
  obtain ⟨h1, h2, h3, h4, h5, h6, h7, h8, h9, h10, h11, h12, h13, -⟩ := id ht
  have hv : scV C S W s := h8.1
  have hX : SX x 89 W s := h9.1
  obtain ⟨xx, hR⟩ : ∃ xx, RX x W xx ks := h9.2.1
  have hS12 := h1.2.2.2.1
  have hC8 := h1.2.2.1
  refine ⟨_, c_moves (hm := s.2.2.2.1) hg.2 hX.2.1 hv.2.1 hR.2.1 hR.1 hR.2.2.1 hR.2.2.2.1 h4 h6 h1.1 hC8 (fun p hp => ⟨(hX.2.2.2.1 p hp).1, (hv.2.2.2.1 p hp).1⟩), ?_, ?_⟩
  · rintro rv x1 (⟨-, h, -⟩ | ⟨e, e3, -, -, -, -, -, -, h, -⟩) <;> exact ⟨_, h⟩
  · intro rv x1 ho g1 j1 _ fx
    have hM1 := WM_1 h6 h10 fx
    have hT1 := mT_1 h2 fx
    obtain ⟨u1, u2, u3, u4, u5, u6⟩ := SM_0.mp hM1.1
    refine ⟨_, c_mmoves (hm := s.2.2.2.1) g1.2 u2 hv.2.1 hM1.2.1.1 hM1.2.1.2.1 (by rw [fx 314 27 (by decide)]; exact h5) h6 hT1.1 hC8 (fun p hp => ⟨(u5 p hp).1, (hv.2.2.2.1 p hp).1⟩), ?_⟩
    intro rv2 x2 ho2 _ fm
    rcases ho with ⟨c, rfl, e9⟩ | ⟨e, e3, he, he3, ez, ey, hk, hl, rfl, mk, q, ex⟩ <;> rcases ho2 with ⟨c2, rfl, e8⟩ | ⟨e2, e4, he2, he4, ez2, ey2, hk2, hl2, rfl, mr, q2, ex2⟩
    · exact ⟨rfl, by rw [e8, e9]; exact relS_no hi.2.2.2⟩
    · exact absurd ⟨e2, e4, he2, he4, ez2, ey2, hk2, hl2⟩ c
    · exact absurd ⟨e, e3, he, he3, ez, ey, hk, hl⟩ c2
    · have ee : e = e2 := (nI_inj (by omega) (by omega)).mp (ez.symm.trans ez2)
      subst ee
      have ee2 : e3 = e4 := (nI_inj (by omega) (by omega)).mp (ey.symm.trans ey2)
      subst ee2
      refine ⟨rfl, act_S (s2 := (s.1, s.2.1 - 1, s.2.2.1, upN s.2.2.2.1 e e3, s.2.2.2.2)) ht hR q ?_ ?_ fx q2 ?_ ?_ fm ?_⟩
      · rw [ex]; exact SX_ch (e := e) (v := e3) rfl (SX_ck (k := s.2.1 - 1) (SX_kp hR.1 hX q))
      · intro a i c; rw [ex, mI_ne (by omega), mI_ne (by omega)]
      · rw [ex2]; exact SM_ch (e := e) (v := e3) h6 (by omega) (SM_ck (k := s.2.1 - 1) h6 (SM_rm h6 hM1.1 q2))
      · intro a i c; rw [ex2, mI_ne (by omega), mI_ne (by omega)]
      · refine ⟨hv.1, by show s.2.1 - 1 ≤ 999; have := hv.2.1; omega, hv.2.2.1, fun j hj => ⟨?_, (hv.2.2.2.1 j hj).2⟩, hv.2.2.2.2⟩
        show upN s.2.2.2.1 e e3 j < C
        by_cases c : j = e
        · subst c; rw [upN_at]; exact he3
        · rw [upN_ne c]; exact (hv.2.2.2.1 j hj).1
theorem p1_give (z : Int32) : Pair1 119 217 [.int z] := by
  refine pair_act q203 r76 rfl rfl (by decide) (by decide) ⟨aR_a 0, aI_a z, trivial⟩ ⟨aR_a 314, aI_a z, trivial⟩ rfl rfl (by decide +kernel) (by decide +kernel) (by decide +kernel) (by decide +kernel) (fun x hi => ?_)
  obtain ⟨hg, hj, hr, C, S, W, b, k, A, B, Y, ⟨s, ks, im⟩, ht⟩ := id hi
  obtain ⟨h1, h2, h3, h4, h5, h6, h7, h8, h9, h10, h11, h12, h13, -⟩ := id ht
  have hv : scV C S W s := h8.1
  have hX : SX x 89 W s := h9.1
  obtain ⟨xx, hR⟩ : ∃ xx, RX x W xx ks := h9.2.1
  have hS12 := h1.2.2.2.1
  have hC8 := h1.2.2.1
  refine ⟨_, c_give hg.2 hX.2.1 hv.2.1 hR.2.1 hR.1 hR.2.2.1 hR.2.2.2.1 h1.1 hC8, ?_, ?_⟩
  · rintro rv x1 (⟨-, h, -⟩ | ⟨-, e, -, -, -, -, h, -⟩) <;> exact ⟨_, h⟩
  · intro rv x1 ho g1 j1 _ fx
    have hM1 := WM_1 h6 h10 fx
    have hT1 := mT_1 h2 fx
    obtain ⟨u1, u2, u3, u4, u5, u6⟩ := SM_0.mp hM1.1
    refine ⟨_, c_mgive g1.2 u2 hv.2.1 hM1.2.1.1 hM1.2.1.2.1 hT1.2.1 hS12, ?_⟩
    intro rv2 x2 ho2 _ fm
    rcases ho with ⟨c, rfl, e9⟩ | ⟨c0, e, he, he5, ez, hk, rfl, mk, q, ex⟩ <;> rcases ho2 with ⟨c2, rfl, e8⟩ | ⟨c1, e2, he2, he6, ez2, hk2, rfl, mr, q2, ex2⟩
    · exact ⟨rfl, by rw [e8, e9]; exact relS_no hi.2.2.2⟩
    · exact absurd ⟨by omega, e2, he2, he6, ez2, hk2⟩ c
    · exact absurd ⟨by omega, e, he, he5, ez, hk⟩ c2
    · have ee : e = e2 := (nI_inj (by omega) (by omega)).mp (ez.symm.trans ez2)
      subst ee
      refine ⟨rfl, act_S (s2 := (s.1, s.2.1 + e, s.2.2)) ht hR q ?_ ?_ fx q2 ?_ ?_ fm ?_⟩
      · rw [ex]; exact SX_ck (k := s.2.1 + e) (SX_kp hR.1 hX q)
      · intro a i c; rw [ex, mI_ne (by omega)]
      · rw [ex2]; exact SM_ck (k := s.2.1 + e) h6 (SM_rm h6 hM1.1 q2)
      · intro a i c; rw [ex2, mI_ne (by omega)]
      · exact ⟨hv.1, hk, hv.2.2⟩
