/-! pairs over the scenes' relation: a day, years, undo, back, what is seen -/
theorem aL_a (z : Int64) : aH (fun _ => 0) (.long z) aLt := Or.inr (Or.inr ⟨Or.inl rfl, z, rfl, i64_rng z, fun h => by cases h⟩)
theorem p1_day : Pair1 113 212 [] := by
  refine pair_act q197 r69 rfl rfl (by decide) (by decide) ⟨aR_a 0, trivial⟩ ⟨aR_a 314, trivial⟩ rfl rfl (by decide +kernel) (by decide +kernel) (by decide +kernel) (by decide +kernel) (fun x hi => ?_)
  obtain ⟨hg, hj, hr, C, S, W, b, k, A, B, Y, ⟨s, ks, im⟩, ht⟩ := id hi
  obtain ⟨h1, h2, h3, h4, h5, h6, h7, h8, h9, h10, h11, h12, h13, -⟩ := id ht
  have hv : scV C S W s := h8.1
  have hX : SX x 89 W s := h9.1
  obtain ⟨xx, hR⟩ : ∃ xx, RX x W xx ks := h9.2.1
  have hS12 := h1.2.2.2.1
  have hC8 := h1.2.2.1
  have hSt : ∀ s, s < S → A s ≠ B s ∧ 1 ≤ Y s ∧ Y s ≤ 40 := fun s hs => ⟨(h1.2.2.2.2.1 s hs).2.2.2.2.2.1, (h1.2.2.2.2.1 s hs).2.2.2.2.2.2⟩
  have cD := c_day (A := A) (B := B) (Y := Y) hg h1 (xS_of hS12 h4 h6 hv hX) hR.2.1 hR.1 hR.2.2.1 hR.2.2.2.1
  rw [gAny_x hC8 hSt s] at cD
  refine ⟨_, cD, ?_, ?_⟩
  · rintro rv x1 (⟨-, h, -⟩ | ⟨-, h, -⟩) <;> exact ⟨_, h⟩
  · intro rv x1 ho g1 j1 _ fx
    have hM1 := WM_1 h6 h10 fx
    have hT1 := mT_1 h2 fx
    refine ⟨_, c_mday g1 j1 hT1 (mS_of hS12 (by rw [fx 314 27 (by decide)]; exact h5) h6 hv hM1.1) hM1.2.1.1 hM1.2.1.2.1, ?_⟩
    intro rv2 x2 ho2 _ fm
    have hd9 := hv.2.2.1
    rcases ho with ⟨c, rfl, e9⟩ | ⟨c, rfl, mk, q, ex⟩ <;> rcases ho2 with ⟨c2, rfl, e8⟩ | ⟨c2, rfl, mr, q2, ex2⟩
    · exact ⟨rfl, by rw [e8, e9]; exact relS_no hi.2.2.2⟩
    · exact absurd ⟨by omega, by omega⟩ c
    · exact absurd ⟨by omega, by omega⟩ c2
    · have kx := SX_kp hR.1 hX q
      have km := SM_rm h6 hM1.1 q2
      refine ⟨rfl, act_S (s2 := dayS C S W A B Y s) ht hR q (SX_day kx ex) ?_ fx q2 (SM_day h6 km ex2) ?_ fm (dayS_V hv c.2)⟩
      · intro a i z; exact ex.1 a i (by omega)
      · intro a i z; exact ex2.1 a i (by omega)
theorem yrN_V {C S W b : Nat} {A B Y : Nat → Nat} (hC : 0 < C) (hS : 0 < S) {im : Option Sc} : ∀ n s x ks, wdV C S W (s, ks, im) → s.2.2.1 + n ≤ 999 → wdV C S W ((yrN C S W b A B Y n s x ks).1, (yrN C S W b A B Y n s x ks).2.2, im) := by
  intro n
  induction n with
  | zero => exact fun s x ks h _ => h
  | succ n ih =>
    intro s x ks h hn
    obtain ⟨v1, v2⟩ := yrS_V (b := b) (x := x) h.1 hC hS
    replace v2 : (yrS C S W b s x).1.2.2.1 = s.2.2.1 := v2
    exact ih _ _ _ (psh_V h (dayS_V v1 (by omega))) (by show (yrS C S W b s x).1.2.2.1 + 1 + n ≤ 999; omega)
theorem p1_years (z : Int32) (sd : Int64) : Pair1 120 219 [.int z, .long sd] := by
  refine pair_act q209 r84 rfl rfl (by decide) (by decide) ⟨aR_a 0, aI_a z, aL_a sd, trivial⟩ ⟨aR_a 314, aI_a z, aL_a sd, trivial⟩ rfl rfl (by decide +kernel) (by decide +kernel) (by decide +kernel) (by decide +kernel) (fun x hi => ?_)
  obtain ⟨hg, hj, hr, C, S, W, b, k, A, B, Y, ⟨s, ks, im⟩, ht⟩ := id hi
  obtain ⟨h1, h2, h3, h4, h5, h6, h7, h8, h9, h10, h11, h12, h13, -⟩ := id ht
  have hv : scV C S W s := h8.1
  have hX : SX x 89 W s := h9.1
  obtain ⟨xx, hR⟩ : ∃ xx, RX x W xx ks := h9.2.1
  have hI : IX x W im := h9.2.2
  refine ⟨_, c_years hg h1 h3 h4 h6 h7 h11 h13 hv hX hR, ?_, ?_⟩
  · rintro rv x1 (⟨-, h, -⟩ | ⟨-, n, -, -, -, -, h, -⟩) <;> exact ⟨_, h⟩
  · intro rv x1 ho g1 j1 _ fx
    have hM1 := WM_1 h6 h10 fx
    have hT1 := mT_1 h2 fx
    refine ⟨_, c_myears g1 j1 hT1 h3 (by rw [fx 314 27 (by decide)]; exact h5) h6 h7 (by rw [fx 314 35 (by decide)]; exact h12) h13 hv hM1.1 hM1.2.1, ?_⟩
    intro rv2 x2 ho2 _ fm
    rcases ho with ⟨c, rfl, e9⟩ | ⟨c0, n, n1, n30, ez, hd, rfl, f1, yx, w1, w2⟩ <;> rcases ho2 with ⟨c2, rfl, e8⟩ | ⟨c1, n2, n3, n31, ez2, hd2, rfl, f2, w3, w4⟩
    · exact ⟨rfl, by rw [e8, e9]; exact relS_no hi.2.2.2⟩
    · exact absurd ⟨c1, n2, n3, n31, ez2, hd2⟩ c
    · exact absurd ⟨c0, n, n1, n30, ez, hd⟩ c2
    · have ee : n = n2 := (nI_inj (by omega) (by omega)).mp (ez.symm.trans ez2)
      subst ee
      have hJ1 : IM x1 W im := hM1.2.2
      refine ⟨rfl, relT_w ht (yrN_V (b := b) (A := A) (B := B) (Y := Y) c0 (by omega) n s sd ks h8 hd) ⟨SX_f yx (fun a i z1 z2 => fm a i (by omega)), ⟨w1, RX_f w2 (fun a i z1 z2 => fm a i (by omega))⟩, IX_f hI (fun a i z => by rw [fm a i (by omega), f1 a i (by omega)])⟩ ⟨w3, w4, IM_f h6 hJ1 (fun a i z => f2 a i (by omega))⟩ (fun a i z => ?_)⟩
      unfold relSB at z
      by_cases c : a < 314
      · rw [fm a i c, f1 a i (by omega)]
      · rw [f2 a i (by omega), fx a i (by omega)]
theorem p1_undo : Pair1 123 220 [] := by
  refine pair_act q213 und_ok rfl rfl (by decide) (by decide) ⟨aR_a 0, trivial⟩ ⟨aR_a 314, trivial⟩ rfl rfl (by decide +kernel) (by decide +kernel) (by decide +kernel) (by decide +kernel) (fun x hi => ?_)
  obtain ⟨hg, hj, hr, C, S, W, b, k, A, B, Y, ⟨s, ks, im⟩, ht⟩ := id hi
  obtain ⟨h1, h2, h3, h4, h5, h6, h7, h8, h9, h10, h11, h12, h13, -⟩ := id ht
  have hX : SX x 89 W s := h9.1
  obtain ⟨xx, hR⟩ : ∃ xx, RX x W xx ks := h9.2.1
  have hI : IX x W im := h9.2.2
  refine ⟨_, c_undo hg.2 hR.2.1 hR.1 hR.2.2.1 hR.2.2.2.1, ?_, ?_⟩
  · rintro rv x1 (⟨-, h, -⟩ | ⟨-, h, -⟩) <;> exact ⟨_, h⟩
  · intro rv x1 ho g1 j1 _ fx
    have hM1 := WM_1 h6 h10 fx
    have hN : RM x1 W ks := hM1.2.1
    refine ⟨_, c_mundo g1.2 hN.1 hN.2.1, ?_⟩
    intro rv2 x2 ho2 _ fm
    rcases ho with ⟨c, rfl, e9⟩ | ⟨c, rfl, m1, s1, s2, s3, s4⟩ <;> rcases ho2 with ⟨c2, rfl, e8⟩ | ⟨c2, rfl, t1, t2, t3⟩
    · exact ⟨rfl, by rw [e8, e9]; exact relS_no hi.2.2.2⟩
    · exact absurd c (by omega)
    · exact absurd c2 (by omega)
    · obtain ⟨t, u1, u2⟩ := unW_s (w := (s, ks, im)) c
      replace u1 : ks[ks.length - 1]? = some t := u1
      have wx := WX_undo h6 hX hR hI c u1 s1 s2 s3 s4
      have wm := WM_undo (s := s) h6 hM1.2.1 hM1.2.2 c u1 t1 t2 t3
      refine ⟨rfl, relT_w ht (unW_V h8 u2) (WX_f wx (fun a i z => fm a i (by omega))) wm (fun a i z => ?_)⟩
      unfold relSB at z
      by_cases c : a < 314
      · rw [fm a i c, s4 a i (by omega), s1.2.1 a i (by omega)]
      · rw [t3 a i (by omega) (by omega), fx a i (by omega)]
theorem p1_back : Pair1 127 262 [] := by
  refine pair_act q221 r224 rfl rfl (by decide) (by decide) ⟨aR_a 0, trivial⟩ ⟨aR_a 314, trivial⟩ rfl rfl (by decide +kernel) (by decide +kernel) (by decide +kernel) (by decide +kernel) (fun x hi => ?_)
  obtain ⟨hg, hj, hr, C, S, W, b, k, A, B, Y, ⟨s, ks, im⟩, ht⟩ := id hi
  obtain ⟨h1, h2, h3, h4, h5, h6, h7, h8, h9, h10, h11, h12, h13, -⟩ := id ht
  cases im with
  | none =>
    have hI : x.1 0 15 = nI 0 := h9.2.2
    refine ⟨_, c_back (d0 := 0) hg hI (by decide) (fun q => absurd q (by decide)), ?_, ?_⟩
    · rintro rv x1 (⟨-, h, -⟩ | ⟨-, h, -⟩) <;> exact ⟨_, h⟩
    · intro rv x1 ho g1 j1 _ fx
      have hM1 := WM_1 h6 h10 fx
      have hJ : x1.1 314 53 = nI 0 := hM1.2.2
      refine ⟨_, c_mback (d0 := 0) g1.2 hJ (by decide) (fun q => absurd q (by decide)), ?_⟩
      intro rv2 x2 ho2 _ fm
      rcases ho with ⟨-, rfl, e9⟩ | ⟨c, -⟩
      · rcases ho2 with ⟨-, rfl, e8⟩ | ⟨c, -⟩
        · exact ⟨rfl, by rw [e8, e9]; exact relS_no hi.2.2.2⟩
        · exact absurd c (by decide)
      · exact absurd c (by decide)
  | some t =>
    have hI : x.1 0 15 = nI 1 ∧ SX x 305 W t := h9.2.2
    refine ⟨_, c_back hg hI.1 (by decide) (fun _ => hI.2.2.2.1), ?_, ?_⟩
    · rintro rv x1 (⟨-, h, -⟩ | ⟨-, h, -⟩) <;> exact ⟨_, h⟩
    · intro rv x1 ho g1 j1 _ fx
      have hM1 := WM_1 h6 h10 fx
      have hJ : x1.1 314 53 = nI 1 ∧ SM x1 333 0 W t := hM1.2.2
      have hJ2 : x1.1 333 26 = nI t.2.2.1 := by have := hJ.2.2.2.1; rwa [Nat.zero_add] at this
      refine ⟨_, c_mback g1.2 hJ.1 (by decide) (fun _ => hJ2), ?_⟩
      intro rv2 x2 ho2 _ fm
      rcases ho with ⟨c, -⟩ | ⟨-, rfl, m1, s1, s2, s3⟩
      · exact absurd c (by decide)
      · rcases ho2 with ⟨c, -⟩ | ⟨-, rfl, t1, t2, t3⟩
        · exact absurd c (by decide)
        · have wx := WX_back h6 h9 s1 s2 s3
          have wm := WM_back h6 hM1 t1 t2 t3
          refine ⟨rfl, relT_w (w2 := (t, [], some t)) ht ⟨h8.2.2 t rfl, fun u hu => (by cases hu), h8.2.2⟩ (WX_f wx (fun a i z => fm a i (by omega))) wm (fun a i z => ?_)⟩
          unfold relSB at z
          by_cases c : a < 314
          · rw [fm a i c, s3 a i (by omega) (by omega), s1.2.1 a i (by omega)]
          · rw [t3 a i (by omega) (by omega), fx a i (by omega)]
theorem p1_seen (z y : Int32) (hy : y = 0 ∨ y = 1) : Pair1 136 233 [.int z, .int y] := by
  have hya : aH (fun _ => 0) (.int y) (aI 0 1) := Or.inr (Or.inl ⟨rfl, y, rfl, by rcases hy with h | h <;> rw [h] <;> decide, trivial⟩)
  refine pair_act q251 r158 rfl rfl (by decide) (by decide) ⟨aR_a 0, aI_a z, hya, trivial⟩ ⟨aR_a 314, aI_a z, aI_a y, trivial⟩ rfl rfl (by decide +kernel) (by decide +kernel) (by decide +kernel) (by decide +kernel) (fun x hi => ?_)
  obtain ⟨hg, hj, hr, C, S, W, b, k, A, B, Y, w, ht⟩ := id hi
  obtain ⟨h1, h2, h3, h4, h5, h6, h7, h8, h9, h10, h11, h12, h13, h14, h15, h16⟩ := id ht
  refine ⟨_, c_seen hg.2 h1.1 h14 h16, ?_, ?_⟩
  · rintro rv x1 (⟨-, h, -⟩ | ⟨-, h, -⟩) <;> exact ⟨_, h⟩
  · intro rv x1 ho g1 j1 f1 fx
    refine ⟨_, c_mseen (C := nI C) g1.2 (by rw [fx 314 25 (by decide)]; exact h2.1) (by rw [fx 314 51 (by decide)]; exact h15) h16, ?_⟩
    intro rv2 x2 ho2 f2 fm
    obtain ⟨d1, d2⟩ := snO_det ho2 ho
    have n1 : ∀ q ∈ q251c.2.2.2.2, (q.1 = 84 ∧ q.2.1 = 4 ∧ q.2.2 = 5) ∨ q.1 = 85 ∨ q.1 = 86 := by decide
    have n2 : ∀ q ∈ r158c.2.2.2.2, (q.1 = 314 ∧ (q.2.1 = 0 ∧ q.2.2 = 1 ∨ q.2.1 = 51 ∧ q.2.2 = 52)) ∨ q.1 = 332 := by decide
    have kp : ∀ a i, relSK a i → ¬ (a = 84 ∧ i = 4) → ¬ (a = 314 ∧ i = 51) → x2.1 a i = x.1 a i := fun a i hk z1 z2 => by
      unfold relSK at hk
      by_cases c : a < 314
      · rw [fm a i c]
        exact f1 a i (wm_f (fun q hq z => by have := n1 q hq; omega))
      · rw [f2 a i (wm_f (fun q hq z => by have := n2 q hq; omega))]
        exact fx a i (by omega)
    unfold relSK at kp
    have fin : ∀ k2, k2 ≤ 10 → x1.1 84 4 = nI k2 → relS x2 := fun k2 hk2 e => ⟨C, S, W, b, k2, A, B, Y, w, xT_3 h1 (fun a i c => kp a i (by omega) (by omega) (by omega)), mT_f h2 (fun i => ⟨⟨kp _ _ (by omega) (by omega) (by omega), kp _ _ (by omega) (by omega) (by omega)⟩, kp _ _ (by omega) (by omega) (by omega)⟩), h3, by rw [kp _ _ (by omega) (by omega) (by omega)]; exact h4, by rw [kp _ _ (by omega) (by omega) (by omega)]; exact h5, h6, h7, h8, WX_f h9 (fun a i c => kp a i (by omega) (by omega) (by omega)), WM_f h6 h10 (fun a i c => kp a i (by omega) (by omega) (by omega)), by rw [kp _ _ (by omega) (by omega) (by omega)]; exact h11, by rw [kp _ _ (by omega) (by omega) (by omega)]; exact h12, h13, by rw [fm 84 4 (by decide)]; exact e, by rw [d2]; exact e, hk2⟩
    refine ⟨d1, ?_⟩
    rcases ho with ⟨-, -, w3⟩ | ⟨w1, -, w3⟩
    · exact fin k h16 w3
    · exact fin (k + 1) (by omega) w3
