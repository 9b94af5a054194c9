theorem FA_tw {N f : Nat} {t : Nat → Int32} {z : Int32} {S : tST} (hz : z = 0) (h : twR N t f tw0 0 (.inl S)) : FA N t z (-1) := Or.inl ⟨hz, f, _, h, Or.inl ⟨S, rfl, rfl⟩⟩
theorem xtO_f {S : tST} {m m2 : xM} (hb : tS2 S) (h : xtO S m) (q : ∀ a i, a < 314 → m2.1 a i = m.1 a i) : xtO S m2 := by
  obtain ⟨x1, x2, x3, x4, x5, x6, x7, x8, x9, x10, x11, x12, x13⟩ := h
  obtain ⟨b1, b2⟩ := hb
  exact ⟨by rw [q _ _ (by omega)]; exact x1, by rw [q _ _ (by omega)]; exact x2, by rw [q _ _ (by omega)]; exact x3, fun s i hs hi => by rw [q _ _ (by omega)]; exact x4 s i hs hi, fun c hc => by rw [q _ _ (by omega)]; exact x5 c hc, by rw [q _ _ (by omega)]; exact x6, by rw [q _ _ (by omega)]; exact x7, by rw [q _ _ (by omega)]; exact x8, by rw [q _ _ (by omega)]; exact x9, by rw [q _ _ (by omega)]; exact x10, by rw [q _ _ (by omega)]; exact x11, fun e he => by rw [q _ _ (by omega), q _ _ (by omega)]; exact x12 e he, fun p hp => by rw [q _ _ (by omega), q _ _ (by omega)]; exact x13 p hp⟩
theorem p1_text (z : Int32) : Pair1 99 191 [.int z] := by
  refine pair_up (p0_text z) (fun x hi => ?_)
  obtain ⟨hg, hj, hr, hs⟩ := id hi
  obtain ⟨N, L, K, e0, eL, eK, e1, e2, e3, e4, e5, e6, e7, e8, e9, e10⟩ := id hr
  refine ⟨fun x1 => gI tS tR x1 ∧ jM x1 ∧ (∀ a i, 314 ≤ a → x1.1 a i = x.1 a i) ∧ ((¬ (z = 0 ∧ FA N (x.1 2) z (-1)) ∧ xtK x x1) ∨ (z = 0 ∧ ∃ S f, twR N (x.1 2) f tw0 0 (.inl S) ∧ xtO S x1 ∧ xtF x x1)), ?_, ?_⟩
  · refine xw_im (fC_and (xw_vc q108 (by decide) hg trivial ⟨aR_a 0, aI_a z, trivial⟩ rfl) (c_textD hg e1 e0 rfl)) (fun rv x1 h => ?_)
    obtain ⟨g1, j1, fx⟩ := cx_st (by decide +kernel) hj h.1
    exact ⟨g1, j1, fx, h.2⟩
  · rintro x1 ⟨g1, j1, fx, ho⟩
    have f6 : x1.1 314 6 = nI N := by rw [fx 314 6 (by decide)]; exact e2
    have f15 : x1.1 315 = x.1 315 := funext fun j => fx 315 j (by decide)
    refine xw_im (fC_and (text_ok (d := 1200) (x := z) (by decide) g1 j1 (P := fun rv m' => True) (fun rv m' _ _ _ _ => trivial)) (fC_two (c_mtextD g1 j1 f6 e0 f15 e4) (c_mtext g1 j1 f6 e0 f15 e4 (by rw [fx 314 7 (by decide)]; exact e7) eL (by rw [fx 314 30 (by decide)]; exact e9) eK))) (fun rv x2 h => ?_)
    obtain ⟨-, ho2, -, -, -, -, fm⟩ := h
    rw [e3] at ho
    rcases ho with ⟨n1, xk⟩ | ⟨hz, S, f, q1, x1o, x1f⟩ <;> rcases ho2 with ⟨n2, mk⟩ | ⟨hz2, S2, f2, q2, m1o, m1f⟩
    · refine relS_ag hs (fun a i hk => ?_)
      unfold relSK at hk
      by_cases c : a < 314
      · rw [fm a i c, xk a i (by omega)]
      · rw [mk a i (by omega), fx a i (by omega)]
    · exact absurd ⟨hz2, FA_tw hz2 q2⟩ n1
    · exact absurd ⟨hz, FA_tw hz q1⟩ n2
    · have eS := twR_det f f2 _ _ _ _ q1 q2
      cases eS
      obtain ⟨C, S0, W, b, k, A, B, Y, w, -, -, -, -, -, -, -, -, ⟨-, ⟨x0, hx0, hR, -⟩, -⟩, -, w11, w12, w13, -⟩ := hs
      have hb := twR_b f tw0 0 S ⟨Nat.zero_le _, Nat.zero_le _⟩ q1
      obtain ⟨ok, sn⟩ := twR_ok f tw0 0 S tw0_ok q1
      exact relT_text ok sn hb (xtO_f hb x1o (fun a i h => fm a i h)) m1o (by rw [fm 0 16 (by decide), x1f 0 16 (by omega)]; exact w11) (by rw [m1f 314 35 (by omega), fx 314 35 (by decide)]; exact w12) w13 (by rw [fm 99 1 (by decide), x1f 99 1 (by omega)]; exact hR) hx0
