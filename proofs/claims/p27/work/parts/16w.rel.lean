/-! more that stays alike: how many corners, how many sights -/
def relSK (a i : Nat) : Prop := (a = 3 ∧ i = 0) ∨ (a = 84 ∧ i = 4) ∨ (a = 314 ∧ (i = 25 ∨ i = 51))
def relS (x : xM) : Prop := x.1 3 0 = x.1 314 25 ∧ ∃ k, k ≤ 10 ∧ x.1 84 4 = nI k ∧ x.1 314 51 = nI k
theorem relS_ag {x x2 : xM} (hr : relS x) (h : ∀ a i, relSK a i → x2.1 a i = x.1 a i) : relS x2 := by
  unfold relSK at h
  obtain ⟨h1, k, h2, h3, h4⟩ := hr
  exact ⟨by rw [h 3 0 (by omega), h 314 25 (by omega)]; exact h1, k, h2, by rw [h 84 4 (by omega)]; exact h3, by rw [h 314 51 (by omega)]; exact h4⟩
def mdSq (q : Nat × Nat × Nat) : Bool := (!(Nat.beq q.1 3) || Nat.blt 0 q.2.1) && ((!(Nat.beq q.1 84) || (Nat.blt 4 q.2.1 || Nat.ble q.2.2 4)) && (!(Nat.beq q.1 314) || ((Nat.blt 25 q.2.1 || Nat.ble q.2.2 25) && (Nat.blt 51 q.2.1 || Nat.ble q.2.2 51))))
theorem mdSq_ok {q : Nat × Nat × Nat} (h : mdSq q = true) : ∀ a i, relSK a i → ¬ (q.1 = a ∧ q.2.1 ≤ i ∧ i < q.2.2) := by
  unfold mdSq at h
  simp only [Bool.and_eq_true, Bool.or_eq_true, Bool.not_eq_true', beqF, bltN, bleN] at h
  obtain ⟨h1, h2, h3⟩ := h
  intro a i hk
  unfold relSK at hk
  rintro ⟨e1, e2, e3⟩
  subst e1
  rcases hk with c | c | c
  · rcases h1 with z | z <;> omega
  · rcases h2 with z | z | z <;> omega
  · rcases h3 with z | ⟨z1, z2⟩
    · omega
    · rcases z1 with z1 | z1 <;> rcases z2 with z2 | z2 <;> omega
def ysS (z : List (Nat × Nat × Int32)) : Bool := decide (yI z 3 0 = yI z 314 25) && (decide (yI z 84 4 = 0) && decide (yI z 314 51 = 0))
theorem ysS_ok {z : yS} (h : ysS z.1 = true) : relS (ym z) := by
  unfold ysS at h
  simp only [Bool.and_eq_true, decide_eq_true_eq] at h
  exact ⟨h.1, 0, by decide, h.2.1, h.2.2⟩
/-! the invariant with more that stays alike, laid over the pairs -/
def mdS (md : List (Nat × Nat × Nat)) : Bool := md.all mdSq
theorem mdS_ok {md : List (Nat × Nat × Nat)} (h : mdS md = true) : ∀ a i, relSK a i → wm1 md a i = false := fun a i hk => wm_f (fun q hq => mdSq_ok (List.all_eq_true.mp h q hq) a i hk)
def Inv (x : xM) : Prop := gI tS tR x ∧ jM x ∧ rel x ∧ relS x
theorem Inv_0 {x : xM} (h : Inv x) : Inv0 x := ⟨h.1, h.2.1, h.2.2.1⟩
def mdOk (md : List (Nat × Nat × Nat)) : Bool := mdOk0 md && mdS md
theorem inv_st {c : aCt} (h : mdOk c.2.2.2.2 = true) {x x' : xM} {vs : List Value} {rv : Option Value} (hi : Inv x) (hp : cPo tS tR c x vs rv x') : Inv x' := by
  unfold mdOk at h
  rw [Bool.and_eq_true] at h
  obtain ⟨a1, a2, a3⟩ := inv_st0 h.1 (Inv_0 hi) hp
  exact ⟨a1, a2, a3, relS_ag hi.2.2.2 (fun a i hk => hp.2.1 a i (mdS_ok h.2 a i hk))⟩
def Pair (jx jm : Nat) (vs : List Value) : Prop := ∀ x, Inv x → ∃ XF : Option Value → xM → Prop, xw 1200 jx (.ref 0 :: vs) x (fun rv x1 => (∃ z : Int32, rv = some (.int z)) ∧ XF rv x1) ∧ ∀ rv x1, XF rv x1 → xw 1200 jm (.ref 314 :: vs) x1 (fun rv2 x2 => rv2 = rv ∧ Inv x2)
theorem pair_up {jx jm : Nat} {vs : List Value} (hp : Pair0 jx jm vs) (hx : ∀ x, Inv x → ∃ X2 : xM → Prop, xw 1200 jx (.ref 0 :: vs) x (fun _ x1 => X2 x1) ∧ ∀ x1, X2 x1 → xw 1200 jm (.ref 314 :: vs) x1 (fun _ x2 => relS x2)) : Pair jx jm vs := by
  intro x hi
  obtain ⟨XF, h1, h2⟩ := hp x (Inv_0 hi)
  obtain ⟨X2, g1, g2⟩ := hx x hi
  refine ⟨fun rv x1 => XF rv x1 ∧ X2 x1, xw_im (xw_cj _ _ _ _ _ _ h1 g1) (fun rv x1 h => ⟨h.1.1, h.1.2, h.2⟩), fun rv x1 h => xw_im (xw_cj _ _ _ _ _ _ (h2 rv x1 h.1) (g2 x1 h.2)) (fun rv2 x2 h => ⟨h.1.1, h.1.2.1, h.1.2.2.1, h.1.2.2.2, h.2⟩)⟩
theorem pair_fr {cx cm : aCt} {jx jm DX DM : Nat} {vs : List Value} (hp : Pair0 jx jm vs) (hX : vC tS tR jT DX cx) (hM : vC tS tR jM DM cm) (e1 : cx.1 = jx) (e2 : cm.1 = jm) (hDX : DX ≤ 1200) (hDM : DM ≤ 1200) (a1 : aMt (.ref 0 :: vs) cx.2.1) (a2 : aMt (.ref 314 :: vs) cm.2.1) (b1 : cx.2.2.1 = []) (b2 : cm.2.2.1 = []) (m1 : jmB (0, [], [], [], cx.2.2.2.2) = true) (m2 : mdS cx.2.2.2.2 = true) (m3 : mdS cm.2.2.2.2 = true) : Pair jx jm vs := by
  subst e1 e2
  refine pair_up hp (fun x hi => ⟨fun x1 => gI tS tR x1 ∧ jM x1 ∧ relS x1, ?_, fun x1 h => ?_⟩)
  · exact xw_im (xw_vc hX hDX hi.1 trivial a1 b1) (fun rv x1 h => ⟨h.1, jM_st (c := (0, [], [], [], cx.2.2.2.2)) m1 x x1 h.2.1 hi.2.1, relS_ag hi.2.2.2 (fun a i hk => h.2.1 a i (mdS_ok m2 a i hk))⟩)
  · exact xw_im (xw_vc hM hDM h.1 h.2.1 a2 b2) (fun rv x2 h2 => relS_ag h.2.2 (fun a i hk => h2.2.1 a i (mdS_ok m3 a i hk)))
theorem p_feed (a b c e g : Int32) : Pair 96 160 [.int a, .int b, .int c, .int e, .int g] := pair_fr (p0_feed a b c e g) q2 feed_ok rfl rfl (by decide) (by decide) ⟨aR_a 0, aI_a a, aI_a b, aI_a c, aI_a e, aI_a g, trivial⟩ ⟨aR_a 314, aI_a a, aI_a b, aI_a c, aI_a e, aI_a g, trivial⟩ rfl rfl (by decide +kernel) (by decide +kernel) (by decide +kernel)
theorem p_end (z : Int32) : Pair 97 161 [.int z] := pair_fr (p0_end z) q3 r0 rfl rfl (by decide) (by decide) ⟨aR_a 0, aI_a z, trivial⟩ ⟨aR_a 314, aI_a z, trivial⟩ rfl rfl (by decide +kernel) (by decide +kernel) (by decide +kernel)
theorem p_law (z : Int32) : Pair 104 208 [.int z] := pair_fr (p0_law z) q119 r23 rfl rfl (by decide) (by decide) ⟨aR_a 0, aI_a z, trivial⟩ ⟨aR_a 314, aI_a z, trivial⟩ rfl rfl (by decide +kernel) (by decide +kernel) (by decide +kernel)
theorem p_fault (z : Int32) : Pair 98 190 [.int z] := pair_fr (p0_fault z) q100 ux8 rfl rfl (by decide) (by decide) ⟨aR_a 0, aI_a z, trivial⟩ ⟨aR_a 314, aI_a z, trivial⟩ rfl rfl (by decide +kernel) (by decide +kernel) (by decide +kernel)
theorem p_walk (z y : Int32) : Pair 128 223 [.int z, .int y] := pair_fr (p0_walk z y) q222 r145 rfl rfl (by decide) (by decide) ⟨aR_a 0, aI_a z, aI_a y, trivial⟩ ⟨aR_a 314, aI_a z, aI_a y, trivial⟩ rfl rfl (by decide +kernel) (by decide +kernel) (by decide +kernel)
theorem FA_tw {N f : Nat} {t : Nat → Int32} {z : Int32} {S : tST} (hz : z = 0) (h : twR N t f tw0 0 (.inl S)) : FA N t z (-1) := Or.inl ⟨hz, f, _, h, Or.inl ⟨S, rfl, rfl⟩⟩
theorem p_text (z : Int32) : Pair 99 191 [.int z] := by
  refine pair_up (p0_text z) (fun x hi => ?_)
  obtain ⟨hg, hj, hr, hs⟩ := id hi
  obtain ⟨N, L, K, e0, eL, eK, e1, e2, e3, e4, e5, e6, e7, e8, e9, e10⟩ := id hr
  refine ⟨fun x1 => gI tS tR x1 ∧ jM x1 ∧ (∀ a i, 314 ≤ a → x1.1 a i = x.1 a i) ∧ ((¬ (z = 0 ∧ FA N (x.1 2) z (-1)) ∧ xtK x x1) ∨ (z = 0 ∧ ∃ S f, twR N (x.1 2) f tw0 0 (.inl S) ∧ xtO S x1 ∧ xtF x x1)), ?_, ?_⟩
  · refine xw_im (fC_and (xw_vc q108 (by decide) hg trivial ⟨aR_a 0, aI_a z, trivial⟩ rfl) (c_textD hg e1 e0 rfl)) (fun rv x1 h => ?_)
    obtain ⟨g1, j1, fx⟩ := cx_st (by decide +kernel) hj h.1
    exact ⟨g1, j1, fx, h.2⟩
  · rintro x1 ⟨g1, j1, fx, ho⟩
    have f6 : x1.1 314 6 = nI N := by rw [fx 314 6 (by decide)]; exact e2
    have f15 : x1.1 315 = x.1 315 := funext fun j => fx 315 j (by decide)
    refine xw_im (fC_and (text_ok (d := 1200) (x := z) (by decide) g1 j1 (P := fun rv m' => True) (fun rv m' _ _ _ _ => trivial)) (fC_two (c_mtextD g1 j1 f6 e0 f15 e4) (c_mtext g1 j1 f6 e0 f15 e4 (by rw [fx 314 7 (by decide)]; exact e7) eL (by rw [fx 314 30 (by decide)]; exact e9) eK))) (fun rv x2 h => ?_)
    obtain ⟨-, ho2, -, -, -, -, fm⟩ := h
    rw [e3] at ho
    obtain ⟨s1, k, s2, s3, s4⟩ := hs
    rcases ho with ⟨n1, xk⟩ | ⟨hz, S, f, q1, x1o, -⟩ <;> rcases ho2 with ⟨n2, mk⟩ | ⟨hz2, S2, f2, q2, m1o, -⟩
    · refine ⟨?_, k, s2, ?_, ?_⟩
      · rw [fm 3 0 (by decide), xk 3 0 (by omega), mk 314 25 (by omega), fx 314 25 (by decide)]; exact s1
      · rw [fm 84 4 (by decide), xk 84 4 (by omega)]; exact s3
      · rw [mk 314 51 (by omega), fx 314 51 (by decide)]; exact s4
    · exact absurd ⟨hz2, FA_tw hz2 q2⟩ n1
    · exact absurd ⟨hz, FA_tw hz q1⟩ n2
    · have eS := twR_det f f2 _ _ _ _ q1 q2
      cases eS
      refine ⟨?_, 0, by decide, ?_, ?_⟩
      · rw [fm 3 0 (by decide), x1o.1, m1o.1]
      · rw [fm 84 4 (by decide)]; exact x1o.2.2.2.2.2.2.1
      · exact m1o.2.2.2.2.2.1
theorem p_seen (z y : Int32) (hy : y = 0 ∨ y = 1) : Pair 136 233 [.int z, .int y] := by
  intro x hi
  obtain ⟨hg, hj, hr, hs⟩ := id hi
  obtain ⟨s1, k, s2, s3, s4⟩ := id hs
  have hya : aH (fun _ => 0) (.int y) (aI 0 1) := Or.inr (Or.inl ⟨rfl, y, rfl, by rcases hy with h | h <;> rw [h] <;> decide, trivial⟩)
  refine ⟨fun rv x1 => cPo tS tR q251c x [.ref 0, .int z, .int y] rv x1 ∧ snO (x.1 3 0) z k rv (x1.1 84 4), ?_, ?_⟩
  · refine xw_im (fC_and (xw_vc q251 (by decide) hg trivial ⟨aR_a 0, aI_a z, hya, trivial⟩ rfl) (c_seen hg.2 rfl s3 s2)) (fun rv x1 h => ⟨?_, h⟩)
    rcases h.2 with ⟨-, h, -⟩ | ⟨-, h, -⟩ <;> exact ⟨_, h⟩
  · rintro rv x1 ⟨hp, ho⟩
    obtain ⟨i1, i2, i3⟩ := inv_st0 (c := q251c) (by decide +kernel) (Inv_0 hi) hp
    obtain ⟨g1, j1, fx⟩ := cx_st (by decide +kernel) hj hp
    refine xw_im (fC_and (xw_vc r158 (by decide) g1 j1 ⟨aR_a 314, aI_a z, aI_a y, trivial⟩ rfl) (c_mseen (C := x.1 3 0) g1.2 (by rw [fx 314 25 (by decide)]; exact s1.symm) (by rw [fx 314 51 (by decide)]; exact s4) s2)) (fun rv2 x2 h => ?_)
    obtain ⟨hp2, ho2⟩ := h
    obtain ⟨a1, a2, a3⟩ := inv_st0 (c := r158c) (by decide +kernel) ⟨i1, i2, i3⟩ hp2
    obtain ⟨d1, d2⟩ := snO_det ho2 ho
    obtain ⟨-, -, fm⟩ := cm_st (c := r158c) (by decide +kernel) j1 hp2
    have c30 : x1.1 3 0 = x.1 3 0 := hp.2.1 3 0 (by decide)
    have c25 : x2.1 314 25 = x1.1 314 25 := hp2.2.1 314 25 (by decide)
    refine ⟨d1, a1, a2, a3, ?_, ?_⟩
    · rw [fm 3 0 (by decide), c30, c25, fx 314 25 (by decide)]; exact s1
    · rcases ho with ⟨w1, w2, w3⟩ | ⟨w1, w2, w3⟩
      · exact ⟨k, s2, by rw [fm 84 4 (by decide)]; exact w3, by rw [d2]; exact w3⟩
      · exact ⟨k + 1, by omega, by rw [fm 84 4 (by decide)]; exact w3, by rw [d2]; exact w3⟩
