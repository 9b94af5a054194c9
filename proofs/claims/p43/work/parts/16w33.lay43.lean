/-! the law that holds is alike: laid over the scenes' relation -/
def hol (x : xM) : Prop := x.1 47 5 = x.1 314 34
def mdHq (q : Nat × Nat × Nat) : Bool := (!(Nat.beq q.1 47) || offB 5 6 q) && (!(Nat.beq q.1 314) || offB 34 35 q)
theorem mdHq_ok {q : Nat × Nat × Nat} (h : mdHq q = true) : ¬ (q.1 = 47 ∧ q.2.1 ≤ 5 ∧ 5 < q.2.2) ∧ ¬ (q.1 = 314 ∧ q.2.1 ≤ 34 ∧ 34 < q.2.2) := by
  unfold mdHq at h
  simp only [Bool.and_eq_true, Bool.or_eq_true, Bool.not_eq_true', beqF] at h
  obtain ⟨h1, h2⟩ := h
  refine ⟨?_, ?_⟩
  · rintro ⟨e1, e2, e3⟩
    rcases h1 with z | z
    · exact z e1
    · have := offB_n z e2 e3 (by omega); omega
  · rintro ⟨e1, e2, e3⟩
    rcases h2 with z | z
    · exact z e1
    · have := offB_n z e2 e3 (by omega); omega
def mdH (md : List (Nat × Nat × Nat)) : Bool := md.all mdHq
theorem mdH_ok {md : List (Nat × Nat × Nat)} (h : mdH md = true) : wm1 md 47 5 = false ∧ wm1 md 314 34 = false := ⟨wm_f (fun q hq z => (mdHq_ok (List.all_eq_true.mp h q hq)).1 ⟨z.1, z.2.1, z.2.2⟩), wm_f (fun q hq z => (mdHq_ok (List.all_eq_true.mp h q hq)).2 ⟨z.1, z.2.1, z.2.2⟩)⟩
theorem hol_st {c : aCt} (h : mdH c.2.2.2.2 = true) {x x' : xM} {vs : List Value} {rv : Option Value} (hh : hol x) (hp : cPo tS tR c x vs rv x') : hol x' := by
  obtain ⟨h1, h2⟩ := mdH_ok h
  unfold hol at *
  rw [hp.2.1 _ _ h1, hp.2.1 _ _ h2]
  exact hh
def Inv (x : xM) : Prop := gI tS tR x ∧ jM x ∧ rel x ∧ (relS x ∧ hol x)
theorem Inv_1 {x : xM} (h : Inv x) : Inv1 x := ⟨h.1, h.2.1, h.2.2.1, h.2.2.2.1⟩
theorem Inv_P {x : xM} (h : Inv x) : hol x := h.2.2.2.2
theorem Inv_of {x : xM} (h : Inv1 x) (g : hol x) : Inv x := ⟨h.1, h.2.1, h.2.2.1, h.2.2.2, g⟩
def mdOk (md : List (Nat × Nat × Nat)) : Bool := mdOk1 md && mdH md
theorem inv_st {c : aCt} (h : mdOk c.2.2.2.2 = true) {x x' : xM} {vs : List Value} {rv : Option Value} (hi : Inv x) (hp : cPo tS tR c x vs rv x') : Inv x' := by
  unfold mdOk at h
  rw [Bool.and_eq_true] at h
  exact Inv_of (inv_st1 h.1 (Inv_1 hi) hp) (hol_st h.2 (Inv_P hi) hp)
def Pair (jx jm : Nat) (vs : List Value) : Prop := ∀ x, Inv x → ∃ XF : Option Value → xM → Prop, xw 1200 jx (.ref 0 :: vs) x (fun rv x1 => (∃ z : Int32, rv = some (.int z)) ∧ XF rv x1) ∧ ∀ rv x1, XF rv x1 → xw 1200 jm (.ref 314 :: vs) x1 (fun rv2 x2 => rv2 = rv ∧ Inv x2)
theorem pair_u2 {jx jm : Nat} {vs : List Value} (hp : Pair1 jx jm vs) (hx : ∀ x, Inv x → ∃ X2 : xM → Prop, xw 1200 jx (.ref 0 :: vs) x (fun _ x1 => X2 x1) ∧ ∀ x1, X2 x1 → xw 1200 jm (.ref 314 :: vs) x1 (fun _ x2 => hol x2)) : Pair jx jm vs := by
  intro x hi
  obtain ⟨XF, h1, h2⟩ := hp x (Inv_1 hi)
  obtain ⟨X2, g1, g2⟩ := hx x hi
  exact ⟨fun rv x1 => XF rv x1 ∧ X2 x1, xw_im (xw_cj _ _ _ _ _ _ h1 g1) (fun rv x1 h => ⟨h.1.1, h.1.2, h.2⟩), fun rv x1 h => xw_im (xw_cj _ _ _ _ _ _ (h2 rv x1 h.1) (g2 x1 h.2)) (fun rv2 x2 h => ⟨h.1.1, Inv_of h.1.2 h.2⟩)⟩
theorem pair_h {cx cm : aCt} {jx jm DX DM : Nat} {vs : List Value} (hp : Pair1 jx jm vs) (hX : vC tS tR jT DX cx) (hM : vC tS tR jM DM cm) (e1 : cx.1 = jx) (e2 : cm.1 = jm) (hDX : DX ≤ 1200) (hDM : DM ≤ 1200) (a1 : aMt (.ref 0 :: vs) cx.2.1) (a2 : aMt (.ref 314 :: vs) cm.2.1) (b1 : cx.2.2.1 = []) (b2 : cm.2.2.1 = []) (m1 : jmB (0, [], [], [], cx.2.2.2.2) = true) (m2 : mdH cx.2.2.2.2 = true) (m3 : mdH cm.2.2.2.2 = true) : Pair jx jm vs := by
  subst e1 e2
  refine pair_u2 hp (fun x hi => ⟨fun x1 => gI tS tR x1 ∧ jM x1 ∧ hol x1, ?_, fun x1 h => ?_⟩)
  · exact xw_im (xw_vc hX hDX hi.1 trivial a1 b1) (fun rv x1 h => ⟨h.1, jM_st (c := (0, [], [], [], cx.2.2.2.2)) m1 x x1 h.2.1 hi.2.1, hol_st m2 (Inv_P hi) h⟩)
  · exact xw_im (xw_vc hM hDM h.1 h.2.1 a2 b2) (fun rv x2 h2 => hol_st m3 h.2.2 h2)
theorem pair_ans {cx cm : aCt} {jx jm DX DM : Nat} {vs : List Value} (hX : vC tS tR jT DX cx) (hM : vC tS tR jM DM cm) (e1 : cx.1 = jx) (e2 : cm.1 = jm) (hDX : DX ≤ 1200) (hDM : DM ≤ 1200) (a1 : aMt (.ref 0 :: vs) cx.2.1) (a2 : aMt (.ref 314 :: vs) cm.2.1) (b1 : cx.2.2.1 = []) (b2 : cm.2.2.1 = []) (k1 : mdOk cx.2.2.2.2 = true) (k2 : mdOk cm.2.2.2.2 = true) (m1 : mdX cx.2.2.2.2 = true)
    (F : ∀ x, Inv x → ∃ XO : Option Value → xM → Prop, fC jx (.ref 0 :: vs) x XO ∧ (∀ rv x1, XO rv x1 → ∃ z : Int32, rv = some (.int z)) ∧ ∀ rv x1, XO rv x1 → Inv x1 → (∀ a i, 314 ≤ a → x1.1 a i = x.1 a i) → ∃ MO : Option Value → xM → Prop, fC jm (.ref 314 :: vs) x1 MO ∧ ∀ rv2 x2, MO rv2 x2 → rv2 = rv) : Pair jx jm vs := by
  subst e1 e2
  intro x hi
  obtain ⟨XO, f1, f2, f3⟩ := F x hi
  refine ⟨fun rv x1 => cPo tS tR cx x (.ref 0 :: vs) rv x1 ∧ XO rv x1, xw_im (fC_and (xw_vc hX hDX hi.1 trivial a1 b1) f1) (fun rv x1 h => ⟨f2 rv x1 h.2, h⟩), ?_⟩
  rintro rv x1 ⟨hp, ho⟩
  have i1 : Inv x1 := inv_st (c := cx) k1 hi hp
  obtain ⟨-, -, fx⟩ := cx_st m1 hi.2.1 hp
  obtain ⟨MO, g2, g3⟩ := f3 rv x1 ho i1 fx
  exact xw_im (fC_and (xw_vc hM hDM i1.1 i1.2.1 a2 b2) g2) (fun rv2 x2 h => ⟨g3 rv2 x2 h.2, inv_st (c := cm) k2 i1 h.1⟩)
def ysP (z : List (Nat × Nat × Int32)) : Bool := decide (yI z 47 5 = -1) && decide (yI z 314 34 = -1)
theorem ysP_ok {z : yS} (h : ysP z.1 = true) : hol (ym z) := by
  unfold ysP at h
  rw [Bool.and_eq_true] at h
  exact (of_decide_eq_true h.1 : (ym z).1 47 5 = -1).trans (of_decide_eq_true h.2 : (ym z).1 314 34 = -1).symm
theorem P_wk {x u : xM} (h : hol x) (e : u.1 = x.1) : hol u := by
  unfold hol at *
  rw [e]
  exact h
theorem p_feed (a : Int32) (b : Int32) (c : Int32) (e : Int32) (g : Int32) : Pair 96 160 [.int a, .int b, .int c, .int e, .int g] := pair_h (p1_feed a b c e g) q2 feed_ok rfl rfl (by decide) (by decide) ⟨aR_a 0, aI_a a, aI_a b, aI_a c, aI_a e, aI_a g, trivial⟩ ⟨aR_a 314, aI_a a, aI_a b, aI_a c, aI_a e, aI_a g, trivial⟩ rfl rfl (by decide +kernel) (by decide +kernel) (by decide +kernel)
theorem p_end (z : Int32) : Pair 97 161 [.int z] := pair_h (p1_end z) q3 r0 rfl rfl (by decide) (by decide) ⟨aR_a 0, aI_a z, trivial⟩ ⟨aR_a 314, aI_a z, trivial⟩ rfl rfl (by decide +kernel) (by decide +kernel) (by decide +kernel)
theorem p_fault (z : Int32) : Pair 98 190 [.int z] := pair_h (p1_fault z) q100 ux8 rfl rfl (by decide) (by decide) ⟨aR_a 0, aI_a z, trivial⟩ ⟨aR_a 314, aI_a z, trivial⟩ rfl rfl (by decide +kernel) (by decide +kernel) (by decide +kernel)
theorem p_walk (z : Int32) (y : Int32) : Pair 128 223 [.int z, .int y] := pair_h (p1_walk z y) q222 r145 rfl rfl (by decide) (by decide) ⟨aR_a 0, aI_a z, aI_a y, trivial⟩ ⟨aR_a 314, aI_a z, aI_a y, trivial⟩ rfl rfl (by decide +kernel) (by decide +kernel) (by decide +kernel)
theorem p_council (z : Int32) : Pair 105 209 [.int z] := pair_h (p1_council z) q120 r25 rfl rfl (by decide) (by decide) ⟨aR_a 0, aI_a z, trivial⟩ ⟨aR_a 314, aI_a z, trivial⟩ rfl rfl (by decide +kernel) (by decide +kernel) (by decide +kernel)
theorem p_day : Pair 113 212 [] := pair_h (p1_day) q197 r69 rfl rfl (by decide) (by decide) ⟨aR_a 0, trivial⟩ ⟨aR_a 314, trivial⟩ rfl rfl (by decide +kernel) (by decide +kernel) (by decide +kernel)
theorem p_wall (z : Int32) : Pair 115 213 [.int z] := pair_h (p1_wall z) q198 r71 rfl rfl (by decide) (by decide) ⟨aR_a 0, aI_a z, trivial⟩ ⟨aR_a 314, aI_a z, trivial⟩ rfl rfl (by decide +kernel) (by decide +kernel) (by decide +kernel)
theorem p_lamp (z : Int32) : Pair 116 214 [.int z] := pair_h (p1_lamp z) q199 r72 rfl rfl (by decide) (by decide) ⟨aR_a 0, aI_a z, trivial⟩ ⟨aR_a 314, aI_a z, trivial⟩ rfl rfl (by decide +kernel) (by decide +kernel) (by decide +kernel)
theorem p_moves (z : Int32) (y : Int32) : Pair 117 215 [.int z, .int y] := pair_h (p1_moves z y) q201 r73 rfl rfl (by decide) (by decide) ⟨aR_a 0, aI_a z, aI_a y, trivial⟩ ⟨aR_a 314, aI_a z, aI_a y, trivial⟩ rfl rfl (by decide +kernel) (by decide +kernel) (by decide +kernel)
theorem p_preach (z : Int32) : Pair 118 216 [.int z] := pair_h (p1_preach z) q202 r74 rfl rfl (by decide) (by decide) ⟨aR_a 0, aI_a z, trivial⟩ ⟨aR_a 314, aI_a z, trivial⟩ rfl rfl (by decide +kernel) (by decide +kernel) (by decide +kernel)
theorem p_give (z : Int32) : Pair 119 217 [.int z] := pair_h (p1_give z) q203 r76 rfl rfl (by decide) (by decide) ⟨aR_a 0, aI_a z, trivial⟩ ⟨aR_a 314, aI_a z, trivial⟩ rfl rfl (by decide +kernel) (by decide +kernel) (by decide +kernel)
theorem p_years (z : Int32) (sd : Int64) : Pair 120 219 [.int z, .long sd] := pair_h (p1_years z sd) q209 r84 rfl rfl (by decide) (by decide) ⟨aR_a 0, aI_a z, aL_a sd, trivial⟩ ⟨aR_a 314, aI_a z, aL_a sd, trivial⟩ rfl rfl (by decide +kernel) (by decide +kernel) (by decide +kernel)
theorem p_undo : Pair 123 220 [] := pair_h (p1_undo) q213 und_ok rfl rfl (by decide) (by decide) ⟨aR_a 0, trivial⟩ ⟨aR_a 314, trivial⟩ rfl rfl (by decide +kernel) (by decide +kernel) (by decide +kernel)
theorem p_image : Pair 126 261 [] := pair_h (p1_image) q218 r223 rfl rfl (by decide) (by decide) ⟨aR_a 0, trivial⟩ ⟨aR_a 314, trivial⟩ rfl rfl (by decide +kernel) (by decide +kernel) (by decide +kernel)
theorem p_back : Pair 127 262 [] := pair_h (p1_back) q221 r224 rfl rfl (by decide) (by decide) ⟨aR_a 0, trivial⟩ ⟨aR_a 314, trivial⟩ rfl rfl (by decide +kernel) (by decide +kernel) (by decide +kernel)
theorem p_seen (z : Int32) (y : Int32) (hy : y = 0 ∨ y = 1) : Pair 136 233 [.int z, .int y] := by
  have hya : aH (fun _ => 0) (.int y) (aI 0 1) := Or.inr (Or.inl ⟨rfl, y, rfl, by rcases hy with h | h <;> rw [h] <;> decide, trivial⟩)
  exact pair_h (p1_seen z y hy) q251 r158 rfl rfl (by decide) (by decide) ⟨aR_a 0, aI_a z, hya, trivial⟩ ⟨aR_a 314, aI_a z, aI_a y, trivial⟩ rfl rfl (by decide +kernel) (by decide +kernel) (by decide +kernel)
theorem p_street (z : Int32) (y : Int32) : Pair 102 206 [.int z, .int y] := pair_h (p1_street z y) q118 r18 rfl rfl (by decide) (by decide) ⟨aR_a 0, aI_a z, aI_a y, trivial⟩ ⟨aR_a 314, aI_a z, aI_a y, trivial⟩ rfl rfl (by decide +kernel) (by decide +kernel) (by decide +kernel)
theorem p_law (z : Int32) : Pair 104 208 [.int z] := by
  refine pair_u2 (p1_law z) (fun x hi => ?_)
  obtain ⟨hg, hj, hr, hs⟩ := id (Inv_1 hi)
  obtain ⟨N, L, K, e0, eL, eK, e1, e2, e3, e4, e5, e6, e7, e8, e9, e10⟩ := id hr
  refine ⟨fun x1 => gI tS tR x1 ∧ jM x1 ∧ (∀ a i, 314 ≤ a → x1.1 a i = x.1 a i) ∧ ((¬ (z = -1 ∨ (¬ z < 0 ∧ z < nI L)) ∧ x1 = x) ∨ ((z = -1 ∨ (¬ z < 0 ∧ z < nI L)) ∧ x1 = mI x 47 5 z)), ?_, ?_⟩
  · refine xw_im (fC_and (xw_vc q119 (by decide) hg trivial ⟨aR_a 0, aI_a z, trivial⟩ rfl) (c_law hg.2 e6)) (fun rv x1 h => ?_)
    obtain ⟨g1, j1, fx⟩ := cx_st (by decide +kernel) hj h.1
    refine ⟨g1, j1, fx, ?_⟩
    rcases h.2 with ⟨a, -, b⟩ | ⟨a, -, b⟩
    · exact Or.inl ⟨a, b⟩
    · exact Or.inr ⟨a, b⟩
  · rintro x1 ⟨g1, j1, fx, ho⟩
    refine xw_im (fC_and (xw_vc r23 (by decide) g1 j1 ⟨aR_a 314, aI_a z, trivial⟩ rfl) (c_mlaw eL (by rw [fx 314 7 (by decide)]; exact e7))) (fun rv x2 h => ?_)
    have hh : x.1 47 5 = x.1 314 34 := Inv_P hi
    show x2.1 47 5 = x2.1 314 34
    rcases ho with ⟨a, b⟩ | ⟨a, b⟩ <;> rcases h.2 with ⟨c, -, e⟩ | ⟨c, -, e⟩
    · rw [e, b, mI_ne (by omega), mI_ne (by omega)]; exact hh
    · exact absurd c a
    · exact absurd a c
    · rw [e, b, mI_ne (by omega), mI_ne (by omega), mI_at, mI_at]
theorem p_text (z : Int32) : Pair 99 191 [.int z] := by
  refine pair_u2 (p1_text z) (fun x hi => ?_)
  obtain ⟨hg, hj, hr, hs⟩ := id (Inv_1 hi)
  obtain ⟨N, L, K, e0, eL, eK, e1, e2, e3, e4, e5, e6, e7, e8, e9, e10⟩ := id hr
  have hh : x.1 47 5 = x.1 314 34 := Inv_P hi
  refine ⟨fun x1 => gI tS tR x1 ∧ jM x1 ∧ (∀ a i, 314 ≤ a → x1.1 a i = x.1 a i) ∧ x1.1 47 5 = x.1 47 5, ?_, ?_⟩
  · refine xw_im (xw_vc q108 (by decide) hg trivial ⟨aR_a 0, aI_a z, trivial⟩ rfl) (fun rv x1 h => ?_)
    obtain ⟨g1, j1, fx⟩ := cx_st (by decide +kernel) hj h
    exact ⟨g1, j1, fx, h.2.1 47 5 (by decide +kernel)⟩
  · rintro x1 ⟨g1, j1, fx, h47⟩
    have f6 : x1.1 314 6 = nI N := by rw [fx 314 6 (by decide)]; exact e2
    have f15 : x1.1 315 = x.1 315 := funext fun j => fx 315 j (by decide)
    refine xw_im (fC_and (text_ok (d := 1200) (x := z) (by decide) g1 j1 (P := fun rv m' => True) (fun rv m' _ _ _ _ => trivial)) (fC_two (c_mtextD g1 j1 f6 e0 f15 e4) (c_mtext g1 j1 f6 e0 f15 e4 (by rw [fx 314 7 (by decide)]; exact e7) eL (by rw [fx 314 30 (by decide)]; exact e9) eK))) (fun rv x2 h => ?_)
    obtain ⟨-, ho2, -, -, -, -, fm⟩ := h
    have h34 : x2.1 314 34 = x1.1 314 34 := by
      rcases ho2 with ⟨-, mk⟩ | ⟨-, S2, f2, -, -, mf⟩
      · exact mk 314 34 (by omega)
      · exact mf 314 34 (by omega)
    show x2.1 47 5 = x2.1 314 34
    rw [fm 47 5 (by decide), h47, h34, fx 314 34 (by decide)]
    exact hh
theorem p_count (z : Int32) : Pair 106 263 [.int z] := by
  intro x hi
  obtain ⟨hg, hj, hr, C, S, W, b, k, A, B, Y, ⟨s, ks, im⟩, ht⟩ := id (Inv_1 hi)
  have hh : x.1 47 5 = x.1 314 34 := Inv_P hi
  obtain ⟨N, L, K, e0, eL, eK, e1, e2, e3, e4, e5, e6, e7, e8, e9, e10⟩ := id hr
  obtain ⟨h1, h2, h3, h4, h5, h6, h7, h8, h9, h10, h11, h12, h13, h14, h15, h16⟩ := id ht
  have hv : scV C S W s := h8.1
  have hX : SX x 89 W s := h9.1
  obtain ⟨xx, hR⟩ : ∃ xx, RX x W xx ks := h9.2.1
  have hv9 := hv.2.2.1
  refine ⟨fun rv x1 => cPo tS tR q123c x [.ref 0, .int z] rv x1 ∧ ∃ v, rv = some (.int v) ∧ ctV (xcF x s.2.2.1) z v ∧ x = x1, xw_im (fC_and (xw_vc q123 (by decide) hg trivial ⟨aR_a 0, aI_a z, trivial⟩ rfl) (c_count hg.2 hX.2.2.1 (by omega))) (fun rv x1 h => ⟨by obtain ⟨-, v, e, -⟩ := h; exact ⟨v, e⟩, h⟩), ?_⟩
  rintro rv x1 ⟨hp, v, rfl, q, rfl⟩
  refine xw_im (fC_and (xw_vc r225 (by decide) hg hj ⟨aR_a 314, aI_a z, trivial⟩ rfl) (c_mcount hg.2)) (fun rv2 x2 h => ?_)
  obtain ⟨hp2, v2, rfl, q2, -⟩ := h
  refine ⟨?_, inv_st (c := r225c) (by decide +kernel) hi hp2⟩
  obtain ⟨u1, u2, u3, u4, u5, u6⟩ := SM_0.mp h10.1
  rw [ctV_1 q2 q (fun k hk => ?_)]
  rcases (by omega : k = 0 ∨ k = 1 ∨ k = 2 ∨ k = 3 ∨ k = 4 ∨ k = 5 ∨ k = 6 ∨ k = 7 ∨ k = 8 ∨ k = 9 ∨ k = 10 ∨ k = 11 ∨ k = 12) with rfl | rfl | rfl | rfl | rfl | rfl | rfl | rfl | rfl | rfl | rfl | rfl | rfl
  · exact h2.1.trans h1.1.symm
  · exact h2.2.1.trans h1.2.1.symm
  · exact h5.trans h4.symm
  · exact e7.trans e6.symm
  · exact e9.trans e8.symm
  · exact e2.trans e1.symm
  · exact hh.symm
  · exact u3.trans hX.2.2.1.symm
  · exact u2.trans hX.2.1.symm
  · exact h12.trans h11.symm
  · exact h15.trans h14.symm
  · exact u4
  · exact h10.2.1.1.trans hR.2.2.1.symm
