/-! a walk told has a corner: laid over the scenes' relation -/
def wlq (x : xM) : Prop := ∀ K, x.1 55 4 = nI K → K ≤ 4 → ∀ k, k < K → x.1 61 k ≠ 0
theorem wlq_ag {x x2 : xM} (hs : wlq x) (h : ∀ a i, (a = 55 ∧ i = 4) ∨ a = 61 → x2.1 a i = x.1 a i) : wlq x2 := fun K h1 h2 k hk => by
  rw [h 55 4 (Or.inl ⟨rfl, rfl⟩)] at h1
  rw [h 61 k (Or.inr rfl)]
  exact hs K h1 h2 k hk
def mdLq (q : Nat × Nat × Nat) : Bool := (!(Nat.beq q.1 55) || offB 4 5 q) && !(Nat.beq q.1 61)
theorem mdLq_ok {q : Nat × Nat × Nat} (h : mdLq q = true) : ∀ a i, (a = 55 ∧ i = 4) ∨ a = 61 → ¬ (q.1 = a ∧ q.2.1 ≤ i ∧ i < q.2.2) := by
  unfold mdLq at h
  simp only [Bool.and_eq_true, Bool.or_eq_true, Bool.not_eq_true', beqF] at h
  obtain ⟨h1, h2⟩ := h
  rintro a i hk ⟨e1, e2, e3⟩
  rcases hk with ⟨ka, ki⟩ | ka
  · rcases h1 with z | z
    · exact z (e1.trans ka)
    · have := offB_n z e2 e3 (by omega); omega
  · exact h2 (e1.trans ka)
def mdL (md : List (Nat × Nat × Nat)) : Bool := md.all mdLq
theorem wlq_st {c : aCt} (h : mdL c.2.2.2.2 = true) {x x' : xM} {vs : List Value} {rv : Option Value} (hs : wlq x) (hp : cPo tS tR c x vs rv x') : wlq x' := wlq_ag hs (fun a i hk => hp.2.1 a i (wm_f (fun q hq z => mdLq_ok (List.all_eq_true.mp h q hq) a i hk ⟨z.1, z.2.1, z.2.2⟩)))
def Inv (x : xM) : Prop := gI tS tR x ∧ jM x ∧ rel x ∧ (relS x ∧ wlq x)
theorem Inv_1 {x : xM} (h : Inv x) : Inv1 x := ⟨h.1, h.2.1, h.2.2.1, h.2.2.2.1⟩
theorem Inv_P {x : xM} (h : Inv x) : wlq x := h.2.2.2.2
theorem Inv_of {x : xM} (h : Inv1 x) (g : wlq x) : Inv x := ⟨h.1, h.2.1, h.2.2.1, h.2.2.2, g⟩
def mdOk (md : List (Nat × Nat × Nat)) : Bool := mdOk1 md && mdL md
theorem inv_st {c : aCt} (h : mdOk c.2.2.2.2 = true) {x x' : xM} {vs : List Value} {rv : Option Value} (hi : Inv x) (hp : cPo tS tR c x vs rv x') : Inv x' := by
  unfold mdOk at h
  rw [Bool.and_eq_true] at h
  exact Inv_of (inv_st1 h.1 (Inv_1 hi) hp) (wlq_st h.2 (Inv_P hi) hp)
def Pair (jx jm : Nat) (vs : List Value) : Prop := ∀ x, Inv x → ∃ XF : Option Value → xM → Prop, xw 1200 jx (.ref 0 :: vs) x (fun rv x1 => (∃ z : Int32, rv = some (.int z)) ∧ XF rv x1) ∧ ∀ rv x1, XF rv x1 → xw 1200 jm (.ref 314 :: vs) x1 (fun rv2 x2 => rv2 = rv ∧ Inv x2)
theorem pair_u2 {jx jm : Nat} {vs : List Value} (hp : Pair1 jx jm vs) (hx : ∀ x, Inv x → ∃ X2 : xM → Prop, xw 1200 jx (.ref 0 :: vs) x (fun _ x1 => X2 x1) ∧ ∀ x1, X2 x1 → xw 1200 jm (.ref 314 :: vs) x1 (fun _ x2 => wlq x2)) : Pair jx jm vs := by
  intro x hi
  obtain ⟨XF, h1, h2⟩ := hp x (Inv_1 hi)
  obtain ⟨X2, g1, g2⟩ := hx x hi
  exact ⟨fun rv x1 => XF rv x1 ∧ X2 x1, xw_im (xw_cj _ _ _ _ _ _ h1 g1) (fun rv x1 h => ⟨h.1.1, h.1.2, h.2⟩), fun rv x1 h => xw_im (xw_cj _ _ _ _ _ _ (h2 rv x1 h.1) (g2 x1 h.2)) (fun rv2 x2 h => ⟨h.1.1, Inv_of h.1.2 h.2⟩)⟩
theorem pair_h {cx cm : aCt} {jx jm DX DM : Nat} {vs : List Value} (hp : Pair1 jx jm vs) (hX : vC tS tR jT DX cx) (hM : vC tS tR jM DM cm) (e1 : cx.1 = jx) (e2 : cm.1 = jm) (hDX : DX ≤ 1200) (hDM : DM ≤ 1200) (a1 : aMt (.ref 0 :: vs) cx.2.1) (a2 : aMt (.ref 314 :: vs) cm.2.1) (b1 : cx.2.2.1 = []) (b2 : cm.2.2.1 = []) (m1 : jmB (0, [], [], [], cx.2.2.2.2) = true) (m2 : mdL cx.2.2.2.2 = true) (m3 : mdL cm.2.2.2.2 = true) : Pair jx jm vs := by
  subst e1 e2
  refine pair_u2 hp (fun x hi => ⟨fun x1 => gI tS tR x1 ∧ jM x1 ∧ wlq x1, ?_, fun x1 h => ?_⟩)
  · exact xw_im (xw_vc hX hDX hi.1 trivial a1 b1) (fun rv x1 h => ⟨h.1, jM_st (c := (0, [], [], [], cx.2.2.2.2)) m1 x x1 h.2.1 hi.2.1, wlq_st m2 (Inv_P hi) h⟩)
  · exact xw_im (xw_vc hM hDM h.1 h.2.1 a2 b2) (fun rv x2 h2 => wlq_st m3 h.2.2 h2)
theorem pair_ans {cx cm : aCt} {jx jm DX DM : Nat} {vs : List Value} (hX : vC tS tR jT DX cx) (hM : vC tS tR jM DM cm) (e1 : cx.1 = jx) (e2 : cm.1 = jm) (hDX : DX ≤ 1200) (hDM : DM ≤ 1200) (a1 : aMt (.ref 0 :: vs) cx.2.1) (a2 : aMt (.ref 314 :: vs) cm.2.1) (b1 : cx.2.2.1 = []) (b2 : cm.2.2.1 = []) (k1 : mdOk cx.2.2.2.2 = true) (k2 : mdOk cm.2.2.2.2 = true) (m1 : mdX cx.2.2.2.2 = true)
    (F : ∀ x, Inv x → ∃ XO : Option Value → xM → Prop, fC jx (.ref 0 :: vs) x XO ∧ (∀ rv x1, XO rv x1 → ∃ z : Int32, rv = some (.int z)) ∧ ∀ rv x1, XO rv x1 → Inv x1 → (∀ a i, 314 ≤ a → x1.1 a i = x.1 a i) → ∃ MO : Option Value → xM → Prop, fC jm (.ref 314 :: vs) x1 MO ∧ ∀ rv2 x2, MO rv2 x2 → rv2 = rv) : Pair jx jm vs := by
  subst e1 e2
  intro x hi
  obtain ⟨XO, f1, f2, f3⟩ := F x hi
  refine ⟨fun rv x1 => cPo tS tR cx x (.ref 0 :: vs) rv x1 ∧ XO rv x1, xw_im (fC_and (xw_vc hX hDX hi.1 trivial a1 b1) f1) (fun rv x1 h => ⟨f2 rv x1 h.2, h⟩), ?_⟩
  rintro rv x1 ⟨hp, ho⟩
  have i1 : Inv x1 := inv_st (c := cx) k1 hi hp
  obtain ⟨-, -, fx⟩ := cx_st m1 hi.2.1 hp
  obtain ⟨MO, g2, g3⟩ := f3 rv x1 ho i1 fx
  exact xw_im (fC_and (xw_vc hM hDM i1.1 i1.2.1 a2 b2) g2) (fun rv2 x2 h => ⟨g3 rv2 x2 h.2, inv_st (c := cm) k2 i1 h.1⟩)
def ysP (z : List (Nat × Nat × Int32)) : Bool := decide (yI z 55 4 = 0)
theorem ysP_ok {z : yS} (h : ysP z.1 = true) : wlq (ym z) := fun K h1 h2 k hk => by
  have h0 : (ym z).1 55 4 = 0 := of_decide_eq_true h
  have : K = 0 := (nI_inj (by omega) (by omega)).mp ((h1.symm.trans h0).trans (show (0 : Int32) = nI 0 from rfl))
  omega
theorem P_wk {x u : xM} (h : wlq x) (e : u.1 = x.1) : wlq u := wlq_ag h (fun a i _ => by rw [e])
theorem p_feed (a : Int32) (b : Int32) (c : Int32) (e : Int32) (g : Int32) : Pair 96 160 [.int a, .int b, .int c, .int e, .int g] := pair_h (p1_feed a b c e g) q2 feed_ok rfl rfl (by decide) (by decide) ⟨aR_a 0, aI_a a, aI_a b, aI_a c, aI_a e, aI_a g, trivial⟩ ⟨aR_a 314, aI_a a, aI_a b, aI_a c, aI_a e, aI_a g, trivial⟩ rfl rfl (by decide +kernel) (by decide +kernel) (by decide +kernel)
theorem p_end (z : Int32) : Pair 97 161 [.int z] := pair_h (p1_end z) q3 r0 rfl rfl (by decide) (by decide) ⟨aR_a 0, aI_a z, trivial⟩ ⟨aR_a 314, aI_a z, trivial⟩ rfl rfl (by decide +kernel) (by decide +kernel) (by decide +kernel)
theorem p_fault (z : Int32) : Pair 98 190 [.int z] := pair_h (p1_fault z) q100 ux8 rfl rfl (by decide) (by decide) ⟨aR_a 0, aI_a z, trivial⟩ ⟨aR_a 314, aI_a z, trivial⟩ rfl rfl (by decide +kernel) (by decide +kernel) (by decide +kernel)
theorem p_walk (z : Int32) (y : Int32) : Pair 128 223 [.int z, .int y] := pair_h (p1_walk z y) q222 r145 rfl rfl (by decide) (by decide) ⟨aR_a 0, aI_a z, aI_a y, trivial⟩ ⟨aR_a 314, aI_a z, aI_a y, trivial⟩ rfl rfl (by decide +kernel) (by decide +kernel) (by decide +kernel)
theorem p_law (z : Int32) : Pair 104 208 [.int z] := pair_h (p1_law z) q119 r23 rfl rfl (by decide) (by decide) ⟨aR_a 0, aI_a z, trivial⟩ ⟨aR_a 314, aI_a z, trivial⟩ rfl rfl (by decide +kernel) (by decide +kernel) (by decide +kernel)
theorem p_council (z : Int32) : Pair 105 209 [.int z] := pair_h (p1_council z) q120 r25 rfl rfl (by decide) (by decide) ⟨aR_a 0, aI_a z, trivial⟩ ⟨aR_a 314, aI_a z, trivial⟩ rfl rfl (by decide +kernel) (by decide +kernel) (by decide +kernel)
theorem p_day : Pair 113 212 [] := pair_h (p1_day) q197 r69 rfl rfl (by decide) (by decide) ⟨aR_a 0, trivial⟩ ⟨aR_a 314, trivial⟩ rfl rfl (by decide +kernel) (by decide +kernel) (by decide +kernel)
theorem p_wall (z : Int32) : Pair 115 213 [.int z] := pair_h (p1_wall z) q198 r71 rfl rfl (by decide) (by decide) ⟨aR_a 0, aI_a z, trivial⟩ ⟨aR_a 314, aI_a z, trivial⟩ rfl rfl (by decide +kernel) (by decide +kernel) (by decide +kernel)
theorem p_lamp (z : Int32) : Pair 116 214 [.int z] := pair_h (p1_lamp z) q199 r72 rfl rfl (by decide) (by decide) ⟨aR_a 0, aI_a z, trivial⟩ ⟨aR_a 314, aI_a z, trivial⟩ rfl rfl (by decide +kernel) (by decide +kernel) (by decide +kernel)
theorem p_moves (z : Int32) (y : Int32) : Pair 117 215 [.int z, .int y] := pair_h (p1_moves z y) q201 r73 rfl rfl (by decide) (by decide) ⟨aR_a 0, aI_a z, aI_a y, trivial⟩ ⟨aR_a 314, aI_a z, aI_a y, trivial⟩ rfl rfl (by decide +kernel) (by decide +kernel) (by decide +kernel)
theorem p_preach (z : Int32) : Pair 118 216 [.int z] := pair_h (p1_preach z) q202 r74 rfl rfl (by decide) (by decide) ⟨aR_a 0, aI_a z, trivial⟩ ⟨aR_a 314, aI_a z, trivial⟩ rfl rfl (by decide +kernel) (by decide +kernel) (by decide +kernel)
theorem p_give (z : Int32) : Pair 119 217 [.int z] := pair_h (p1_give z) q203 r76 rfl rfl (by decide) (by decide) ⟨aR_a 0, aI_a z, trivial⟩ ⟨aR_a 314, aI_a z, trivial⟩ rfl rfl (by decide +kernel) (by decide +kernel) (by decide +kernel)
theorem p_years (z : Int32) (sd : Int64) : Pair 120 219 [.int z, .long sd] := pair_h (p1_years z sd) q209 r84 rfl rfl (by decide) (by decide) ⟨aR_a 0, aI_a z, aL_a sd, trivial⟩ ⟨aR_a 314, aI_a z, aL_a sd, trivial⟩ rfl rfl (by decide +kernel) (by decide +kernel) (by decide +kernel)
theorem p_undo : Pair 123 220 [] := pair_h (p1_undo) q213 und_ok rfl rfl (by decide) (by decide) ⟨aR_a 0, trivial⟩ ⟨aR_a 314, trivial⟩ rfl rfl (by decide +kernel) (by decide +kernel) (by decide +kernel)
theorem p_image : Pair 126 261 [] := pair_h (p1_image) q218 r223 rfl rfl (by decide) (by decide) ⟨aR_a 0, trivial⟩ ⟨aR_a 314, trivial⟩ rfl rfl (by decide +kernel) (by decide +kernel) (by decide +kernel)
theorem p_back : Pair 127 262 [] := pair_h (p1_back) q221 r224 rfl rfl (by decide) (by decide) ⟨aR_a 0, trivial⟩ ⟨aR_a 314, trivial⟩ rfl rfl (by decide +kernel) (by decide +kernel) (by decide +kernel)
theorem p_seen (z : Int32) (y : Int32) (hy : y = 0 ∨ y = 1) : Pair 136 233 [.int z, .int y] := by
  have hya : aH (fun _ => 0) (.int y) (aI 0 1) := Or.inr (Or.inl ⟨rfl, y, rfl, by rcases hy with h | h <;> rw [h] <;> decide, trivial⟩)
  exact pair_h (p1_seen z y hy) q251 r158 rfl rfl (by decide) (by decide) ⟨aR_a 0, aI_a z, hya, trivial⟩ ⟨aR_a 314, aI_a z, aI_a y, trivial⟩ rfl rfl (by decide +kernel) (by decide +kernel) (by decide +kernel)
theorem wkS_le {N : Nat} {t : Nat → Int32} : ∀ f n row h, h ≤ N → (wkS N t f n row h).2.2 ≤ N := by
  intro f
  induction f with
  | zero => exact fun n row h hh => sk_le hh
  | succ f ih =>
    intro n row h hh
    by_cases c : isStp (atv N t (sk N t h))
    · rw [wkS_go rfl c]
      exact ih _ _ _ (stp_lt c)
    · rw [wkS_no rfl c]
      exact sk_le hh
theorem wk_pos {N : Nat} {t : Nat → Int32} (hN : N ≤ 240) (h : FA N t 2 (-1)) : (wk0 N t).1 ≠ 0 := by
  have hb : (wk0 N t).2.2 ≤ N := wkS_le 16 0 (fun _ => 0) 0 (Nat.zero_le N)
  rcases h with ⟨a, -⟩ | ⟨a, -⟩ | ⟨-, h⟩ | ⟨-, -, a, -⟩
  · exact absurd a (by decide)
  · exact absurd a (by decide)
  · unfold wkV at h
    intro hz
    rw [if_neg (fun q => q.1 hz)] at h
    exact nI_ne1 (by omega) h.symm
  · exact absurd rfl a
theorem p_text (z : Int32) : Pair 99 191 [.int z] := by
  refine pair_u2 (p1_text z) (fun x hi => ?_)
  obtain ⟨hg, hj, hr, hs⟩ := id (Inv_1 hi)
  obtain ⟨N, L, K, e0, eL, eK, e1, e2, e3, e4, e5, e6, e7, e8, e9, e10⟩ := id hr
  refine ⟨fun x1 => gI tS tR x1 ∧ jM x1 ∧ (∀ a i, 314 ≤ a → x1.1 a i = x.1 a i) ∧ wlq x1, ?_, ?_⟩
  · refine xw_im (fC_and (xw_vc q108 (by decide) hg trivial ⟨aR_a 0, aI_a z, trivial⟩ rfl) (c_text hg e1 e0 rfl e6 eL e8 eK)) (fun rv x1 h => ?_)
    obtain ⟨g1, j1, fx⟩ := cx_st (by decide +kernel) hj h.1
    obtain ⟨ho, hb, hw, hk⟩ := h.2
    refine ⟨g1, j1, fx, fun K2 h1 h2 k hk9 => ?_⟩
    have old : x1.1 55 4 = nI K → x1.1 61 k ≠ 0 := fun e => by
      have eK2 : K2 = K := (nI_inj (by omega) (by omega)).mp (h1.symm.trans e)
      rw [(hk k (by omega)).1]
      exact (Inv_P hi) K e8 eK k (by omega)
    rcases ho with ⟨a1, a2, a3, a4, a5, a6⟩ | ⟨a0, a1, S, f, a2, a3, a4, a5, a6, a7⟩ | ⟨a0, a1, a2, a3, a4, a5, a6, a7⟩ | ⟨a0, a1, a2, a3, a4, a5, a6, a7⟩
    · exact old a6
    · exact old a7
    · exact old a7
    · have eK2 : K2 = K + 1 := (nI_inj (by omega) (by omega)).mp (h1.symm.trans a7)
      by_cases c : k = K
      · obtain ⟨b1, b2, b3⟩ := hw a1 a0 a2
        rw [c, b1]
        intro hz
        subst a1
        exact wk_pos e0 a0 ((nI_inj (by omega) (by omega)).mp hz)
      · rw [(hk k (by omega)).1]
        exact (Inv_P hi) K e8 eK k (by omega)
  · rintro x1 ⟨g1, j1, fx, ho⟩
    have f6 : x1.1 314 6 = nI N := by rw [fx 314 6 (by decide)]; exact e2
    have f15 : x1.1 315 = x.1 315 := funext fun j => fx 315 j (by decide)
    refine xw_im (fC_and (text_ok (d := 1200) (x := z) (by decide) g1 j1 (P := fun rv m' => True) (fun rv m' _ _ _ _ => trivial)) (fC_two (c_mtextD g1 j1 f6 e0 f15 e4) (c_mtext g1 j1 f6 e0 f15 e4 (by rw [fx 314 7 (by decide)]; exact e7) eL (by rw [fx 314 30 (by decide)]; exact e9) eK))) (fun rv x2 h => ?_)
    obtain ⟨-, ho2, -, -, -, -, fm⟩ := h
    exact wlq_ag ho (fun a i hk => fm a i (by omega))
theorem p_check (z y : Int32) : Pair 129 225 [.int z, .int y] := by
  refine pair_ans q225 r147 rfl rfl (by decide) (by decide) ⟨aR_a 0, aI_a z, aI_a y, trivial⟩ ⟨aR_a 314, aI_a z, aI_a y, trivial⟩ rfl rfl (by decide +kernel) (by decide +kernel) (by decide +kernel) (fun x hi => ?_)
  obtain ⟨hg, hj, hr, C, S, W, b, k, A, B, Y, w, ht⟩ := id (Inv_1 hi)
  obtain ⟨N, L, K, e0, eL, eK, e1, e2, e3, e4, e5, e6, e7, e8, e9, e10⟩ := id hr
  obtain ⟨h1, h2, h3, h4, h5, h6, h7, h8, h9, h10, -⟩ := id ht
  have hv : scV C S W w.1 := h8.1
  have hX : SX x 89 W w.1 := h9.1
  have hS12 := h1.2.2.2.1
  refine ⟨_, c_check hg h1 hX.1 (two_16 hS12 hv.1) e8 eK (fun k hk => by
    obtain ⟨-, n, n1, n2, -⟩ := e10 k hk
    exact ⟨n, n1, n2⟩), fun rv x1 ⟨v, h, _⟩ => ⟨v, h⟩, ?_⟩
  rintro rv x1 ⟨v, rfl, q⟩ i1 fx
  have hM1 := WM_1 h6 h10 fx
  refine ⟨_, c_mcheck i1.1.2 (mT_1 h2 fx) h3 (SM_0.mp hM1.1).1 (two_16 hS12 hv.1) (by rw [fx 314 30 (by decide)]; exact e9) eK (fun k hk => by
    obtain ⟨n0, n, n1, n2, -⟩ := e10 k hk
    refine ⟨n, ?_, n1, by rw [fx 325 k (by decide), ← n0]; exact n2⟩
    have := (Inv_P hi) K e8 eK k hk
    rcases Nat.eq_zero_or_pos n with z | z
    · rw [n2, z] at this
      exact absurd rfl this
    · exact z), ?_⟩
  rintro rv2 x2 ⟨v2, rfl, q2⟩
  have q3 := ckV_g (t := fun k i => x1.1 324 (16 * k + i)) (l2 := x1.1 325) (fun k hk => by
    obtain ⟨n0, n, n1, n2, n3⟩ := e10 k hk
    refine ⟨by rw [fx 325 k (by decide)]; exact n0, fun n9 hn9 en9 i hi9 => ?_⟩
    have : n9 = n := (nI_inj (by omega) (by omega)).mp (en9.symm.trans n2)
    show x.1 (57 + k) i = x1.1 324 (16 * k + i)
    rw [fx 324 _ (by decide)]
    exact n3 i (by omega)) q
  rw [ckV_1 eK q2 q3]
