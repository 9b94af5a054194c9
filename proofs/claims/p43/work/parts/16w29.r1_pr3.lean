/-! pairs over the scenes' relation: what an act does to it, told once -/
def relSB (a i : Nat) : Prop := (a = 0 ∧ i = 16) ∨ a = 3 ∨ (6 ≤ a ∧ a ≤ 23) ∨ (a = 84 ∧ i = 4) ∨ (a = 314 ∧ ((25 ≤ i ∧ i < 28) ∨ i = 35 ∨ i = 51)) ∨ a = 320
theorem relT_w {x x2 : xM} {C S W b k : Nat} {A B Y : Nat → Nat} {w w2 : Wd} (hr : relT x C S W b k A B Y w) (hv : wdV C S W w2) (hx : WX x2 W w2) (hm : WM x2 W w2) (h : ∀ a i, relSB a i → x2.1 a i = x.1 a i) : relS x2 := by
  unfold relSB at h
  obtain ⟨h1, h2, h3, h4, h5, h6, h7, h8, h9, h10, h11, h12, h13, h14, h15, h16⟩ := hr
  exact ⟨C, S, W, b, k, A, B, Y, w2, xT_3 h1 (fun a i z => h a i (by omega)), mT_f h2 (fun i => ⟨⟨h _ _ (by omega), h _ _ (by omega)⟩, h _ _ (by omega)⟩), h3, by rw [h _ _ (by omega)]; exact h4, by rw [h _ _ (by omega)]; exact h5, h6, h7, hv, hx, hm, by rw [h _ _ (by omega)]; exact h11, by rw [h _ _ (by omega)]; exact h12, h13, by rw [h _ _ (by omega)]; exact h14, by rw [h _ _ (by omega)]; exact h15, h16⟩
theorem relS_no {x : xM} (hs : relS x) {v : Int32} : relS (mI x 314 0 v) := relS_ag hs (fun a i hk => by
  unfold relSK at hk
  exact mI_ne (by omega))
theorem kp_f {x h : Nat} {m mk : xM} (hx : x < 40) (q : kpO x h m mk) : ∀ a i, ¬ (99 ≤ a ∧ a ≤ 300) → mk.1 a i = m.1 a i := by
  obtain ⟨m1, s1, -, -, -, k3⟩ := q
  exact fun a i c => by rw [k3 a i (by omega), s1.2.1 a i (by omega)]
theorem WX_act {m mk m' : xM} {W x : Nat} {s s2 : Sc} {ks : List Sc} {im : Option Sc} (hW : W ≤ 4) (hs : SX m 89 W s) (hR : RX m W x ks) (hi : IX m W im) (q : kpO x ks.length m mk) (h2 : SX m' 89 W s2) (f : ∀ a i, (a = 0 ∧ i = 15) ∨ (99 ≤ a ∧ a ≤ 300) ∨ (305 ≤ a ∧ a ≤ 309) → m'.1 a i = mk.1 a i) : WX m' W (s2, psh ks s, im) :=
  ⟨h2, ⟨nx1 x, RX_f (RX_psh hW hR hs q) (fun a i z1 z2 => f a i (by omega))⟩, IX_f hi (fun a i z => by rw [f a i (by omega), kp_f hR.1 q a i (by omega)])⟩
theorem WM_act {m mk m' : xM} {W : Nat} {s s2 : Sc} {ks : List Sc} {im : Option Sc} (hW : W ≤ 4) (hs : SM m 326 0 W s) (hR : RM m W ks) (hi : IM m W im) (q : rmO ks.length m mk) (h2 : SM m' 326 0 W s2) (f : ∀ a i, (a = 314 ∧ (i = 42 ∨ i = 53)) ∨ a = 331 ∨ a = 333 → m'.1 a i = mk.1 a i) : WM m' W (s2, psh ks s, im) :=
  ⟨h2, RM_f hW (RM_psh hW hR hs q) (fun a i z => f a i (by omega)), IM_f hW hi (fun a i z => by rw [f a i (by omega), q.2.1 a i (by omega) (by omega)])⟩
theorem psh_V {C S W : Nat} {s s2 : Sc} {ks : List Sc} {im : Option Sc} (h : wdV C S W (s, ks, im)) (h2 : scV C S W s2) : wdV C S W (s2, psh ks s, im) := by
  refine ⟨h2, fun t ht => ?_, h.2.2⟩
  replace ht : t ∈ psh ks s := ht
  unfold psh at ht
  rw [List.mem_append, List.mem_singleton] at ht
  rcases ht with ht | rfl
  · split at ht
    · exact h.2.1 t ht
    · exact h.2.1 t (List.mem_of_mem_tail ht)
  · exact h.1
theorem mT_1 {x x1 : xM} {C S : Nat} {A B Y : Nat → Nat} (h : mT x C S A B Y) (fx : ∀ a i, 314 ≤ a → x1.1 a i = x.1 a i) : mT x1 C S A B Y := mT_f h (fun i => ⟨⟨fx _ _ (by decide), fx _ _ (by decide)⟩, fx _ _ (by decide)⟩)
theorem WM_1 {x x1 : xM} {W : Nat} {w : Wd} (hW : W ≤ 4) (h : WM x W w) (fx : ∀ a i, 314 ≤ a → x1.1 a i = x.1 a i) : WM x1 W w := WM_f hW h (fun a i z => fx a i (by omega))
/-- an act of both sides -/
theorem act_S {x x1 x2 mk mr : xM} {C S W b k xx : Nat} {A B Y : Nat → Nat} {s s2 : Sc} {ks : List Sc} {im : Option Sc} (hr : relT x C S W b k A B Y (s, ks, im)) (hR : RX x W xx ks) (q : kpO xx ks.length x mk) (h2 : SX x1 89 W s2) (f : ∀ a i, (a = 0 ∧ (i = 15 ∨ i = 16)) ∨ a = 3 ∨ (6 ≤ a ∧ a ≤ 23) ∨ (a = 84 ∧ i = 4) ∨ (99 ≤ a ∧ a ≤ 300) ∨ (305 ≤ a ∧ a ≤ 309) → x1.1 a i = mk.1 a i) (fx : ∀ a i, 314 ≤ a → x1.1 a i = x.1 a i) (qm : rmO ks.length (mI x1 314 0 0) mr) (m2 : SM x2 326 0 W s2) (g : ∀ a i, (a = 314 ∧ ((25 ≤ i ∧ i < 28) ∨ i = 35 ∨ i = 42 ∨ i = 51 ∨ i = 53)) ∨ a = 320 ∨ a = 331 ∨ a = 333 → x2.1 a i = mr.1 a i) (fm : ∀ a i, a < 314 → x2.1 a i = x1.1 a i) (hv : scV C S W s2) : relS x2 := by
  obtain ⟨h1, h2', h3, h4, h5, h6, h7, h8, h9, h10, -⟩ := id hr
  have q0 : ∀ a i, 314 ≤ a → ¬ (a = 314 ∧ i = 0) → (mI x1 314 0 0).1 a i = x.1 a i := fun a i c1 c2 => by rw [mI_ne c2, fx a i c1]
  have hX : SX x 89 W s := h9.1
  have hI : IX x W im := h9.2.2
  have hM : SM (mI x1 314 0 0) 326 0 W s := SM_f h6 h10.1 (fun i _ => q0 _ _ (by omega) (by omega))
  have hN : RM (mI x1 314 0 0) W ks := RM_f h6 h10.2.1 (fun a i z => q0 _ _ (by omega) (by omega))
  have hJ : IM (mI x1 314 0 0) W im := IM_f h6 h10.2.2 (fun a i z => q0 _ _ (by omega) (by omega))
  have wx : WX x1 W (s2, psh ks s, im) := WX_act h6 hX hR hI q h2 (fun a i z => f a i (by omega))
  refine relT_w hr (psh_V h8 hv) (WX_f wx (fun a i z => fm a i (by omega))) (WM_act h6 hM hN hJ qm m2 (fun a i z => g a i (by omega))) (fun a i z => ?_)
  unfold relSB at z
  by_cases c : a < 314
  · rw [fm a i c, f a i (by omega), kp_f hR.1 q a i (by omega)]
  · rw [g a i (by omega), qm.2.1 a i (by omega) (by omega), q0 a i (by omega) (by omega)]
theorem pair_act {cx cm : aCt} {jx jm DX DM : Nat} {vs : List Value} (hX : vC tS tR jT DX cx) (hM : vC tS tR jM DM cm) (e1 : cx.1 = jx) (e2 : cm.1 = jm) (hDX : DX ≤ 1200) (hDM : DM ≤ 1200) (a1 : aMt (.ref 0 :: vs) cx.2.1) (a2 : aMt (.ref 314 :: vs) cm.2.1) (b1 : cx.2.2.1 = []) (b2 : cm.2.2.1 = []) (k1 : mdOk0 cx.2.2.2.2 = true) (k2 : mdOk0 cm.2.2.2.2 = true) (m1 : mdX cx.2.2.2.2 = true) (m2 : mdM cm.2.2.2.2 = true)
    (F : ∀ x, Inv1 x → ∃ XO : Option Value → xM → Prop, fC jx (.ref 0 :: vs) x XO ∧ (∀ rv x1, XO rv x1 → ∃ z : Int32, rv = some (.int z)) ∧ ∀ rv x1, XO rv x1 → gI tS tR x1 → jM x1 → (∀ a i, wm1 cx.2.2.2.2 a i = false → x1.1 a i = x.1 a i) → (∀ a i, 314 ≤ a → x1.1 a i = x.1 a i) → ∃ MO : Option Value → xM → Prop, fC jm (.ref 314 :: vs) x1 MO ∧ ∀ rv2 x2, MO rv2 x2 → (∀ a i, wm1 cm.2.2.2.2 a i = false → x2.1 a i = x1.1 a i) → (∀ a i, a < 314 → x2.1 a i = x1.1 a i) → rv2 = rv ∧ relS x2) : Pair1 jx jm vs := by
  subst e1 e2
  intro x hi
  obtain ⟨XO, f1, f2, f3⟩ := F x hi
  refine ⟨fun rv x1 => cPo tS tR cx x (.ref 0 :: vs) rv x1 ∧ XO rv x1, xw_im (fC_and (xw_vc hX hDX hi.1 trivial a1 b1) f1) (fun rv x1 h => ⟨f2 rv x1 h.2, h⟩), ?_⟩
  rintro rv x1 ⟨hp, ho⟩
  have i0 := inv_st0 (c := cx) k1 (Inv_0 hi) hp
  obtain ⟨g1, j1, fx⟩ := cx_st m1 hi.2.1 hp
  obtain ⟨MO, g2, g3⟩ := f3 rv x1 ho g1 j1 hp.2.1 fx
  refine xw_im (fC_and (xw_vc hM hDM g1 j1 a2 b2) g2) (fun rv2 x2 h => ?_)
  obtain ⟨p1, p2, p3⟩ := inv_st0 (c := cm) k2 i0 h.1
  obtain ⟨-, -, fm⟩ := cm_st m2 j1 h.1
  obtain ⟨q1, q2⟩ := g3 rv2 x2 h.2 h.1.2.1 fm
  exact ⟨q1, p1, p2, p3, q2⟩
/-! a scene changed at one place -/
def upN (f : Nat → Nat) (e u : Nat) : Nat → Nat := fun j => if j = e then u else f j
theorem upN_at {f : Nat → Nat} {e u : Nat} : upN f e u e = u := if_pos rfl
theorem upN_ne {f : Nat → Nat} {e u j : Nat} (h : j ≠ e) : upN f e u j = f j := if_neg h
theorem SX_ck {m : xM} {b W k : Nat} {s : Sc} (h : SX m b W s) : SX (mI m b 1 (nI k)) b W (s.1, k, s.2.2) := by
  obtain ⟨h1, h2, h3, h4, h5, h6⟩ := h
  exact ⟨by rw [mI_ne (by omega)]; exact h1, mI_at, by rw [mI_ne (by omega)]; exact h3, fun p hp => by rw [mI_ne (by omega), mI_ne (by omega)]; exact h4 p hp, fun e he => by rw [mI_ne (by omega)]; exact h5 e he, fun e he => by rw [mI_ne (by omega)]; exact h6 e he⟩
theorem SX_cw {m : xM} {b W v : Nat} {s : Sc} (h : SX m b W s) : SX (mI m b 0 (nI v)) b W (v, s.2) := by
  obtain ⟨h1, h2, h3, h4, h5, h6⟩ := h
  exact ⟨mI_at, by rw [mI_ne (by omega)]; exact h2, by rw [mI_ne (by omega)]; exact h3, fun p hp => by rw [mI_ne (by omega), mI_ne (by omega)]; exact h4 p hp, fun e he => by rw [mI_ne (by omega)]; exact h5 e he, fun e he => by rw [mI_ne (by omega)]; exact h6 e he⟩
theorem SX_cl {m : xM} {b c W e v : Nat} {s : Sc} (hc : c = b + 2) (h : SX m b W s) : SX (mI m c e (nI v)) b W (s.1, s.2.1, s.2.2.1, s.2.2.2.1, s.2.2.2.2.1, upN s.2.2.2.2.2 e v) := by
  subst hc
  obtain ⟨h1, h2, h3, h4, h5, h6⟩ := h
  refine ⟨by rw [mI_ne (by omega)]; exact h1, by rw [mI_ne (by omega)]; exact h2, by rw [mI_ne (by omega)]; exact h3, fun p hp => by rw [mI_ne (by omega), mI_ne (by omega)]; exact h4 p hp, fun j hj => ?_, fun e he => by rw [mI_ne (by omega)]; exact h6 e he⟩
  by_cases c : j = e
  · subst c; exact mI_at.trans (congrArg nI upN_at.symm)
  · rw [mI_ne (by omega)]; exact (h5 j hj).trans (congrArg nI (upN_ne c).symm)
theorem SX_ch {m : xM} {b c W e v : Nat} {s : Sc} (hc : c = b + 3) (h : SX m b W s) : SX (mI m c e (nI v)) b W (s.1, s.2.1, s.2.2.1, upN s.2.2.2.1 e v, s.2.2.2.2) := by
  subst hc
  obtain ⟨h1, h2, h3, h4, h5, h6⟩ := h
  refine ⟨by rw [mI_ne (by omega)]; exact h1, by rw [mI_ne (by omega)]; exact h2, by rw [mI_ne (by omega)]; exact h3, fun p hp => ⟨?_, by rw [mI_ne (by omega)]; exact (h4 p hp).2⟩, fun e he => by rw [mI_ne (by omega)]; exact h5 e he, fun e he => by rw [mI_ne (by omega)]; exact h6 e he⟩
  by_cases c : p = e
  · subst c; exact mI_at.trans (congrArg nI upN_at.symm)
  · rw [mI_ne (by omega)]; exact (h4 p hp).1.trans (congrArg nI (upN_ne c).symm)
theorem SX_cf {m : xM} {b c W e v : Nat} {s : Sc} (hc : c = b + 4) (h : SX m b W s) : SX (mI m c e (nI v)) b W (s.1, s.2.1, s.2.2.1, s.2.2.2.1, upN s.2.2.2.2.1 e v, s.2.2.2.2.2) := by
  subst hc
  obtain ⟨h1, h2, h3, h4, h5, h6⟩ := h
  refine ⟨by rw [mI_ne (by omega)]; exact h1, by rw [mI_ne (by omega)]; exact h2, by rw [mI_ne (by omega)]; exact h3, fun p hp => ⟨by rw [mI_ne (by omega)]; exact (h4 p hp).1, ?_⟩, fun e he => by rw [mI_ne (by omega)]; exact h5 e he, fun e he => by rw [mI_ne (by omega)]; exact h6 e he⟩
  by_cases c : p = e
  · subst c; exact mI_at.trans (congrArg nI upN_at.symm)
  · rw [mI_ne (by omega)]; exact (h4 p hp).2.trans (congrArg nI (upN_ne c).symm)
/-- the row of the reference, its places told without a base -/
theorem SM_0 {m : xM} {W : Nat} {s : Sc} : SM m 326 0 W s ↔ (m.1 326 24 = nI s.1 ∧ m.1 326 25 = nI s.2.1 ∧ m.1 326 26 = nI s.2.2.1 ∧ m.1 326 27 = nI (min 60 s.2.2.1) ∧ (∀ p, p < W → m.1 326 (16 + 2 * p) = nI (s.2.2.2.1 p) ∧ m.1 326 (17 + 2 * p) = nI (s.2.2.2.2.1 p)) ∧ ∀ e, e < 8 → m.1 326 (2 * e + 1) = nI (s.2.2.2.2.2 e)) := by
  unfold SM
  simp only [Nat.zero_add]
theorem SM_ck {m : xM} {W k : Nat} {s : Sc} (hW : W ≤ 4) (h : SM m 326 0 W s) : SM (mI m 326 25 (nI k)) 326 0 W (s.1, k, s.2.2) := by
  obtain ⟨h1, h2, h3, h4, h5, h6⟩ := SM_0.mp h
  exact SM_0.mpr ⟨by rw [mI_ne (by omega)]; exact h1, mI_at, by rw [mI_ne (by omega)]; exact h3, by rw [mI_ne (by omega)]; exact h4, fun p hp => by rw [mI_ne (by omega), mI_ne (by omega)]; exact h5 p hp, fun e he => by rw [mI_ne (by omega)]; exact h6 e he⟩
theorem SM_cw {m : xM} {W v : Nat} {s : Sc} (hW : W ≤ 4) (h : SM m 326 0 W s) : SM (mI m 326 24 (nI v)) 326 0 W (v, s.2) := by
  obtain ⟨h1, h2, h3, h4, h5, h6⟩ := SM_0.mp h
  exact SM_0.mpr ⟨mI_at, by rw [mI_ne (by omega)]; exact h2, by rw [mI_ne (by omega)]; exact h3, by rw [mI_ne (by omega)]; exact h4, fun p hp => by rw [mI_ne (by omega), mI_ne (by omega)]; exact h5 p hp, fun e he => by rw [mI_ne (by omega)]; exact h6 e he⟩
theorem SM_cl {m : xM} {W e v : Nat} {s : Sc} (hW : W ≤ 4) (he8 : e < 8) (h : SM m 326 0 W s) : SM (mI m 326 (2 * e + 1) (nI v)) 326 0 W (s.1, s.2.1, s.2.2.1, s.2.2.2.1, s.2.2.2.2.1, upN s.2.2.2.2.2 e v) := by
  obtain ⟨h1, h2, h3, h4, h5, h6⟩ := SM_0.mp h
  refine SM_0.mpr ⟨by rw [mI_ne (by omega)]; exact h1, by rw [mI_ne (by omega)]; exact h2, by rw [mI_ne (by omega)]; exact h3, by rw [mI_ne (by omega)]; exact h4, fun p hp => by rw [mI_ne (by omega), mI_ne (by omega)]; exact h5 p hp, fun j hj => ?_⟩
  by_cases c : j = e
  · subst c; exact mI_at.trans (congrArg nI upN_at.symm)
  · rw [mI_ne (by omega)]; exact (h6 j hj).trans (congrArg nI (upN_ne c).symm)
theorem SM_ch {m : xM} {W e v : Nat} {s : Sc} (hW : W ≤ 4) (he4 : e < 4) (h : SM m 326 0 W s) : SM (mI m 326 (16 + 2 * e) (nI v)) 326 0 W (s.1, s.2.1, s.2.2.1, upN s.2.2.2.1 e v, s.2.2.2.2) := by
  obtain ⟨h1, h2, h3, h4, h5, h6⟩ := SM_0.mp h
  refine SM_0.mpr ⟨by rw [mI_ne (by omega)]; exact h1, by rw [mI_ne (by omega)]; exact h2, by rw [mI_ne (by omega)]; exact h3, by rw [mI_ne (by omega)]; exact h4, fun p hp => ⟨?_, by rw [mI_ne (by omega)]; exact (h5 p hp).2⟩, fun j hj => by rw [mI_ne (by omega)]; exact h6 j hj⟩
  by_cases c : p = e
  · subst c; exact mI_at.trans (congrArg nI upN_at.symm)
  · rw [mI_ne (by omega)]; exact (h5 p hp).1.trans (congrArg nI (upN_ne c).symm)
theorem SM_cf {m : xM} {W e v : Nat} {s : Sc} (hW : W ≤ 4) (he4 : e < 4) (h : SM m 326 0 W s) : SM (mI m 326 (17 + 2 * e) (nI v)) 326 0 W (s.1, s.2.1, s.2.2.1, s.2.2.2.1, upN s.2.2.2.2.1 e v, s.2.2.2.2.2) := by
  obtain ⟨h1, h2, h3, h4, h5, h6⟩ := SM_0.mp h
  refine SM_0.mpr ⟨by rw [mI_ne (by omega)]; exact h1, by rw [mI_ne (by omega)]; exact h2, by rw [mI_ne (by omega)]; exact h3, by rw [mI_ne (by omega)]; exact h4, fun p hp => ⟨by rw [mI_ne (by omega)]; exact (h5 p hp).1, ?_⟩, fun j hj => by rw [mI_ne (by omega)]; exact h6 j hj⟩
  by_cases c : p = e
  · subst c; exact mI_at.trans (congrArg nI upN_at.symm)
  · rw [mI_ne (by omega)]; exact (h5 p hp).2.trans (congrArg nI (upN_ne c).symm)
theorem SM_rm {m mr : xM} {h W : Nat} {s : Sc} (hW : W ≤ 4) (hs : SM m 326 0 W s) (q : rmO h (mI m 314 0 0) mr) : SM mr 326 0 W s := SM_f hW hs (fun i hi => by rw [q.2.1 _ _ (by omega) (by omega), mI_ne (by omega)])
theorem SX_kp {m mk : xM} {x h W : Nat} {s : Sc} (hx : x < 40) (hs : SX m 89 W s) (q : kpO x h m mk) : SX mk 89 W s := SX_f hs (fun a i z1 z2 => kp_f hx q a i (by omega))
