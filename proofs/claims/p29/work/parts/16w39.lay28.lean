/-! what was seen is alike: laid over the scenes' relation -/
def sgt (x : xM) : Prop := ∃ k cs fs, sgX x k cs fs ∧ sgM x k cs fs
def sgK (a i : Nat) : Prop := (a = 84 ∧ i = 4) ∨ a = 85 ∨ a = 86 ∨ (a = 314 ∧ i = 51) ∨ a = 332
theorem sgt_ag {x x2 : xM} (hs : sgt x) (h : ∀ a i, sgK a i → x2.1 a i = x.1 a i) : sgt x2 := by
  obtain ⟨k, cs, fs, ⟨a1, a2, a3⟩, ⟨b1, b2, b3⟩⟩ := hs
  unfold sgK at h
  exact ⟨k, cs, fs, ⟨by rw [h 84 4 (by omega)]; exact a1, a2, fun j hj => by rw [h 85 j (by omega), h 86 j (by omega)]; exact a3 j hj⟩, ⟨by rw [h 314 51 (by omega)]; exact b1, b2, fun j hj => by rw [h 332 _ (by omega), h 332 _ (by omega)]; exact b3 j hj⟩⟩
theorem sgM_1 {x x2 : xM} {k : Nat} {cs : Nat → Nat} {fs : Nat → Bool} (hs : sgM x k cs fs) (h : ∀ a i, 314 ≤ a → x2.1 a i = x.1 a i) : sgM x2 k cs fs := by
  obtain ⟨b1, b2, b3⟩ := hs
  exact ⟨by rw [h 314 51 (by omega)]; exact b1, b2, fun j hj => by rw [h 332 _ (by omega), h 332 _ (by omega)]; exact b3 j hj⟩
def mdGq (q : Nat × Nat × Nat) : Bool := (!(Nat.beq q.1 84) || offB 4 5 q) && ((!(Nat.beq q.1 314) || offB 51 52 q) && (!(Nat.beq q.1 85) && (!(Nat.beq q.1 86) && !(Nat.beq q.1 332))))
theorem mdGq_ok {q : Nat × Nat × Nat} (h : mdGq q = true) : ∀ a i, sgK a i → ¬ (q.1 = a ∧ q.2.1 ≤ i ∧ i < q.2.2) := by
  unfold mdGq at h
  simp only [Bool.and_eq_true, Bool.or_eq_true, Bool.not_eq_true', beqF] at h
  obtain ⟨h1, h2, h3, h4, h5⟩ := h
  rintro a i hk ⟨e1, e2, e3⟩
  rcases hk with ⟨ka, ki⟩ | ka | ka | ⟨ka, ki⟩ | ka
  · rcases h1 with z | z
    · exact z (e1.trans ka)
    · have := offB_n z e2 e3 (by omega); omega
  · exact h3 (e1.trans ka)
  · exact h4 (e1.trans ka)
  · rcases h2 with z | z
    · exact z (e1.trans ka)
    · have := offB_n z e2 e3 (by omega); omega
  · exact h5 (e1.trans ka)
def mdG (md : List (Nat × Nat × Nat)) : Bool := md.all mdGq
theorem sgt_st {c : aCt} (h : mdG c.2.2.2.2 = true) {x x' : xM} {vs : List Value} {rv : Option Value} (hs : sgt x) (hp : cPo tS tR c x vs rv x') : sgt x' := sgt_ag hs (fun a i hk => hp.2.1 a i (wm_f (fun q hq z => mdGq_ok (List.all_eq_true.mp h q hq) a i hk ⟨z.1, z.2.1, z.2.2⟩)))
def Inv (x : xM) : Prop := gI tS tR x ∧ jM x ∧ rel x ∧ (relS x ∧ sgt x)
theorem Inv_1 {x : xM} (h : Inv x) : Inv1 x := ⟨h.1, h.2.1, h.2.2.1, h.2.2.2.1⟩
theorem Inv_P {x : xM} (h : Inv x) : sgt x := h.2.2.2.2
theorem Inv_of {x : xM} (h : Inv1 x) (g : sgt x) : Inv x := ⟨h.1, h.2.1, h.2.2.1, h.2.2.2, g⟩
def mdOk (md : List (Nat × Nat × Nat)) : Bool := mdOk1 md && mdG md
theorem inv_st {c : aCt} (h : mdOk c.2.2.2.2 = true) {x x' : xM} {vs : List Value} {rv : Option Value} (hi : Inv x) (hp : cPo tS tR c x vs rv x') : Inv x' := by
  unfold mdOk at h
  rw [Bool.and_eq_true] at h
  exact Inv_of (inv_st1 h.1 (Inv_1 hi) hp) (sgt_st h.2 (Inv_P hi) hp)
def Pair (jx jm : Nat) (vs : List Value) : Prop := ∀ x, Inv x → ∃ XF : Option Value → xM → Prop, xw 1200 jx (.ref 0 :: vs) x (fun rv x1 => (∃ z : Int32, rv = some (.int z)) ∧ XF rv x1) ∧ ∀ rv x1, XF rv x1 → xw 1200 jm (.ref 314 :: vs) x1 (fun rv2 x2 => rv2 = rv ∧ Inv x2)
theorem pair_u2 {jx jm : Nat} {vs : List Value} (hp : Pair1 jx jm vs) (hx : ∀ x, Inv x → ∃ X2 : xM → Prop, xw 1200 jx (.ref 0 :: vs) x (fun _ x1 => X2 x1) ∧ ∀ x1, X2 x1 → xw 1200 jm (.ref 314 :: vs) x1 (fun _ x2 => sgt x2)) : Pair jx jm vs := by
  intro x hi
  obtain ⟨XF, h1, h2⟩ := hp x (Inv_1 hi)
  obtain ⟨X2, g1, g2⟩ := hx x hi
  exact ⟨fun rv x1 => XF rv x1 ∧ X2 x1, xw_im (xw_cj _ _ _ _ _ _ h1 g1) (fun rv x1 h => ⟨h.1.1, h.1.2, h.2⟩), fun rv x1 h => xw_im (xw_cj _ _ _ _ _ _ (h2 rv x1 h.1) (g2 x1 h.2)) (fun rv2 x2 h => ⟨h.1.1, Inv_of h.1.2 h.2⟩)⟩
theorem pair_h {cx cm : aCt} {jx jm DX DM : Nat} {vs : List Value} (hp : Pair1 jx jm vs) (hX : vC tS tR jT DX cx) (hM : vC tS tR jM DM cm) (e1 : cx.1 = jx) (e2 : cm.1 = jm) (hDX : DX ≤ 1200) (hDM : DM ≤ 1200) (a1 : aMt (.ref 0 :: vs) cx.2.1) (a2 : aMt (.ref 314 :: vs) cm.2.1) (b1 : cx.2.2.1 = []) (b2 : cm.2.2.1 = []) (m1 : jmB (0, [], [], [], cx.2.2.2.2) = true) (m2 : mdG cx.2.2.2.2 = true) (m3 : mdG cm.2.2.2.2 = true) : Pair jx jm vs := by
  subst e1 e2
  refine pair_u2 hp (fun x hi => ⟨fun x1 => gI tS tR x1 ∧ jM x1 ∧ sgt x1, ?_, fun x1 h => ?_⟩)
  · exact xw_im (xw_vc hX hDX hi.1 trivial a1 b1) (fun rv x1 h => ⟨h.1, jM_st (c := (0, [], [], [], cx.2.2.2.2)) m1 x x1 h.2.1 hi.2.1, sgt_st m2 (Inv_P hi) h⟩)
  · exact xw_im (xw_vc hM hDM h.1 h.2.1 a2 b2) (fun rv x2 h2 => sgt_st m3 h.2.2 h2)
theorem pair_ans {cx cm : aCt} {jx jm DX DM : Nat} {vs : List Value} (hX : vC tS tR jT DX cx) (hM : vC tS tR jM DM cm) (e1 : cx.1 = jx) (e2 : cm.1 = jm) (hDX : DX ≤ 1200) (hDM : DM ≤ 1200) (a1 : aMt (.ref 0 :: vs) cx.2.1) (a2 : aMt (.ref 314 :: vs) cm.2.1) (b1 : cx.2.2.1 = []) (b2 : cm.2.2.1 = []) (k1 : mdOk cx.2.2.2.2 = true) (k2 : mdOk cm.2.2.2.2 = true) (m1 : mdX cx.2.2.2.2 = true)
    (F : ∀ x, Inv x → ∃ XO : Option Value → xM → Prop, fC jx (.ref 0 :: vs) x XO ∧ (∀ rv x1, XO rv x1 → ∃ z : Int32, rv = some (.int z)) ∧ ∀ rv x1, XO rv x1 → Inv x1 → (∀ a i, 314 ≤ a → x1.1 a i = x.1 a i) → ∃ MO : Option Value → xM → Prop, fC jm (.ref 314 :: vs) x1 MO ∧ ∀ rv2 x2, MO rv2 x2 → rv2 = rv) : Pair jx jm vs := by
  subst e1 e2
  intro x hi
  obtain ⟨XO, f1, f2, f3⟩ := F x hi
  refine ⟨fun rv x1 => cPo tS tR cx x (.ref 0 :: vs) rv x1 ∧ XO rv x1, xw_im (fC_and (xw_vc hX hDX hi.1 trivial a1 b1) f1) (fun rv x1 h => ⟨f2 rv x1 h.2, h⟩), ?_⟩
  rintro rv x1 ⟨hp, ho⟩
  have i1 : Inv x1 := inv_st (c := cx) k1 hi hp
  obtain ⟨-, -, fx⟩ := cx_st m1 hi.2.1 hp
  obtain ⟨MO, g2, g3⟩ := f3 rv x1 ho i1 fx
  exact xw_im (fC_and (xw_vc hM hDM i1.1 i1.2.1 a2 b2) g2) (fun rv2 x2 h => ⟨g3 rv2 x2 h.2, inv_st (c := cm) k2 i1 h.1⟩)
def ysP (z : List (Nat × Nat × Int32)) : Bool := decide (yI z 84 4 = 0) && decide (yI z 314 51 = 0)
theorem ysP_ok {z : yS} (h : ysP z.1 = true) : sgt (ym z) := by
  unfold ysP at h
  rw [Bool.and_eq_true] at h
  exact ⟨0, fun _ => 0, fun _ => false, ⟨of_decide_eq_true h.1, by decide, fun j hj => absurd hj (Nat.not_lt_zero j)⟩, ⟨of_decide_eq_true h.2, by decide, fun j hj => absurd hj (Nat.not_lt_zero j)⟩⟩
theorem P_wk {x u : xM} (h : sgt x) (e : u.1 = x.1) : sgt u := sgt_ag h (fun a i _ => by rw [e])
theorem p_feed (a : Int32) (b : Int32) (c : Int32) (e : Int32) (g : Int32) : Pair 96 160 [.int a, .int b, .int c, .int e, .int g] := pair_h (p1_feed a b c e g) q2 feed_ok rfl rfl (by decide) (by decide) ⟨aR_a 0, aI_a a, aI_a b, aI_a c, aI_a e, aI_a g, trivial⟩ ⟨aR_a 314, aI_a a, aI_a b, aI_a c, aI_a e, aI_a g, trivial⟩ rfl rfl (by decide +kernel) (by decide +kernel) (by decide +kernel)
theorem p_end (z : Int32) : Pair 97 161 [.int z] := pair_h (p1_end z) q3 r0 rfl rfl (by decide) (by decide) ⟨aR_a 0, aI_a z, trivial⟩ ⟨aR_a 314, aI_a z, trivial⟩ rfl rfl (by decide +kernel) (by decide +kernel) (by decide +kernel)
theorem p_fault (z : Int32) : Pair 98 190 [.int z] := pair_h (p1_fault z) q100 ux8 rfl rfl (by decide) (by decide) ⟨aR_a 0, aI_a z, trivial⟩ ⟨aR_a 314, aI_a z, trivial⟩ rfl rfl (by decide +kernel) (by decide +kernel) (by decide +kernel)
theorem p_walk (z : Int32) (y : Int32) : Pair 128 223 [.int z, .int y] := pair_h (p1_walk z y) q222 r145 rfl rfl (by decide) (by decide) ⟨aR_a 0, aI_a z, aI_a y, trivial⟩ ⟨aR_a 314, aI_a z, aI_a y, trivial⟩ rfl rfl (by decide +kernel) (by decide +kernel) (by decide +kernel)
theorem p_law (z : Int32) : Pair 104 208 [.int z] := pair_h (p1_law z) q119 r23 rfl rfl (by decide) (by decide) ⟨aR_a 0, aI_a z, trivial⟩ ⟨aR_a 314, aI_a z, trivial⟩ rfl rfl (by decide +kernel) (by decide +kernel) (by decide +kernel)
theorem p_council (z : Int32) : Pair 105 209 [.int z] := pair_h (p1_council z) q120 r25 rfl rfl (by decide) (by decide) ⟨aR_a 0, aI_a z, trivial⟩ ⟨aR_a 314, aI_a z, trivial⟩ rfl rfl (by decide +kernel) (by decide +kernel) (by decide +kernel)
theorem p_day : Pair 113 212 [] := pair_h (p1_day) q197 r69 rfl rfl (by decide) (by decide) ⟨aR_a 0, trivial⟩ ⟨aR_a 314, trivial⟩ rfl rfl (by decide +kernel) (by decide +kernel) (by decide +kernel)
theorem p_wall (z : Int32) : Pair 115 213 [.int z] := pair_h (p1_wall z) q198 r71 rfl rfl (by decide) (by decide) ⟨aR_a 0, aI_a z, trivial⟩ ⟨aR_a 314, aI_a z, trivial⟩ rfl rfl (by decide +kernel) (by decide +kernel) (by decide +kernel)
theorem p_lamp (z : Int32) : Pair 116 214 [.int z] := pair_h (p1_lamp z) q199 r72 rfl rfl (by decide) (by decide) ⟨aR_a 0, aI_a z, trivial⟩ ⟨aR_a 314, aI_a z, trivial⟩ rfl rfl (by decide +kernel) (by decide +kernel) (by decide +kernel)
theorem p_moves (z : Int32) (y : Int32) : Pair 117 215 [.int z, .int y] := pair_h (p1_moves z y) q201 r73 rfl rfl (by decide) (by decide) ⟨aR_a 0, aI_a z, aI_a y, trivial⟩ ⟨aR_a 314, aI_a z, aI_a y, trivial⟩ rfl rfl (by decide +kernel) (by decide +kernel) (by decide +kernel)
theorem p_preach (z : Int32) : Pair 118 216 [.int z] := pair_h (p1_preach z) q202 r74 rfl rfl (by decide) (by decide) ⟨aR_a 0, aI_a z, trivial⟩ ⟨aR_a 314, aI_a z, trivial⟩ rfl rfl (by decide +kernel) (by decide +kernel) (by decide +kernel)
theorem p_give (z : Int32) : Pair 119 217 [.int z] := pair_h (p1_give z) q203 r76 rfl rfl (by decide) (by decide) ⟨aR_a 0, aI_a z, trivial⟩ ⟨aR_a 314, aI_a z, trivial⟩ rfl rfl (by decide +kernel) (by decide +kernel) (by decide +kernel)
theorem p_years (z : Int32) (sd : Int64) : Pair 120 219 [.int z, .long sd] := pair_h (p1_years z sd) q209 r84 rfl rfl (by decide) (by decide) ⟨aR_a 0, aI_a z, aL_a sd, trivial⟩ ⟨aR_a 314, aI_a z, aL_a sd, trivial⟩ rfl rfl (by decide +kernel) (by decide +kernel) (by decide +kernel)
theorem p_undo : Pair 123 220 [] := pair_h (p1_undo) q213 und_ok rfl rfl (by decide) (by decide) ⟨aR_a 0, trivial⟩ ⟨aR_a 314, trivial⟩ rfl rfl (by decide +kernel) (by decide +kernel) (by decide +kernel)
theorem p_image : Pair 126 261 [] := pair_h (p1_image) q218 r223 rfl rfl (by decide) (by decide) ⟨aR_a 0, trivial⟩ ⟨aR_a 314, trivial⟩ rfl rfl (by decide +kernel) (by decide +kernel) (by decide +kernel)
theorem p_back : Pair 127 262 [] := pair_h (p1_back) q221 r224 rfl rfl (by decide) (by decide) ⟨aR_a 0, trivial⟩ ⟨aR_a 314, trivial⟩ rfl rfl (by decide +kernel) (by decide +kernel) (by decide +kernel)
theorem p_text (z : Int32) : Pair 99 191 [.int z] := by
  refine pair_u2 (p1_text z) (fun x hi => ?_)
  obtain ⟨hg, hj, hr, hs⟩ := id (Inv_1 hi)
  obtain ⟨N, L, K, e0, eL, eK, e1, e2, e3, e4, e5, e6, e7, e8, e9, e10⟩ := id hr
  obtain ⟨k0, cs, fs, gX, gM⟩ := id (Inv_P hi)
  refine ⟨fun x1 => gI tS tR x1 ∧ jM x1 ∧ (∀ a i, 314 ≤ a → x1.1 a i = x.1 a i) ∧ ((¬ (z = 0 ∧ FA N (x.1 2) z (-1)) ∧ ∀ a i, 84 ≤ a → a ≤ 86 → x1.1 a i = x.1 a i) ∨ ((z = 0 ∧ FA N (x.1 2) z (-1)) ∧ x1.1 84 4 = nI 0)), ?_, ?_⟩
  · refine xw_im (fC_and (xw_vc q108 (by decide) hg trivial ⟨aR_a 0, aI_a z, trivial⟩ rfl) (c_textD hg e1 e0 rfl)) (fun rv x1 h => ?_)
    obtain ⟨g1, j1, fx⟩ := cx_st (by decide +kernel) hj h.1
    refine ⟨g1, j1, fx, ?_⟩
    rcases h.2 with ⟨a, b⟩ | ⟨a, S, f, t1, t2, t3⟩
    · exact Or.inl ⟨a, fun a i h1 h2 => b a i (by omega)⟩
    · exact Or.inr ⟨⟨a, FA_tw a t1⟩, t2.2.2.2.2.2.2.1⟩
  · rintro x1 ⟨g1, j1, fx, ho⟩
    have f6 : x1.1 314 6 = nI N := by rw [fx 314 6 (by decide)]; exact e2
    have f15 : x1.1 315 = x.1 315 := funext fun j => fx 315 j (by decide)
    refine xw_im (fC_and (text_ok (d := 1200) (x := z) (by decide) g1 j1 (P := fun rv m' => True) (fun rv m' _ _ _ _ => trivial)) (fC_two (c_mtextD g1 j1 f6 e0 f15 e4) (c_mtext g1 j1 f6 e0 f15 e4 (by rw [fx 314 7 (by decide)]; exact e7) eL (by rw [fx 314 30 (by decide)]; exact e9) eK))) (fun rv x2 h => ?_)
    obtain ⟨-, ho2, -, -, -, -, fm⟩ := h
    rw [e3] at ho
    rcases ho with ⟨a1, b1⟩ | ⟨a1, b1⟩ <;> rcases ho2 with ⟨a2, mk⟩ | ⟨a2, S2, f2, t1, t2, t3⟩
    · refine sgt_ag (Inv_P hi) (fun a i hk => ?_)
      unfold sgK at hk
      by_cases c : a < 314
      · rw [fm a i c, b1 a i (by omega) (by omega)]
      · rw [mk a i (by omega), fx a i (by omega)]
    · exact absurd ⟨a2, FA_tw a2 t1⟩ a1
    · exact absurd a1 a2
    · exact ⟨0, cs, fs, ⟨by rw [fm 84 4 (by decide)]; exact b1, by decide, fun j hj => absurd hj (Nat.not_lt_zero j)⟩, ⟨t2.2.2.2.2.2.1, by decide, fun j hj => absurd hj (Nat.not_lt_zero j)⟩⟩
def sgU {α : Type} (f : Nat → α) (k : Nat) (v : α) (j : Nat) : α := if j = k then v else f j
theorem sgU_at {α : Type} {f : Nat → α} {k : Nat} {v : α} : sgU f k v k = v := if_pos rfl
theorem sgU_ne {α : Type} {f : Nat → α} {k j : Nat} {v : α} (h : ¬ j = k) : sgU f k v j = f j := if_neg h
theorem sg_new {x : xM} {k e : Nat} {b : Bool} {cs : Nat → Nat} {fs : Nat → Bool} (gX : sgX x k cs fs) (gM : sgM x k cs fs) (he : e < 8) (hk : k < 10) : sgt (sgV (mI (sgW x k e b) 314 0 0) k e b) := by
  obtain ⟨a1, a2, a3⟩ := gX
  obtain ⟨b1, b2, b3⟩ := gM
  unfold sgV sgW
  refine ⟨k + 1, sgU cs k e, sgU fs k b, ⟨?_, by omega, fun j hj => ?_⟩, ⟨?_, by omega, fun j hj => ?_⟩⟩
  · rw [mI_ne (by omega), mI_ne (by omega), mI_ne (by omega), mI_ne (by omega), mI_at]
  · have r85 : (mI (mI (mI (mI (mI (mI (mI x 85 k (nI e)) 86 k (sgI9 b)) 84 4 (nI (k + 1))) 314 0 0) 332 (2 * k) (nI e)) 332 (2 * k + 1) (sgI9 b)) 314 51 (nI (k + 1))).1 85 j = (mI x 85 k (nI e)).1 85 j := by rw [mI_ne (by omega), mI_ne (by omega), mI_ne (by omega), mI_ne (by omega), mI_ne (by omega), mI_ne (by omega)]
    have r86 : (mI (mI (mI (mI (mI (mI (mI x 85 k (nI e)) 86 k (sgI9 b)) 84 4 (nI (k + 1))) 314 0 0) 332 (2 * k) (nI e)) 332 (2 * k + 1) (sgI9 b)) 314 51 (nI (k + 1))).1 86 j = (mI (mI x 85 k (nI e)) 86 k (sgI9 b)).1 86 j := by rw [mI_ne (by omega), mI_ne (by omega), mI_ne (by omega), mI_ne (by omega), mI_ne (by omega)]
    rw [r85, r86]
    by_cases c : j = k
    · rw [c, sgU_at, sgU_at, mI_at, mI_at]
      exact ⟨he, rfl, rfl⟩
    · rw [sgU_ne c, sgU_ne c, mI_ne (show ¬ (85 = 85 ∧ j = k) by omega), mI_ne (show ¬ (86 = 86 ∧ j = k) by omega), mI_ne (by omega)]
      exact a3 j (by omega)
  · rw [mI_at]
  · rw [mI_ne (by omega), mI_ne (a := 314) (i := 51) (by omega)]
    by_cases c : j = k
    · rw [c, sgU_at, sgU_at, mI_ne (by omega), mI_at, mI_at]
      exact ⟨he, rfl, rfl⟩
    · rw [sgU_ne c, sgU_ne c, mI_ne (by omega), mI_ne (by omega), mI_ne (by omega), mI_ne (by omega), mI_ne (by omega), mI_ne (by omega), mI_ne (by omega), mI_ne (by omega), mI_ne (by omega), mI_ne (by omega), mI_ne (by omega), mI_ne (by omega)]
      exact b3 j (by omega)
theorem p_seen (z y : Int32) (hy : y = 0 ∨ y = 1) : Pair 136 233 [.int z, .int y] := by
  refine pair_u2 (p1_seen z y hy) (fun x hi => ?_)
  obtain ⟨b, hb⟩ : ∃ b, y = sgI9 b := by
    rcases hy with h | h
    · exact ⟨false, h⟩
    · exact ⟨true, h⟩
  rw [hb]
  obtain ⟨hg, hj, hr, C, S, W, bb, k, A, B, Y, w, ht⟩ := id (Inv_1 hi)
  obtain ⟨h1, h2, -⟩ := id ht
  obtain ⟨k0, cs, fs, gX, gM⟩ := id (Inv_P hi)
  have hC8 := h1.2.2.1
  have hya : aH (fun _ => 0) (.int (sgI9 b)) (aI 0 1) := Or.inr (Or.inl ⟨rfl, _, rfl, by cases b <;> decide, trivial⟩)
  refine ⟨fun x1 => gI tS tR x1 ∧ jM x1 ∧ (∀ a i, 314 ≤ a → x1.1 a i = x.1 a i) ∧ ((¬ ((∃ e, e < C ∧ z = nI e) ∧ k0 < 10) ∧ x1 = x) ∨ ∃ e, e < C ∧ z = nI e ∧ k0 < 10 ∧ x1 = sgW x k0 e b), ?_, ?_⟩
  · refine xw_im (fC_and (xw_vc q251 (by decide) hg trivial ⟨aR_a 0, aI_a z, hya, trivial⟩ rfl) (c_seenD hg.2 h1.1 hC8 gX.1 gX.2.1)) (fun rv x1 h => ?_)
    obtain ⟨g1, j1, fx⟩ := cx_st (c := q251c) (by decide +kernel) hj h.1
    exact ⟨g1, j1, fx, h.2⟩
  · rintro x1 ⟨g1, j1, fx, ho⟩
    refine xw_im (fC_and (xw_vc r158 (by decide) g1 j1 ⟨aR_a 314, aI_a z, aI_a _, trivial⟩ rfl) (c_mseenD g1.2 (by rw [fx 314 25 (by decide)]; exact h2.1) hC8 (by rw [fx 314 51 (by decide)]; exact gM.1) gM.2.1)) (fun rv x2 h => ?_)
    rcases ho with ⟨a1, e1⟩ | ⟨e, he, ez, hk, e1⟩ <;> rcases h.2 with ⟨a2, e2⟩ | ⟨f, hf, fz, hk2, e2⟩
    · rw [e2, e1]
      exact sgt_ag (Inv_P hi) (fun a i hk => mI_ne (by unfold sgK at hk; omega))
    · exact absurd ⟨⟨f, hf, fz⟩, hk2⟩ a1
    · exact absurd ⟨⟨e, he, ez⟩, hk⟩ a2
    · have ef : f = e := (nI_inj (by omega) (by omega)).mp (fz.symm.trans ez)
      rw [e2, e1, ef]
      exact sg_new gX gM (by omega) hk
theorem p_knocked (z : Int32) : Pair 137 237 [.int z] := by
  refine pair_ans q254 r163 rfl rfl (by decide) (by decide) ⟨aR_a 0, aI_a z, trivial⟩ ⟨aR_a 314, aI_a z, trivial⟩ rfl rfl (by decide +kernel) (by decide +kernel) (by decide +kernel) (fun x hi => ?_)
  obtain ⟨hg, hj, hr, C, S, W, b, k, A, B, Y, w, ht⟩ := id (Inv_1 hi)
  obtain ⟨h1, h2, h3, h4, h5, h6, h7, h8, h9, h10, -⟩ := id ht
  obtain ⟨k0, cs, fs, gX, gM⟩ := id (Inv_P hi)
  have hv : scV C S W w.1 := h8.1
  have hX : SX x 89 W w.1 := h9.1
  have hS12 := h1.2.2.2.1
  refine ⟨_, c_knocked hg.2 h1 hX.1 (two_16 hS12 hv.1) gX, fun rv x1 ⟨v, h, _⟩ => ⟨v, h⟩, ?_⟩
  rintro rv x1 ⟨v, rfl, q⟩ i1 fx
  have hM1 := WM_1 h6 h10 fx
  refine ⟨_, c_mknocked i1.1.2 (mT_1 h2 fx) h3 (SM_0.mp hM1.1).1 (two_16 hS12 hv.1) (sgM_1 gM fx), ?_⟩
  rintro rv2 x2 ⟨v2, rfl, q2⟩
  rw [knV_1 q2 q]
theorem p_ask : Pair 138 238 [] := by
  refine pair_ans q257 r171 rfl rfl (by decide) (by decide) ⟨aR_a 0, trivial⟩ ⟨aR_a 314, trivial⟩ rfl rfl (by decide +kernel) (by decide +kernel) (by decide +kernel) (fun x hi => ?_)
  obtain ⟨hg, hj, hr, C, S, W, b, k, A, B, Y, w, ht⟩ := id (Inv_1 hi)
  obtain ⟨h1, h2, h3, h4, h5, h6, h7, h8, h9, h10, -⟩ := id ht
  obtain ⟨k0, cs, fs, gX, gM⟩ := id (Inv_P hi)
  have hv : scV C S W w.1 := h8.1
  have hX : SX x 89 W w.1 := h9.1
  have hS12 := h1.2.2.2.1
  refine ⟨_, c_ask hg.2 h1 hX.1 (two_16 hS12 hv.1) gX, fun rv x1 ⟨v, h, _⟩ => ⟨v, h⟩, ?_⟩
  rintro rv x1 ⟨v, rfl, q⟩ i1 fx
  have hM1 := WM_1 h6 h10 fx
  refine ⟨_, c_mwhere i1.1.2 (mT_1 h2 fx) h3 (SM_0.mp hM1.1).1 (two_16 hS12 hv.1) (sgM_1 gM fx), ?_⟩
  rintro rv2 x2 ⟨v2, rfl, q2⟩
  rw [akV_1 q2 q]
