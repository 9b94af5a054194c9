/-! the invariant with more that stays alike, laid over the pairs -/
def mdS (md : List (Nat × Nat × Nat)) : Bool := md.all mdSq
theorem mdS_ok {md : List (Nat × Nat × Nat)} (h : mdS md = true) : ∀ a i, relSK a i → wm1 md a i = false := fun a i hk => wm_f (fun q hq => mdSq_ok (List.all_eq_true.mp h q hq) a i hk)
def Inv1 (x : xM) : Prop := gI tS tR x ∧ jM x ∧ rel x ∧ relS x
theorem Inv_0 {x : xM} (h : Inv1 x) : Inv0 x := ⟨h.1, h.2.1, h.2.2.1⟩
def mdOk1 (md : List (Nat × Nat × Nat)) : Bool := mdOk0 md && mdS md
theorem inv_st1 {c : aCt} (h : mdOk1 c.2.2.2.2 = true) {x x' : xM} {vs : List Value} {rv : Option Value} (hi : Inv1 x) (hp : cPo tS tR c x vs rv x') : Inv1 x' := by
  unfold mdOk1 at h
  rw [Bool.and_eq_true] at h
  obtain ⟨a1, a2, a3⟩ := inv_st0 h.1 (Inv_0 hi) hp
  exact ⟨a1, a2, a3, relS_ag hi.2.2.2 (fun a i hk => hp.2.1 a i (mdS_ok h.2 a i hk))⟩
def Pair1 (jx jm : Nat) (vs : List Value) : Prop := ∀ x, Inv1 x → ∃ XF : Option Value → xM → Prop, xw 1200 jx (.ref 0 :: vs) x (fun rv x1 => (∃ z : Int32, rv = some (.int z)) ∧ XF rv x1) ∧ ∀ rv x1, XF rv x1 → xw 1200 jm (.ref 314 :: vs) x1 (fun rv2 x2 => rv2 = rv ∧ Inv1 x2)
theorem pair_up {jx jm : Nat} {vs : List Value} (hp : Pair0 jx jm vs) (hx : ∀ x, Inv1 x → ∃ X2 : xM → Prop, xw 1200 jx (.ref 0 :: vs) x (fun _ x1 => X2 x1) ∧ ∀ x1, X2 x1 → xw 1200 jm (.ref 314 :: vs) x1 (fun _ x2 => relS x2)) : Pair1 jx jm vs := by
  intro x hi
  obtain ⟨XF, h1, h2⟩ := hp x (Inv_0 hi)
  obtain ⟨X2, g1, g2⟩ := hx x hi
  refine ⟨fun rv x1 => XF rv x1 ∧ X2 x1, xw_im (xw_cj _ _ _ _ _ _ h1 g1) (fun rv x1 h => ⟨h.1.1, h.1.2, h.2⟩), fun rv x1 h => xw_im (xw_cj _ _ _ _ _ _ (h2 rv x1 h.1) (g2 x1 h.2)) (fun rv2 x2 h => ⟨h.1.1, h.1.2.1, h.1.2.2.1, h.1.2.2.2, h.2⟩)⟩
theorem pair_fr {cx cm : aCt} {jx jm DX DM : Nat} {vs : List Value} (hp : Pair0 jx jm vs) (hX : vC tS tR jT DX cx) (hM : vC tS tR jM DM cm) (e1 : cx.1 = jx) (e2 : cm.1 = jm) (hDX : DX ≤ 1200) (hDM : DM ≤ 1200) (a1 : aMt (.ref 0 :: vs) cx.2.1) (a2 : aMt (.ref 314 :: vs) cm.2.1) (b1 : cx.2.2.1 = []) (b2 : cm.2.2.1 = []) (m1 : jmB (0, [], [], [], cx.2.2.2.2) = true) (m2 : mdS cx.2.2.2.2 = true) (m3 : mdS cm.2.2.2.2 = true) : Pair1 jx jm vs := by
  subst e1 e2
  refine pair_up hp (fun x hi => ⟨fun x1 => gI tS tR x1 ∧ jM x1 ∧ relS x1, ?_, fun x1 h => ?_⟩)
  · exact xw_im (xw_vc hX hDX hi.1 trivial a1 b1) (fun rv x1 h => ⟨h.1, jM_st (c := (0, [], [], [], cx.2.2.2.2)) m1 x x1 h.2.1 hi.2.1, relS_ag hi.2.2.2 (fun a i hk => h.2.1 a i (mdS_ok m2 a i hk))⟩)
  · exact xw_im (xw_vc hM hDM h.1 h.2.1 a2 b2) (fun rv x2 h2 => relS_ag h.2.2 (fun a i hk => h2.2.1 a i (mdS_ok m3 a i hk)))
theorem p1_feed (a b c e g : Int32) : Pair1 96 160 [.int a, .int b, .int c, .int e, .int g] := pair_fr (p0_feed a b c e g) q2 feed_ok rfl rfl (by decide) (by decide) ⟨aR_a 0, aI_a a, aI_a b, aI_a c, aI_a e, aI_a g, trivial⟩ ⟨aR_a 314, aI_a a, aI_a b, aI_a c, aI_a e, aI_a g, trivial⟩ rfl rfl (by decide +kernel) (by decide +kernel) (by decide +kernel)
theorem p1_end (z : Int32) : Pair1 97 161 [.int z] := pair_fr (p0_end z) q3 r0 rfl rfl (by decide) (by decide) ⟨aR_a 0, aI_a z, trivial⟩ ⟨aR_a 314, aI_a z, trivial⟩ rfl rfl (by decide +kernel) (by decide +kernel) (by decide +kernel)
theorem p1_law (z : Int32) : Pair1 104 208 [.int z] := pair_fr (p0_law z) q119 r23 rfl rfl (by decide) (by decide) ⟨aR_a 0, aI_a z, trivial⟩ ⟨aR_a 314, aI_a z, trivial⟩ rfl rfl (by decide +kernel) (by decide +kernel) (by decide +kernel)
theorem p1_fault (z : Int32) : Pair1 98 190 [.int z] := pair_fr (p0_fault z) q100 ux8 rfl rfl (by decide) (by decide) ⟨aR_a 0, aI_a z, trivial⟩ ⟨aR_a 314, aI_a z, trivial⟩ rfl rfl (by decide +kernel) (by decide +kernel) (by decide +kernel)
theorem p1_walk (z y : Int32) : Pair1 128 223 [.int z, .int y] := pair_fr (p0_walk z y) q222 r145 rfl rfl (by decide) (by decide) ⟨aR_a 0, aI_a z, aI_a y, trivial⟩ ⟨aR_a 314, aI_a z, aI_a y, trivial⟩ rfl rfl (by decide +kernel) (by decide +kernel) (by decide +kernel)
