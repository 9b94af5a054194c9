/-! calls that only tell -/
theorem pair_ans {cx cm : aCt} {jx jm DX DM : Nat} {vs : List Value} (hX : vC tS tR jT DX cx) (hM : vC tS tR jM DM cm) (e1 : cx.1 = jx) (e2 : cm.1 = jm) (hDX : DX ≤ 1200) (hDM : DM ≤ 1200) (a1 : aMt (.ref 0 :: vs) cx.2.1) (a2 : aMt (.ref 314 :: vs) cm.2.1) (b1 : cx.2.2.1 = []) (b2 : cm.2.2.1 = []) (k1 : mdOk cx.2.2.2.2 = true) (k2 : mdOk cm.2.2.2.2 = true) (m1 : mdX cx.2.2.2.2 = true)
    (F : ∀ x, Inv x → ∃ XO : Option Value → xM → Prop, fC jx (.ref 0 :: vs) x XO ∧ (∀ rv x1, XO rv x1 → ∃ z : Int32, rv = some (.int z)) ∧ ∀ rv x1, XO rv x1 → Inv x1 → (∀ a i, 314 ≤ a → x1.1 a i = x.1 a i) → ∃ MO : Option Value → xM → Prop, fC jm (.ref 314 :: vs) x1 MO ∧ ∀ rv2 x2, MO rv2 x2 → rv2 = rv) : Pair jx jm vs := by
  subst e1 e2
  intro x hi
  obtain ⟨XO, f1, f2, f3⟩ := F x hi
  refine ⟨fun rv x1 => cPo tS tR cx x (.ref 0 :: vs) rv x1 ∧ XO rv x1, xw_im (fC_and (xw_vc hX hDX hi.1 trivial a1 b1) f1) (fun rv x1 h => ⟨f2 rv x1 h.2, h⟩), ?_⟩
  rintro rv x1 ⟨hp, ho⟩
  have i1 : Inv x1 := inv_st (c := cx) k1 hi hp
  obtain ⟨-, -, fx⟩ := cx_st m1 hi.2.1 hp
  obtain ⟨MO, g2, g3⟩ := f3 rv x1 ho i1 fx
  exact xw_im (fC_and (xw_vc hM hDM i1.1 i1.2.1 a2 b2) g2) (fun rv2 x2 h => ⟨g3 rv2 x2 h.2, inv_st (c := cm) k2 i1 h.1⟩)
