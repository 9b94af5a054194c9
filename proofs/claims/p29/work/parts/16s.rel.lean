/-! the two objects side by side: what stays alike, and the calls that work on it -/
def relK (a i : Nat) : Prop := a = 2 ∨ a = 315 ∨ (57 ≤ a ∧ a ≤ 61) ∨ (a = 324 ∧ i < 64) ∨ (a = 325 ∧ i < 4) ∨ (a = 1 ∧ i = 1) ∨ (a = 314 ∧ (i = 6 ∨ i = 7 ∨ i = 26 ∨ i = 30)) ∨ (a = 3 ∧ i = 1) ∨ (a = 47 ∧ i = 4) ∨ (a = 55 ∧ i = 4)
def tapK (a i : Nat) : Prop := a = 2 ∨ a = 315 ∨ (a = 1 ∧ i = 1) ∨ (a = 314 ∧ i = 6)
def relW (x : xM) (k : Nat) : Prop := x.1 61 k = x.1 325 k ∧ ∃ n, n ≤ 16 ∧ x.1 61 k = nI n ∧ ∀ i, i < n → x.1 (57 + k) i = x.1 324 (16 * k + i)
def rel (x : xM) : Prop := ∃ N L K : Nat, N ≤ 240 ∧ L ≤ 4 ∧ K ≤ 4 ∧ x.1 1 1 = nI N ∧ x.1 314 6 = nI N ∧ x.1 2 = tt (x.1 315) ∧ (∀ i, byR (x.1 315 i)) ∧ x.1 3 1 = x.1 314 26 ∧ x.1 47 4 = nI L ∧ x.1 314 7 = nI L ∧ x.1 55 4 = nI K ∧ x.1 314 30 = nI K ∧ ∀ k, k < K → relW x k
theorem relW_ag {x x2 : xM} {k : Nat} (hk : k < 4) (h : ∀ a i, (57 ≤ a ∧ a ≤ 61) ∨ (a = 324 ∧ i < 64) ∨ (a = 325 ∧ i < 4) → x2.1 a i = x.1 a i) (hr : relW x k) : relW x2 k := by
  obtain ⟨h1, n, h2, h3, h4⟩ := hr
  exact ⟨by rw [h 61 k (by omega), h 325 k (by omega)]; exact h1, n, h2, by rw [h 61 k (by omega)]; exact h3, fun i hi => by rw [h (57 + k) i (by omega), h 324 (16 * k + i) (by omega)]; exact h4 i hi⟩
theorem rel_t {x x2 : xM} {N : Nat} (hr : rel x) (hN : N ≤ 240) (h1 : x2.1 1 1 = nI N) (h2 : x2.1 314 6 = nI N) (h3 : x2.1 2 = tt (x2.1 315)) (h4 : ∀ i, byR (x2.1 315 i)) (hk : ∀ a i, relK a i → ¬ tapK a i → x2.1 a i = x.1 a i) : rel x2 := by
  obtain ⟨N0, L, K, e0, eL, eK, e1, e2, e3, e4, e5, e6, e7, e8, e9, e10⟩ := hr
  unfold relK tapK at hk
  exact ⟨N, L, K, hN, eL, eK, h1, h2, h3, h4, by rw [hk 3 1 (by omega) (by omega), hk 314 26 (by omega) (by omega)]; exact e5, by rw [hk 47 4 (by omega) (by omega)]; exact e6, by rw [hk 314 7 (by omega) (by omega)]; exact e7, by rw [hk 55 4 (by omega) (by omega)]; exact e8, by rw [hk 314 30 (by omega) (by omega)]; exact e9, fun k hk2 => relW_ag (Nat.lt_of_lt_of_le hk2 eK) (fun a i h => hk a i (by omega) (by omega)) (e10 k hk2)⟩
theorem rel_ag {x x2 : xM} (hr : rel x) (hk : ∀ a i, relK a i → x2.1 a i = x.1 a i) : rel x2 := by
  obtain ⟨N, L, K, e0, eL, eK, e1, e2, e3, e4, e5, e6, e7, e8, e9, e10⟩ := id hr
  have hk2 := hk
  unfold relK at hk2
  refine rel_t hr e0 ?_ ?_ ?_ (fun i => ?_) (fun a i h _ => hk a i h)
  · rw [hk2 1 1 (by omega)]; exact e1
  · rw [hk2 314 6 (by omega)]; exact e2
  · rw [show x2.1 2 = x.1 2 from funext fun j => hk2 2 j (by omega), show x2.1 315 = x.1 315 from funext fun j => hk2 315 j (by omega)]; exact e3
  · rw [hk2 315 i (by omega)]; exact e4 i
def Inv0 (x : xM) : Prop := gI tS tR x ∧ jM x ∧ rel x
def mdKq (q : Nat × Nat × Nat) : Bool := !(Nat.beq q.1 2) && (!(Nat.beq q.1 315) && ((Nat.blt q.1 57 || Nat.blt 61 q.1) && ((!(Nat.beq q.1 324) || Nat.ble 64 q.2.1) && ((!(Nat.beq q.1 325) || Nat.ble 4 q.2.1) && ((!(Nat.beq q.1 1) || (Nat.blt 1 q.2.1 || Nat.ble q.2.2 1)) && ((!(Nat.beq q.1 314) || ((Nat.blt 6 q.2.1 || Nat.ble q.2.2 6) && ((Nat.blt 7 q.2.1 || Nat.ble q.2.2 7) && ((Nat.blt 26 q.2.1 || Nat.ble q.2.2 26) && (Nat.blt 30 q.2.1 || Nat.ble q.2.2 30))))) && ((!(Nat.beq q.1 3) || (Nat.blt 1 q.2.1 || Nat.ble q.2.2 1)) && ((!(Nat.beq q.1 47) || (Nat.blt 4 q.2.1 || Nat.ble q.2.2 4)) && (!(Nat.beq q.1 55) || (Nat.blt 4 q.2.1 || Nat.ble q.2.2 4))))))))))
theorem mdKq_ok {q : Nat × Nat × Nat} (h : mdKq q = true) : ∀ a i, relK a i → ¬ (q.1 = a ∧ q.2.1 ≤ i ∧ i < q.2.2) := by
  unfold mdKq at h
  simp only [Bool.and_eq_true, Bool.or_eq_true, Bool.not_eq_true', beqF, bltN, bleN] at h
  obtain ⟨h1, h2, h3, h4, h5, h6, h7, h8, h9, h10⟩ := h
  intro a i hk
  unfold relK at hk
  rintro ⟨e1, e2, e3⟩
  subst e1
  rcases hk with c | c | c | c | c | c | c | c | c | c
  · exact h1 c
  · exact h2 c
  · omega
  · rcases h4 with z | z <;> omega
  · rcases h5 with z | z <;> omega
  · rcases h6 with z | z | z <;> omega
  · rcases h7 with z | ⟨z1, z2, z3, z4⟩
    · omega
    · omega
  · rcases h8 with z | z | z <;> omega
  · rcases h9 with z | z | z <;> omega
  · rcases h10 with z | z | z <;> omega
def mdK (md : List (Nat × Nat × Nat)) : Bool := md.all mdKq
theorem mdK_ok {md : List (Nat × Nat × Nat)} (h : mdK md = true) : ∀ a i, relK a i → wm1 md a i = false := fun a i hk => wm_f (fun q hq => mdKq_ok (List.all_eq_true.mp h q hq) a i hk)
def mdOk0 (md : List (Nat × Nat × Nat)) : Bool := jmB (0, [], [], [], md) && mdK md
theorem inv_st0 {c : aCt} (h : mdOk0 c.2.2.2.2 = true) {x x' : xM} {vs : List Value} {rv : Option Value} (hi : Inv0 x) (hp : cPo tS tR c x vs rv x') : Inv0 x' := by
  unfold mdOk0 at h
  rw [Bool.and_eq_true] at h
  exact ⟨hp.1, jM_st (c := (0, [], [], [], c.2.2.2.2)) h.1 x x' hp.2.1 hi.2.1, rel_ag hi.2.2 (fun a i hk => hp.2.1 a i (mdK_ok h.2 a i hk))⟩
/-- a call of both sides, answered alike -/
def Pair0 (jx jm : Nat) (vs : List Value) : Prop := ∀ x, Inv0 x → ∃ XF : Option Value → xM → Prop, xw 1200 jx (.ref 0 :: vs) x (fun rv x1 => (∃ z : Int32, rv = some (.int z)) ∧ XF rv x1) ∧ ∀ rv x1, XF rv x1 → xw 1200 jm (.ref 314 :: vs) x1 (fun rv2 x2 => rv2 = rv ∧ Inv0 x2)
def mdX (md : List (Nat × Nat × Nat)) : Bool := jmB (0, [], [], [], md) && md.all (fun q => Nat.blt q.1 314)
def mdM (md : List (Nat × Nat × Nat)) : Bool := jmB (0, [], [], [], md) && md.all (fun q => Nat.ble 314 q.1)
theorem xw_vc {J : xM → Prop} {D : Nat} {c : aCt} (hc : vC tS tR J D c) (hD : D ≤ 1200) {x : xM} {vs : List Value} (h1 : gI tS tR x) (h2 : J x) (h3 : aMt vs c.2.1) (h4 : c.2.2.1 = []) : xw 1200 c.1 vs x (cPo tS tR c x vs) := hc 1200 hD x vs _ h1 h2 h3 (by rw [h4]; exact gF_nil) (fun _ _ h => h)
theorem cx_st {c : aCt} (h : mdX c.2.2.2.2 = true) {x x' : xM} {vs : List Value} {rv : Option Value} (hj : jM x) (hp : cPo tS tR c x vs rv x') : gI tS tR x' ∧ jM x' ∧ ∀ a i, 314 ≤ a → x'.1 a i = x.1 a i := by
  unfold mdX at h
  rw [Bool.and_eq_true] at h
  exact ⟨hp.1, jM_st (c := (0, [], [], [], c.2.2.2.2)) h.1 x x' hp.2.1 hj, fun a i ha => hp.2.1 a i (wm_f (fun q hq z => by have := bltN.mp (List.all_eq_true.mp h.2 q hq); omega))⟩
theorem cm_st {c : aCt} (h : mdM c.2.2.2.2 = true) {x x' : xM} {vs : List Value} {rv : Option Value} (hj : jM x) (hp : cPo tS tR c x vs rv x') : gI tS tR x' ∧ jM x' ∧ ∀ a i, a < 314 → x'.1 a i = x.1 a i := by
  unfold mdM at h
  rw [Bool.and_eq_true] at h
  exact ⟨hp.1, jM_st (c := (0, [], [], [], c.2.2.2.2)) h.1 x x' hp.2.1 hj, fun a i ha => hp.2.1 a i (wm_f (fun q hq z => by have := bleN.mp (List.all_eq_true.mp h.2 q hq); omega))⟩
theorem p0_feed (a b c e g : Int32) : Pair0 96 160 [.int a, .int b, .int c, .int e, .int g] := by
  intro x hi
  obtain ⟨hg, hj, hr⟩ := hi
  obtain ⟨N, L, K, e0, eL, eK, e1, e2, e3, e4, e5, e6, e7, e8, e9, e10⟩ := id hr
  refine ⟨fun rv x1 => cPo tS tR q2c x [.ref 0, .int a, .int b, .int c, .int e, .int g] rv x1 ∧ ((240 < N + wnn a + wnn b + wnn c + wnn e + wnn g ∧ rv = some (.int (-1)) ∧ x1 = x) ∨ (N + wnn a + wnn b + wnn c + wnn e + wnn g ≤ 240 ∧ rv = some (.int (nI (N + wnn a + wnn b + wnn c + wnn e + wnn g))) ∧ x1.1 1 1 = nI (N + wnn a + wnn b + wnn c + wnn e + wnn g) ∧ x1.1 2 = (pw4 wqq (pw4 wqq (pw4 wqq (pw4 wqq (pw4 wqq (N, x.1 2) a) b) c) e) g).2)), ?_, ?_⟩
  · refine xw_im (fC_and (xw_vc q2 (by decide) hg trivial ⟨aR_a 0, aI_a a, aI_a b, aI_a c, aI_a e, aI_a g, trivial⟩ rfl) (c_feed hg.2 e1 rfl e0)) (fun rv x1 h => ⟨?_, h⟩)
    rcases h.2 with ⟨-, h, -⟩ | ⟨-, h, -⟩ <;> exact ⟨_, h⟩
  · rintro rv x1 ⟨hp, ho⟩
    obtain ⟨g1, j1, fx⟩ := cx_st (by decide +kernel) hj hp
    have f1 : ∀ a i, relK a i → ¬ tapK a i → a < 314 → x1.1 a i = x.1 a i := by
      intro a i h1 h2 h3
      have h9 : ∀ q ∈ q2c.2.2.2.2, q.1 = 2 ∨ (q.1 = 1 ∧ q.2.1 = 1 ∧ q.2.2 = 2) := by decide
      unfold tapK at h2
      exact hp.2.1 a i (wm_f (fun q hq z => by have := h9 q hq; omega))
    refine xw_im (fC_and (xw_vc feed_ok (by decide) g1 j1 ⟨aR_a 314, aI_a a, aI_a b, aI_a c, aI_a e, aI_a g, trivial⟩ rfl) (c_mfeed (u := x.1 315) g1.2 (by rw [fx 314 6 (by decide)]; exact e2) (funext fun j => fx 315 j (by decide)) e0)) (fun rv2 x2 h => ?_)
    obtain ⟨hp2, ho2⟩ := h
    obtain ⟨g2, j2, fm⟩ := cm_st (by decide +kernel) j1 hp2
    have f2 : ∀ a i, relK a i → ¬ tapK a i → 314 ≤ a → x2.1 a i = x1.1 a i := by
      intro a i h1 h2 h3
      have h9 : ∀ q ∈ feedc.2.2.2.2, q.1 = 315 ∨ (q.1 = 314 ∧ (q.2.1 = 0 ∧ q.2.2 = 1 ∨ q.2.1 = 6 ∧ q.2.2 = 7)) := by decide
      unfold tapK at h2
      unfold relK at h1
      exact hp2.2.1 a i (wm_f (fun q hq z => by have := h9 q hq; omega))
    have f3 : ∀ a i, relK a i → ¬ tapK a i → x2.1 a i = x.1 a i := by
      intro a i h1 h2
      rcases Nat.lt_or_ge a 314 with h3 | h3
      · rw [fm a i h3]; exact f1 a i h1 h2 h3
      · rw [f2 a i h1 h2 h3]; exact fx a i h3
    rcases ho with ⟨o1, o2, o3⟩ | ⟨o1, o2, o3, o4⟩ <;> rcases ho2 with ⟨w1, w2, w3⟩ | ⟨w1, w2, w3, w4⟩
    · subst o3 w3
      refine ⟨by rw [o2, w2], g2, j2, rel_ag hr (fun a i h => ?_)⟩
      unfold relK at h
      exact mI_ne (by omega)
    · omega
    · omega
    · refine ⟨by rw [o2, w2], g2, j2, ?_⟩
      have hR := pw4_R (pw4_R (pw4_R (pw4_R (pw4_R (S := (N, x.1 2)) (T := (N, x.1 315)) ⟨rfl, e3, e4⟩ a) b) c) e) g
      refine rel_t hr o1 (by rw [fm 1 1 (by decide)]; exact o3) w3 ?_ (fun i => ?_) f3
      · rw [show x2.1 2 = x1.1 2 from funext fun j => fm 2 j (by decide), o4, w4]
        exact hR.2.1
      · rw [w4]
        exact hR.2.2 i
theorem p0_end (z : Int32) : Pair0 97 161 [.int z] := by
  intro x hi
  obtain ⟨hg, hj, hr⟩ := hi
  obtain ⟨N, L, K, e0, eL, eK, e1, e2, e3, e4, e5, e6, e7, e8, e9, e10⟩ := id hr
  refine ⟨fun rv x1 => cPo tS tR q3c x [.ref 0, .int z] rv x1 ∧ ((¬ (¬ z < 0 ∧ z ≤ nI N) ∧ rv = some (.int 0) ∧ x1 = x) ∨ ((¬ z < 0 ∧ z ≤ nI N) ∧ rv = some (.int 1) ∧ x1 = mI x 1 1 z)), ?_, ?_⟩
  · refine xw_im (fC_and (xw_vc q3 (by decide) hg trivial ⟨aR_a 0, aI_a z, trivial⟩ rfl) (c_end hg.2 e1)) (fun rv x1 h => ⟨?_, h⟩)
    rcases h.2 with ⟨-, h, -⟩ | ⟨-, h, -⟩ <;> exact ⟨_, h⟩
  · rintro rv x1 ⟨hp, ho⟩
    obtain ⟨g1, j1, fx⟩ := cx_st (by decide +kernel) hj hp
    refine xw_im (fC_and (xw_vc r0 (by decide) g1 j1 ⟨aR_a 314, aI_a z, trivial⟩ rfl) (c_mend (N := N) (by rw [fx 314 6 (by decide)]; exact e2))) (fun rv2 x2 h => ?_)
    obtain ⟨hp2, ho2⟩ := h
    obtain ⟨g2, j2, fm⟩ := cm_st (by decide +kernel) j1 hp2
    rcases ho with ⟨o1, o2, o3⟩ | ⟨o1, o2, o3⟩ <;> rcases ho2 with ⟨w1, w2, w3⟩ | ⟨w1, w2, w3⟩
    · subst o3 w3
      refine ⟨by rw [o2, w2], g2, j2, rel_ag hr (fun a i h => ?_)⟩
      unfold relK at h
      exact mI_ne (by omega)
    · exact absurd w1 o1
    · exact absurd o1 w1
    · subst o3 w3
      refine ⟨by rw [o2, w2], g2, j2, ?_⟩
      obtain ⟨c1, c2⟩ := o1
      rw [Int32.lt_iff_toInt_lt, show (0 : Int32).toInt = 0 by decide] at c1
      rw [Int32.le_iff_toInt_le, nI_toInt (by omega)] at c2
      have ez : z = nI z.toInt.toNat := Int32.toInt_inj.mp (by rw [nI_toInt (by omega)]; omega)
      refine rel_t (N := z.toInt.toNat) hr (by omega) ?_ ?_ ?_ (fun i => ?_) (fun a i h1 h2 => ?_)
      · rw [mI_ne (by omega), mI_ne (by omega), mI_at]; exact ez
      · rw [mI_at]; exact ez
      · rw [show (mI (mI (mI x 1 1 z) 314 0 0) 314 6 z).1 2 = x.1 2 from funext fun j => by rw [mI_ne (by omega), mI_ne (by omega), mI_ne (by omega)], show (mI (mI (mI x 1 1 z) 314 0 0) 314 6 z).1 315 = x.1 315 from funext fun j => by rw [mI_ne (by omega), mI_ne (by omega), mI_ne (by omega)]]
        exact e3
      · rw [mI_ne (by omega), mI_ne (by omega), mI_ne (by omega)]; exact e4 i
      · unfold relK at h1
        unfold tapK at h2
        rw [mI_ne (by omega), mI_ne (by omega), mI_ne (by omega)]
theorem p0_law (z : Int32) : Pair0 104 208 [.int z] := by
  intro x hi
  obtain ⟨hg, hj, hr⟩ := id hi
  obtain ⟨N, L, K, e0, eL, eK, e1, e2, e3, e4, e5, e6, e7, e8, e9, e10⟩ := id hr
  refine ⟨fun rv x1 => cPo tS tR q119c x [.ref 0, .int z] rv x1 ∧ ((¬ (z = -1 ∨ (¬ z < 0 ∧ z < nI L)) ∧ rv = some (.int 0) ∧ x1 = x) ∨ ((z = -1 ∨ (¬ z < 0 ∧ z < nI L)) ∧ rv = some (.int 1) ∧ x1 = mI x 47 5 z)), ?_, ?_⟩
  · refine xw_im (fC_and (xw_vc q119 (by decide) hg trivial ⟨aR_a 0, aI_a z, trivial⟩ rfl) (c_law hg.2 e6)) (fun rv x1 h => ⟨?_, h⟩)
    rcases h.2 with ⟨-, h, -⟩ | ⟨-, h, -⟩ <;> exact ⟨_, h⟩
  · rintro rv x1 ⟨hp, ho⟩
    have i1 : Inv0 x1 := inv_st0 (c := q119c) (by decide +kernel) hi hp
    obtain ⟨g1, j1, fx⟩ := cx_st (by decide +kernel) hj hp
    refine xw_im (fC_and (xw_vc r23 (by decide) g1 j1 ⟨aR_a 314, aI_a z, trivial⟩ rfl) (c_mlaw eL (by rw [fx 314 7 (by decide)]; exact e7))) (fun rv2 x2 h => ?_)
    obtain ⟨hp2, ho2⟩ := h
    refine ⟨?_, inv_st0 (c := r23c) (by decide +kernel) i1 hp2⟩
    rcases ho with ⟨o1, o2, o3⟩ | ⟨o1, o2, o3⟩ <;> rcases ho2 with ⟨w1, w2, w3⟩ | ⟨w1, w2, w3⟩
    · rw [o2, w2]
    · exact absurd w1 o1
    · exact absurd o1 w1
    · rw [o2, w2]
theorem p0_fault (z : Int32) : Pair0 98 190 [.int z] := by
  intro x hi
  obtain ⟨hg, hj, hr⟩ := id hi
  obtain ⟨N, L, K, e0, eL, eK, e1, e2, e3, e4, e5, e6, e7, e8, e9, e10⟩ := id hr
  refine ⟨fun rv x1 => cPo tS tR q100c x [.ref 0, .int z] rv x1 ∧ ∃ v, rv = some (.int v) ∧ FA N (x.1 2) z v, ?_, ?_⟩
  · refine xw_im (fC_and (xw_vc q100 (by decide) hg trivial ⟨aR_a 0, aI_a z, trivial⟩ rfl) (c_fault hg.2 e1 e0 rfl)) (fun rv x1 h => ?_)
    obtain ⟨h1, v, h2, h3, -⟩ := h
    exact ⟨⟨v, h2⟩, h1, v, h2, h3⟩
  · rintro rv x1 ⟨hp, v, hv, fv⟩
    have i1 : Inv0 x1 := inv_st0 (c := q100c) (by decide +kernel) hi hp
    obtain ⟨g1, j1, fx⟩ := cx_st (by decide +kernel) hj hp
    refine xw_im (fC_and (xw_vc ux8 (by decide) g1 j1 ⟨aR_a 314, aI_a z, trivial⟩ rfl) (c_mfault (u := x.1 315) g1.2 (by rw [fx 314 6 (by decide)]; exact e2) e0 (funext fun j => fx 315 j (by decide)) e4)) (fun rv2 x2 h => ?_)
    obtain ⟨hp2, w, hw, fw, -⟩ := h
    refine ⟨?_, inv_st0 (c := ux8c) (by decide +kernel) i1 hp2⟩
    rw [e3] at fv
    rw [hv, hw, FA_det fv fw]
theorem p0_text (z : Int32) : Pair0 99 191 [.int z] := by
  intro x hi
  obtain ⟨hg, hj, hr⟩ := id hi
  obtain ⟨N, L, K, e0, eL, eK, e1, e2, e3, e4, e5, e6, e7, e8, e9, e10⟩ := id hr
  refine ⟨fun rv x1 => cPo tS tR q108c x [.ref 0, .int z] rv x1 ∧ txO N (x.1 2) z (x.1 3 1) L K rv (x1.1 1 1) (x1.1 3 1) (x1.1 47 4) (x1.1 55 4) ∧ x1.1 2 = x.1 2 ∧ (z = 2 → FA N (x.1 2) z (-1) → K < 4 → x1.1 61 K = nI (wk0 N (x.1 2)).1 ∧ (wk0 N (x.1 2)).1 ≤ 16 ∧ ∀ i, i < (wk0 N (x.1 2)).1 → x1.1 (57 + K) i = (wk0 N (x.1 2)).2.1 i) ∧ ∀ k, k < K → x1.1 61 k = x.1 61 k ∧ ∀ i, x1.1 (57 + k) i = x.1 (57 + k) i, ?_, ?_⟩
  · refine xw_im (fC_and (xw_vc q108 (by decide) hg trivial ⟨aR_a 0, aI_a z, trivial⟩ rfl) (c_text hg e1 e0 rfl e6 eL e8 eK)) (fun rv x1 h => ⟨?_, h⟩)
    rcases h.2.1 with ⟨-, h, -⟩ | ⟨-, -, S, f, -, h, -⟩ | ⟨-, -, -, h, -⟩ | ⟨-, -, -, h, -⟩ <;> exact ⟨_, h⟩
  · rintro rv x1 ⟨hp, ho, hb, hw, hk⟩
    obtain ⟨g1, j1, fx⟩ := cx_st (by decide +kernel) hj hp
    refine xw_im (fC_and (text_ok (d := 1200) (x := z) (by decide) g1 j1 (P := fun rv m' => gI tS tR m' ∧ jM m') (fun rv m' _ h1 h2 _ => ⟨h1, h2⟩)) (c_mtext (u := x.1 315) g1 j1 (by rw [fx 314 6 (by decide)]; exact e2) e0 (funext fun j => fx 315 j (by decide)) e4 (by rw [fx 314 7 (by decide)]; exact e7) eL (by rw [fx 314 30 (by decide)]; exact e9) eK)) (fun rv2 x2 h => ?_)
    obtain ⟨⟨g2, j2⟩, ho2, hb2, hw2, hk2, fm⟩ := h
    rw [fx 314 26 (by decide), ← e5] at ho2
    rw [e3] at ho hw
    obtain ⟨d1, d2, d3, d4, d5⟩ := txO_det ho2 ho
    refine ⟨d1, g2, j2, ?_⟩
    have t3 : x2.1 2 = tt (x2.1 315) := by rw [show x2.1 2 = x1.1 2 from funext fun j => fm 2 j (by decide), hb, hb2]; exact e3
    have t4 : ∀ i, byR (x2.1 315 i) := fun i => by rw [hb2]; exact e4 i
    have t5 : x2.1 3 1 = x2.1 314 26 := by rw [fm 3 1 (by decide)]; exact d3.symm
    have W : ∀ k, k < K → relW x2 k := by
      intro k hk9
      obtain ⟨y1, n, y2, y3, y4⟩ := e10 k hk9
      obtain ⟨u1, u2⟩ := hk k hk9
      obtain ⟨v1, v2⟩ := hk2 k hk9
      refine ⟨?_, n, y2, ?_, fun i hi => ?_⟩
      · rw [fm 61 k (by decide), u1, v1, fx 325 k (by decide)]; exact y1
      · rw [fm 61 k (by decide), u1]; exact y3
      · rw [fm _ i (by omega), u2 i, v2 i (by omega), fx 324 _ (by decide)]; exact y4 i hi
    have q1 : x2.1 1 1 = x1.1 1 1 := fm 1 1 (by decide)
    have q2 : x2.1 47 4 = x1.1 47 4 := fm 47 4 (by decide)
    have q3 : x2.1 55 4 = x1.1 55 4 := fm 55 4 (by decide)
    rcases ho with ⟨a1, a2, a3, a4, a5, a6⟩ | ⟨a0, a1, S, f, a2, a3, a4, a5, a6, a7⟩ | ⟨a0, a1, a2, a3, a4, a5, a6, a7⟩ | ⟨a0, a1, a2, a3, a4, a5, a6, a7⟩
    · exact ⟨N, L, K, e0, eL, eK, by rw [q1, a3], by rw [d2, a3], t3, t4, t5, by rw [q2, a5], by rw [d4, a5], by rw [q3, a6], by rw [d5, a6], W⟩
    · exact ⟨0, L, K, by decide, eL, eK, by rw [q1, a4]; rfl, by rw [d2, a4]; rfl, t3, t4, t5, by rw [q2, a6], by rw [d4, a6], by rw [q3, a7], by rw [d5, a7], W⟩
    · exact ⟨0, L + 1, K, by decide, a2, eK, by rw [q1, a4]; rfl, by rw [d2, a4]; rfl, t3, t4, t5, by rw [q2, a6], by rw [d4, a6], by rw [q3, a7], by rw [d5, a7], W⟩
    · obtain ⟨b1, b2, b3⟩ := hw a1 a0 a2
      obtain ⟨c1, c2⟩ := hw2 a1 a0 a2
      refine ⟨0, L, K + 1, by decide, eL, a2, by rw [q1, a4]; rfl, by rw [d2, a4]; rfl, t3, t4, t5, by rw [q2, a6], by rw [d4, a6], by rw [q3, a7], by rw [d5, a7], fun k hk9 => ?_⟩
      by_cases ek : k = K
      · subst ek
        refine ⟨?_, _, b2, ?_, fun i hi => ?_⟩
        · rw [fm 61 k (by decide), b1, c1]
        · rw [fm 61 k (by decide), b1]
        · rw [fm _ i (by omega), b3 i hi, c2 i hi (by omega)]
      · exact W k (by omega)
/-! walk, both sides alike -/
theorem wkF_eq {K : Nat} {l1 l2 : Nat → Int32} {s1 s2 : Nat → Nat → Int32} {z i : Int32} (hK : K ≤ 4) (h : ∀ k, k < K → l1 k = l2 k ∧ ∃ n, n ≤ 16 ∧ l1 k = nI n ∧ ∀ j, j < n → s1 k j = s2 k j) : wkF K l1 s1 z i = wkF K l2 s2 z i := by
  unfold wkF
  by_cases c : z < 0 ∨ ¬ z < nI K
  · rw [if_pos c, if_pos c]
  · rw [if_neg c, if_neg c]
    obtain ⟨k, hk, rfl⟩ := z_nI (z := z) (K := K) (by omega) (fun q => c (Or.inl q)) (by
      by_cases q : z < nI K
      · exact q
      · exact absurd (Or.inr q) c)
    obtain ⟨e1, n, hn, e2, e3⟩ := h k hk
    rw [nI_clamp (by omega), ← e1, e2]
    by_cases c2 : i = -1
    · rw [if_pos c2, if_pos c2]
    · rw [if_neg c2, if_neg c2]
      by_cases c3 : i < 0 ∨ ¬ i < nI n
      · rw [if_pos c3, if_pos c3]
      · rw [if_neg c3, if_neg c3]
        obtain ⟨j, hj, rfl⟩ := z_nI (z := i) (K := n) (by omega) (fun q => c3 (Or.inl q)) (by
          by_cases q : i < nI n
          · exact q
          · exact absurd (Or.inr q) c3)
        rw [nI_clamp (by omega)]
        exact e3 j hj
theorem p0_walk (z y : Int32) : Pair0 128 223 [.int z, .int y] := by
  intro x hi
  obtain ⟨hg, hj, hr⟩ := id hi
  obtain ⟨N, L, K, e0, eL, eK, e1, e2, e3, e4, e5, e6, e7, e8, e9, e10⟩ := id hr
  refine ⟨fun rv x1 => cPo tS tR q222c x [.ref 0, .int z, .int y] rv x1 ∧ rv = some (.int (wkF K (x.1 61) (fun k i => x.1 (57 + k) i) z y)) ∧ x1 = x, ?_, ?_⟩
  · exact xw_im (fC_and (xw_vc q222 (by decide) hg trivial ⟨aR_a 0, aI_a z, aI_a y, trivial⟩ rfl) (c_walk hg.2 e8 eK)) (fun rv x1 h => ⟨⟨_, h.2.1⟩, h⟩)
  · rintro rv x1 ⟨hp, o1, o2⟩
    subst o2
    refine xw_im (fC_and (xw_vc r145 (by decide) hg hj ⟨aR_a 314, aI_a z, aI_a y, trivial⟩ rfl) (c_mwalk hg.2 e9 eK (fun k hk => by obtain ⟨y1, n, y2, y3, -⟩ := e10 k hk; exact ⟨n, y2, by rw [← y1]; exact y3⟩))) (fun rv2 x2 h => ?_)
    obtain ⟨hp2, w1, w2⟩ := h
    refine ⟨?_, inv_st0 (c := r145c) (by decide +kernel) hi hp2⟩
    rw [o1, w1, wkF_eq eK (fun k hk => e10 k hk)]
