/-! the way: least rows, in tables alone -/
def wyH (C : Nat) (T X D : Mt) : Prop := (∀ a b, a < C → b < C → X a b < 1000000 → 16 * D a b ≤ X a b ∧ X a b + 1 ≤ 16 * D a b + C) ∧ (∀ a c b, a < C → c < C → b < C → T a c ≠ 0 → X a b ≤ 16 * T a c + 1 + X c b ∧ D a b ≤ T a c + D c b) ∧ (∀ a b, a < C → b < C → a ≠ b → X a b < 1000000 → ∃ c, c < C ∧ T a c ≠ 0 ∧ 16 * T a c + 1 + X c b = X a b) ∧ (∀ a, X a a = 0 ∧ D a a = 0) ∧ (∀ a k b, a < C → k < C → b < C → X a b ≤ X a k + X k b) ∧ (∀ a b, T a b ≤ 40) ∧ ∀ a b, X a b < 1000000 ↔ D a b < 100000
theorem wy_bell {C : Nat} {T cX cM : Mt} (hst : stR T cX cM) (dX : ∀ i, cX i i = 0) {b : Nat} (hb : b < C) : ∀ (l : List Nat) (a : Nat), a < C → a ≠ b → (∀ x, x ∈ l → x < C) → dwl a l = b → dwk cX a l < 1000000 → dwk cX a l = fwO C cX C a b → ∃ c, c < C ∧ T a c ≠ 0 ∧ 16 * T a c + 1 + fwO C cX C c b = fwO C cX C a b := by
  intro l
  induction l with
  | nil => exact fun a _ ha _ h => absurd h ha
  | cons c l ih =>
    intro a ha hab hx hl hlt he
    have hc : c < C := hx c List.mem_cons_self
    have hx2 : ∀ x, x ∈ l → x < C := fun x h => hx x (List.mem_cons_of_mem _ h)
    have hl2 : dwl c l = b := hl
    have e1 : dwk cX a (c :: l) = cX a c + dwk cX c l := rfl
    rw [e1] at hlt he
    have i1 := fw_all dX l c hc hx2
    rw [hl2] at i1
    have i2 := fwO_tr dX C (Nat.le_refl _) c hc a b ha hb
    have i3 := fwO_dn dX ha hc C
    rcases (hst a c).2 with ⟨x0, x1, x2, x3⟩ | ⟨x0, ⟨x1, x2, x3⟩ | ⟨x1, x2, x3, x4⟩⟩
    · subst x0
      rw [x2] at hlt he
      exact ih a ha hab hx2 hl2 (by omega) (by omega)
    · omega
    · exact ⟨c, hc, by omega, by omega⟩
theorem wyH_ok {C S w : Nat} {A B Y : Nat → Nat} (hC : C ≤ 8) (hS : ∀ s, s < S → A s ≠ B s ∧ 1 ≤ Y s ∧ Y s ≤ 40) : wyH C (wsX A B Y w S).1 (wyX C S A B Y w) (wyM C S A B Y w) := by
  have hst := stR_ok (w := w) hS S (Nat.le_refl _)
  obtain ⟨hR, dX, dM⟩ := stR_R hst
  refine ⟨fun a b ha hb h => ⟨(wy_E hC hS ha hb h).1, ?_⟩, fun a c b ha hc hb h => ?_, fun a b ha hb hab h => ?_, fun a => ⟨fwO_d dX C a, fwO_d dM C a⟩, fun a k b ha hk hb => fwO_tr dX C (Nat.le_refl _) k hk a b ha hb, fun a b => ?_, fun a b => wy_R hC hS a b⟩
  · have hM := (wy_R (w := w) hC hS a b).mp h
    obtain ⟨l, l1, l2, l3⟩ := fw_some dM C (Nat.le_refl _) a b ha hb
    obtain ⟨k, k1, k2, k3, k4⟩ := dw_sim (D := wsM A B Y w (bas 100000) S) l a l1
    have e : dwk (wsM A B Y w (bas 100000) S) a l = wyM C S A B Y w a b := l3
    have i0 := dwk_up hR k a (by omega)
    have i1 := fw_all dX k a ha k4
    rw [k1, l2] at i1
    have i3 : wyX C S A B Y w a b ≤ dwk (wsX A B Y w S).2 a k := i1
    have i4 := nod_len C (a :: k) k3 (fun x hx => by
      rcases List.mem_cons.mp hx with e2 | e2
      · rw [e2]; exact ha
      · exact k4 x e2)
    rw [List.length_cons] at i4
    omega
  · have i1 : wyX C S A B Y w a b ≤ wyX C S A B Y w a c + wyX C S A B Y w c b := fwO_tr dX C (Nat.le_refl _) c hc a b ha hb
    have i2 : wyX C S A B Y w a c ≤ (wsX A B Y w S).2 a c := fwO_dn dX ha hc C
    have j1 : wyM C S A B Y w a b ≤ wyM C S A B Y w a c + wyM C S A B Y w c b := fwO_tr dM C (Nat.le_refl _) c hc a b ha hb
    have j2 : wyM C S A B Y w a c ≤ wsM A B Y w (bas 100000) S a c := fwO_dn dM ha hc C
    rcases (hst a c).2 with ⟨x0, x1, x2, x3⟩ | ⟨x0, ⟨x1, x2, x3⟩ | ⟨x1, x2, x3, x4⟩⟩
    · exact absurd x1 h
    · exact absurd x1 h
    · exact ⟨by omega, by omega⟩
  · obtain ⟨l, l1, l2, l3⟩ := fw_some dX C (Nat.le_refl _) a b ha hb
    have e : dwk (wsX A B Y w S).2 a l = wyX C S A B Y w a b := l3
    exact wy_bell hst dX hb l a ha hab l1 l2 (by omega) l3
  · rcases (hst a b).2 with ⟨x0, x1, x2, x3⟩ | ⟨x0, ⟨x1, x2, x3⟩ | ⟨x1, x2, x3, x4⟩⟩ <;> omega
theorem lst_ex {P : Nat → Prop} : ∀ n, P n → ∃ c, c ≤ n ∧ P c ∧ ∀ d, d < c → ¬ P d := by
  intro n
  induction n using Nat.strongRecOn with
  | ind n ih =>
    intro h
    by_cases q : ∃ d, d < n ∧ P d
    · obtain ⟨d, hd, hp⟩ := q
      obtain ⟨c, c1, c2, c3⟩ := ih d hd hp
      exact ⟨c, by omega, c2, c3⟩
    · exact ⟨n, Nat.le_refl _, h, fun d hd hp => q ⟨d, hd, hp⟩⟩
/-- c is the lowest corner next on a least way from a to b -/
def nxP (C : Nat) (T X : Mt) (a b c : Nat) : Prop := c < C ∧ T a c ≠ 0 ∧ 16 * T a c + 1 + X c b = X a b
def nxI (C : Nat) (T X : Mt) (a b c : Nat) : Prop := nxP C T X a b c ∧ ∀ d, d < c → ¬ nxP C T X a b d
def grL (C : Nat) (T X : Mt) (b : Nat) : Nat → List Nat → Prop
  | a, [] => a = b
  | a, c :: l => a ≠ b ∧ nxI C T X a b c ∧ grL C T X b c l
def rowL : Nat → List Nat → Nat
  | r, [] => r
  | r, c :: l => rowL (10 * r + c) l
def tst (C : Nat) (T : Mt) : Nat → List Nat → Prop
  | _, [] => True
  | a, c :: l => c < C ∧ T a c ≠ 0 ∧ tst C T c l
theorem grL_ex {C : Nat} {T X D : Mt} (h : wyH C T X D) (hC : C ≤ 8) {b : Nat} (hb : b < C) : ∀ s a, a < C → X a b < 1000000 → X a b = 16 * D a b + s → ∃ l, grL C T X b a l ∧ l.length = s := by
  obtain ⟨h1, h2, h3, h4, h5, h6, h7⟩ := h
  intro s
  induction s with
  | zero =>
    intro a ha hlt he
    by_cases c : a = b
    · exact ⟨[], c, rfl⟩
    · obtain ⟨c, c1, c2, c3⟩ := h3 a b ha hb c hlt
      have := h1 c b c1 hb (by omega)
      omega
  | succ s ih =>
    intro a ha hlt he
    have hne : a ≠ b := fun c => by
      have := (h4 a).1
      rw [← c, this] at he
      omega
    obtain ⟨c, c1, c2, c3⟩ := h3 a b ha hb hne hlt
    obtain ⟨d, d1, d2, d3⟩ := lst_ex (P := nxP C T X a b) c ⟨c1, c2, c3⟩
    have i1 := h1 d b d2.1 hb (by have := d2.2.2; omega)
    have i2 := h1 a b ha hb hlt
    have i3 := d2.2.2
    obtain ⟨l, l1, l2⟩ := ih d d2.1 (by omega) (by omega)
    exact ⟨d :: l, ⟨hne, ⟨d2, d3⟩, l1⟩, by rw [List.length_cons, l2]⟩
theorem grL_lt {C : Nat} {T X : Mt} {b : Nat} : ∀ l a, grL C T X b a l → ∀ x, x ∈ l → x < C := by
  intro l
  induction l with
  | nil => exact fun a _ x hx => absurd hx List.not_mem_nil
  | cons c l ih =>
    intro a h x hx
    rcases List.mem_cons.mp hx with e | e
    · rw [e]; exact h.2.1.1.1
    · exact ih c h.2.2 x e
theorem rowL_hi : ∀ l r, (∀ x, x ∈ l → x < 10) → rowL r l + 1 ≤ (r + 1) * 10 ^ l.length := by
  intro l
  induction l with
  | nil => exact fun r _ => by show r + 1 ≤ (r + 1) * 10 ^ 0; omega
  | cons c l ih =>
    intro r h
    have i1 := ih (10 * r + c) (fun x hx => h x (List.mem_cons_of_mem _ hx))
    have i2 := h c List.mem_cons_self
    show rowL (10 * r + c) l + 1 ≤ (r + 1) * 10 ^ (l.length + 1)
    have i3 : (10 * r + c + 1) * 10 ^ l.length ≤ (10 * (r + 1)) * 10 ^ l.length := Nat.mul_le_mul_right _ (by omega)
    have e : (r + 1) * 10 ^ (l.length + 1) = (10 * (r + 1)) * 10 ^ l.length := by
      rw [Nat.pow_succ, Nat.mul_comm (10 ^ l.length) 10, ← Nat.mul_assoc, Nat.mul_comm (r + 1) 10]
    omega
theorem rowL_lo : ∀ l r, r * 10 ^ l.length ≤ rowL r l := by
  intro l
  induction l with
  | nil => exact fun r => by show r * 10 ^ 0 ≤ r; omega
  | cons c l ih =>
    intro r
    have i1 := ih (10 * r + c)
    show r * 10 ^ (l.length + 1) ≤ rowL (10 * r + c) l
    have i3 : (10 * r) * 10 ^ l.length ≤ (10 * r + c) * 10 ^ l.length := Nat.mul_le_mul_right _ (by omega)
    have e : r * 10 ^ (l.length + 1) = (10 * r) * 10 ^ l.length := by
      rw [Nat.pow_succ, Nat.mul_comm (10 ^ l.length) 10, ← Nat.mul_assoc, Nat.mul_comm r 10]
    omega
theorem rowL_lt {l k : List Nat} {r c d : Nat} (hl : ∀ x, x ∈ l → x < 10) (h : c < d) (e : l.length = k.length) : rowL (10 * r + c) l ≤ rowL (10 * r + d) k := by
  have i1 := rowL_hi l (10 * r + c) hl
  have i2 := rowL_lo k (10 * r + d)
  rw [← e] at i2
  have i3 : (10 * r + c + 1) * 10 ^ l.length ≤ (10 * r + d) * 10 ^ l.length := Nat.mul_le_mul_right _ (by omega)
  omega
theorem tst_cost {C : Nat} {T X D : Mt} (h : wyH C T X D) {b : Nat} (hb : b < C) : ∀ l a, a < C → tst C T a l → dwl a l = b → X a b ≤ 16 * dwk T a l + l.length ∧ D a b ≤ dwk T a l := by
  obtain ⟨h1, h2, h3, h4, h5, h6, h7⟩ := h
  intro l
  induction l with
  | nil =>
    intro a ha _ e
    have e : a = b := e
    rw [← e, (h4 a).1, (h4 a).2]
    exact ⟨Nat.zero_le _, Nat.zero_le _⟩
  | cons c l ih =>
    intro a ha ht e
    obtain ⟨i1, i2⟩ := ih c ht.1 ht.2.2 e
    obtain ⟨j1, j2⟩ := h2 a c b ha ht.1 hb ht.2.1
    have e1 : dwk T a (c :: l) = T a c + dwk T c l := rfl
    rw [e1, List.length_cons]
    exact ⟨by omega, by omega⟩
theorem tst_40 {C : Nat} {T X D : Mt} (h : wyH C T X D) : ∀ l a, dwk T a l ≤ 40 * l.length := by
  obtain ⟨h1, h2, h3, h4, h5, h6, h7⟩ := h
  intro l
  induction l with
  | nil => exact fun a => Nat.zero_le _
  | cons c l ih =>
    intro a
    have := ih c
    have := h6 a c
    have e1 : dwk T a (c :: l) = T a c + dwk T c l := rfl
    rw [e1, List.length_cons]
    omega
/-- the greedy row is the least of all least ways -/
theorem gr_least {C : Nat} {T X D : Mt} (h : wyH C T X D) (hC : C ≤ 8) {b : Nat} (hb : b < C) : ∀ l a, a < C → grL C T X b a l → ∀ k r, tst C T a k → dwl a k = b → 16 * dwk T a k + k.length = X a b → k.length = l.length → rowL r l ≤ rowL r k := by
  have hh := h
  obtain ⟨h1, h2, h3, h4, h5, h6, h7⟩ := h
  intro l
  induction l with
  | nil =>
    intro a ha hg k r _ _ _ he
    cases k with
    | nil => exact Nat.le_refl _
    | cons d k =>
      have he : k.length + 1 = 0 := he
      omega
  | cons c l ih =>
    intro a ha hg k r ht hk hx he
    cases k with
    | nil =>
      have he : 0 = l.length + 1 := he
      omega
    | cons d k =>
      rw [List.length_cons, List.length_cons] at he
      have e1 : dwk T a (d :: k) = T a d + dwk T d k := rfl
      rw [e1, List.length_cons] at hx
      obtain ⟨i1, -⟩ := tst_cost hh hb k d ht.1 ht.2.2 hk
      obtain ⟨j1, -⟩ := h2 a d b ha ht.1 hb ht.2.1
      have hd : nxP C T X a b d := ⟨ht.1, ht.2.1, by omega⟩
      show rowL (10 * r + c) l ≤ rowL (10 * r + d) k
      rcases Nat.lt_trichotomy c d with q | q | q
      · exact rowL_lt (fun x hx => Nat.lt_of_lt_of_le (grL_lt l c hg.2.2 x hx) (by omega)) q (by omega)
      · subst q
        exact ih c ht.1 hg.2.2 k _ ht.2.2 hk (by omega) (by omega)
      · exact absurd hd (hg.2.1.2 d q)
/-- the ways that the reference goes -/
def okL (C : Nat) (T D : Mt) (st b : Nat) : Nat → Nat → Nat → List Nat → Prop
  | a, _, _, [] => a = b
  | a, seen, y, c :: l => a ≠ b ∧ c < C ∧ seen.testBit c = false ∧ T a c ≠ 0 ∧ y + T a c ≤ D st c ∧ okL C T D st b c (seen ||| 2 ^ c) (y + T a c) l
theorem or_bit {s c v : Nat} : (s ||| 2 ^ c).testBit v = true ↔ s.testBit v = true ∨ v = c := by
  rw [Nat.testBit_or, Nat.testBit_two_pow]
  by_cases e : c = v
  · rw [decide_eq_true e, Bool.or_true]
    exact ⟨fun _ => Or.inr e.symm, fun _ => rfl⟩
  · rw [decide_eq_false e, Bool.or_false]
    exact ⟨Or.inl, fun h => h.elim id (fun q => absurd q.symm e)⟩
theorem gr_okw {C : Nat} {T X D : Mt} (h : wyH C T X D) (hC : C ≤ 8) {st b : Nat} (hs : st < C) (hb : b < C) (hX : X st b < 1000000) : ∀ l a seen y s, a < C → grL C T X b a l → X st b = 16 * y + s + X a b → (∀ v, v < C → seen.testBit v = true → X a b ≤ X v b) → okL C T D st b a seen y l := by
  obtain ⟨h1, h2, h3, h4, h5, h6, h7⟩ := h
  intro l
  induction l with
  | nil => exact fun a seen y s _ hg _ _ => hg
  | cons c l ih =>
    intro a seen y s ha hg he hv
    obtain ⟨hab, ⟨⟨hc, hT, hx⟩, -⟩, hg2⟩ := hg
    have t1 := h5 st c b hs hc hb
    have t2 := h6 a c
    have hy : y + T a c ≤ D st c := by
      by_cases q : X st c < 1000000
      · have := h1 st c hs hc q
        omega
      · have : ¬ D st c < 100000 := fun z => q ((h7 st c).mpr z)
        omega
    refine ⟨hab, hc, ?_, hT, hy, ih c (seen ||| 2 ^ c) (y + T a c) (s + 1) hc hg2 (by omega) (fun v hv9 hb9 => ?_)⟩
    · cases q : seen.testBit c with
      | false => rfl
      | true =>
        have := hv c hc q
        omega
    · rcases or_bit.mp hb9 with q | q
      · have := hv v hv9 q
        omega
      · rw [q]
        exact Nat.le_refl _
theorem okL_t {C : Nat} {T D : Mt} {st b : Nat} : ∀ l a seen y, okL C T D st b a seen y l → y ≤ D st a → tst C T a l ∧ dwl a l = b ∧ y + dwk T a l ≤ D st b := by
  intro l
  induction l with
  | nil =>
    intro a seen y h hy
    have h : a = b := h
    exact ⟨trivial, h, by rw [← h]; exact hy⟩
  | cons c l ih =>
    intro a seen y h hy
    obtain ⟨h1, h2, h3, h4, h5, h6⟩ := h
    obtain ⟨i1, i2, i3⟩ := ih c _ _ h6 h5
    have e1 : dwk T a (c :: l) = T a c + dwk T c l := rfl
    exact ⟨⟨h2, h4, i1⟩, i2, by rw [e1]; omega⟩
/-- yards, then corners, then the row -/
def le3 (t u : Nat × Nat × Nat) : Prop := t.1 < u.1 ∨ (t.1 = u.1 ∧ (t.2.1 < u.2.1 ∨ (t.2.1 = u.2.1 ∧ t.2.2 ≤ u.2.2)))
theorem le3_tr {t u v : Nat × Nat × Nat} (h : le3 t u) (g : le3 u v) : le3 t v := by
  unfold le3 at *
  omega
theorem le3_rf (t : Nat × Nat × Nat) : le3 t t := Or.inr ⟨rfl, Or.inr ⟨rfl, Nat.le_refl _⟩⟩
def lo3 (b b2 : Option (Nat × Nat × Nat)) (S : Nat × Nat × Nat → Prop) : Prop := (b2 = b ∨ ∃ t, b2 = some t ∧ S t) ∧ (∀ t, b = some t → ∃ u, b2 = some u ∧ le3 u t) ∧ ∀ t, S t → ∃ u, b2 = some u ∧ le3 u t
theorem lo3_no {b : Option (Nat × Nat × Nat)} {S : Nat × Nat × Nat → Prop} (h : ∀ t, ¬ S t) : lo3 b b S := ⟨Or.inl rfl, fun t e => ⟨t, e, le3_rf t⟩, fun t e => absurd e (h t)⟩
theorem lo3_im {b b2 : Option (Nat × Nat × Nat)} {S S2 : Nat × Nat × Nat → Prop} (h : lo3 b b2 S) (e : ∀ t, S t ↔ S2 t) : lo3 b b2 S2 := ⟨h.1.imp id (fun ⟨t, h1, h2⟩ => ⟨t, h1, (e t).mp h2⟩), h.2.1, fun t ht => h.2.2 t ((e t).mpr ht)⟩
theorem lo3_tr {b b1 b2 : Option (Nat × Nat × Nat)} {S S2 : Nat × Nat × Nat → Prop} (h : lo3 b b1 S) (g : lo3 b1 b2 S2) : lo3 b b2 (fun t => S t ∨ S2 t) := by
  obtain ⟨h1, h2, h3⟩ := h
  obtain ⟨g1, g2, g3⟩ := g
  refine ⟨?_, fun t ht => ?_, fun t ht => ?_⟩
  · rcases g1 with g1 | ⟨t, g1, g4⟩
    · rcases h1 with h1 | ⟨t, h1, h4⟩
      · exact Or.inl (g1.trans h1)
      · exact Or.inr ⟨t, g1.trans h1, Or.inl h4⟩
    · exact Or.inr ⟨t, g1, Or.inr g4⟩
  · obtain ⟨u, u1, u2⟩ := h2 t ht
    obtain ⟨v, v1, v2⟩ := g2 u u1
    exact ⟨v, v1, le3_tr v2 u2⟩
  · rcases ht with ht | ht
    · obtain ⟨u, u1, u2⟩ := h3 t ht
      obtain ⟨v, v1, v2⟩ := g2 u u1
      exact ⟨v, v1, le3_tr v2 u2⟩
    · exact g3 t ht
/-- what can be come to from here in at most n corners more -/
def waS (C : Nat) (T D : Mt) (st b n a seen y s r : Nat) (t : Nat × Nat × Nat) : Prop := ∃ l : List Nat, l.length ≤ n ∧ okL C T D st b a seen y l ∧ t = (y + dwk T a l, s + l.length, rowL r l)
def waU (C : Nat) (T D : Mt) (st b n a seen y s r e : Nat) (t : Nat × Nat × Nat) : Prop := ∃ c, ∃ l : List Nat, c < e ∧ (c :: l).length ≤ n ∧ okL C T D st b a seen y (c :: l) ∧ t = (y + dwk T a (c :: l), s + (c :: l).length, rowL r (c :: l))
theorem waU_C {C : Nat} {T D : Mt} {st b n a seen y s r : Nat} (h : a ≠ b) (t : Nat × Nat × Nat) : waU C T D st b n a seen y s r C t ↔ waS C T D st b n a seen y s r t := by
  constructor
  · rintro ⟨c, l, -, h2, h3, h4⟩
    exact ⟨c :: l, h2, h3, h4⟩
  · rintro ⟨l, h2, h3, h4⟩
    cases l with
    | nil => exact absurd h3 h
    | cons c l => exact ⟨c, l, h3.2.1, h2, h3, h4⟩
theorem waU_no {C : Nat} {T D : Mt} {st b n a seen y s r e : Nat} (h : ¬ (seen.testBit e = false ∧ T a e ≠ 0 ∧ y + T a e ≤ D st e)) (t : Nat × Nat × Nat) : waU C T D st b n a seen y s r e t ↔ waU C T D st b n a seen y s r (e + 1) t := by
  constructor
  · rintro ⟨c, l, h1, h2⟩
    exact ⟨c, l, by omega, h2⟩
  · rintro ⟨c, l, h1, h2, h3, h4⟩
    by_cases q : c = e
    · subst q
      exact absurd ⟨h3.2.2.1, h3.2.2.2.1, h3.2.2.2.2.1⟩ h
    · exact ⟨c, l, by omega, h2, h3, h4⟩
theorem waU_ye {C : Nat} {T D : Mt} {st b n a seen y s r e : Nat} (hab : a ≠ b) (he : e < C) (h1 : seen.testBit e = false) (h2 : T a e ≠ 0) (h3 : y + T a e ≤ D st e) (t : Nat × Nat × Nat) : (waU C T D st b (n + 1) a seen y s r e t ∨ waS C T D st b n e (seen ||| 2 ^ e) (y + T a e) (s + 1) (10 * r + e) t) ↔ waU C T D st b (n + 1) a seen y s r (e + 1) t := by
  have q : ∀ l : List Nat, (y + T a e + dwk T e l, s + 1 + l.length, rowL (10 * r + e) l) = (y + dwk T a (e :: l), s + (e :: l).length, rowL r (e :: l)) := fun l => by
    have e1 : dwk T a (e :: l) = T a e + dwk T e l := rfl
    rw [e1, List.length_cons, show y + T a e + dwk T e l = y + (T a e + dwk T e l) by omega, show s + 1 + l.length = s + (l.length + 1) by omega]
    rfl
  constructor
  · rintro (⟨c, l, g1, g2⟩ | ⟨l, g1, g2, g3⟩)
    · exact ⟨c, l, by omega, g2⟩
    · exact ⟨e, l, by omega, by rw [List.length_cons]; omega, ⟨hab, he, h1, h2, h3, g2⟩, g3.trans (q l)⟩
  · rintro ⟨c, l, g1, g2, g3, g4⟩
    by_cases z : c = e
    · subst z
      rw [List.length_cons] at g2
      exact Or.inr ⟨l, by omega, g3.2.2.2.2.2, g4.trans (q l).symm⟩
    · exact Or.inl ⟨c, l, by omega, g2, g3, g4⟩
/-- the least of what the reference goes is the greedy row -/
theorem way_main {C : Nat} {T X D : Mt} (h : wyH C T X D) (hC : C ≤ 8) {st b : Nat} (hs : st < C) (hb : b < C) {b2 : Option (Nat × Nat × Nat)} (hl : lo3 none b2 (waS C T D st b (C - 1) st (2 ^ st) 0 1 st)) : (¬ X st b < 1000000 → b2 = none) ∧ ∀ l, grL C T X b st l → X st b = 16 * D st b + l.length → X st b < 1000000 → ∃ t, b2 = some t ∧ t.2.2 = rowL st l := by
  have hh := h
  obtain ⟨h1, h2, h3, h4, h5, h6, h7⟩ := h
  obtain ⟨l1, -, l3⟩ := hl
  have key : ∀ t, waS C T D st b (C - 1) st (2 ^ st) 0 1 st t → ∃ k, k.length ≤ 7 ∧ tst C T st k ∧ dwl st k = b ∧ dwk T st k ≤ D st b ∧ t = (dwk T st k, 1 + k.length, rowL st k) ∧ X st b ≤ 16 * dwk T st k + k.length ∧ D st b ≤ dwk T st k ∧ dwk T st k ≤ 280 := by
    rintro t ⟨k, k1, k2, k3⟩
    obtain ⟨i1, i2, i3⟩ := okL_t k st _ 0 k2 (Nat.zero_le _)
    obtain ⟨j1, j2⟩ := tst_cost hh hb k st hs i1 i2
    have j3 := tst_40 hh k st
    rw [Nat.zero_add] at i3
    refine ⟨k, by omega, i1, i2, i3, ?_, j1, j2, by omega⟩
    rw [k3, Nat.zero_add]
  constructor
  · intro hn
    rcases l1 with e | ⟨t, -, ht⟩
    · exact e
    · obtain ⟨k, k1, k2, k3, k4, k5, k6, k7, k8⟩ := key t ht
      omega
  · intro l hg hx hlt
    have hle := h1 st b hs hb hlt
    have hv : waS C T D st b (C - 1) st (2 ^ st) 0 1 st (dwk T st l, 1 + l.length, rowL st l) := by
      refine ⟨l, by omega, gr_okw hh hC hs hb hlt l st (2 ^ st) 0 0 hs hg (by omega) (fun v hv hb9 => ?_), by rw [Nat.zero_add]⟩
      have : v = st := by
        rw [Nat.testBit_two_pow] at hb9
        exact (of_decide_eq_true hb9).symm
      rw [this]
      exact Nat.le_refl _
    obtain ⟨u, u1, u2⟩ := l3 _ hv
    refine ⟨u, u1, ?_⟩
    rcases l1 with e | ⟨t, e, ht⟩
    · rw [e] at u1
      cases u1
    · rw [e] at u1
      cases u1
      obtain ⟨k, k1, k2, k3, k4, k5, k6, k7, k8⟩ := key _ ht
      obtain ⟨k', k1', k2', k3', k4', k5', k6', k7', k8'⟩ := key _ hv
      have e1 := congrArg Prod.fst k5'
      have e2 := congrArg (fun t => t.2.1) k5'
      have e1 : dwk T st l = dwk T st k' := e1
      have hk : k.length = l.length → rowL st l ≤ rowL st k := fun q => gr_least hh hC hb l st hs hg k st k2 k3 (by omega) q
      rw [k5] at u2 ⊢
      unfold le3 at u2
      have u2 : dwk T st k < dwk T st l ∨ (dwk T st k = dwk T st l ∧ (1 + k.length < 1 + l.length ∨ (1 + k.length = 1 + l.length ∧ rowL st k ≤ rowL st l))) := u2
      show rowL st k = rowL st l
      rcases u2 with q | ⟨q, q2 | ⟨q2, q3⟩⟩
      · omega
      · omega
      · exact Nat.le_antisymm q3 (hk (by omega))
theorem cnt_lw {q : Nat → Bool} {a b : Nat} (h : a ≤ b) : fa_cnt q a ≤ fa_cnt q b := by
  induction b with
  | zero => rw [show a = 0 by omega]; exact Nat.le_refl _
  | succ b ih =>
    by_cases c : a = b + 1
    · rw [c]; exact Nat.le_refl _
    · have := ih (by omega)
      cases hq : q b with
      | true => rw [fa_cnt_yes hq]; omega
      | false => rw [fa_cnt_no hq]; omega
