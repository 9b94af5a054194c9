/-! a town's scene, told apart from where it lies; what is kept of it on both sides -/
abbrev Sc : Type := Nat × Nat × Nat × (Nat → Nat) × (Nat → Nat) × (Nat → Nat)
def scV (C S W : Nat) (s : Sc) : Prop := s.1 < 2 ^ S ∧ s.2.1 ≤ 999 ∧ s.2.2.1 ≤ 999 ∧ (∀ p, p < W → s.2.2.2.1 p < C ∧ s.2.2.2.2.1 p ≤ 9) ∧ ∀ e, e < 8 → s.2.2.2.2.2 e ≤ 3
/-- the scene s at the class's cells b .. -/
def SX (m : xM) (b W : Nat) (s : Sc) : Prop := m.1 b 0 = nI s.1 ∧ m.1 b 1 = nI s.2.1 ∧ m.1 b 2 = nI s.2.2.1 ∧ (∀ p, p < W → m.1 (b + 3) p = nI (s.2.2.2.1 p) ∧ m.1 (b + 4) p = nI (s.2.2.2.2.1 p)) ∧ (∀ e, e < 8 → m.1 (b + 2) e = nI (s.2.2.2.2.2 e)) ∧ ∀ e, e < 8 → ∃ k, m.1 (b + 1) e = nI k ∧ k ≤ 999
/-- the scene s in the reference's row at o of the cell q -/
def SM (m : xM) (q o W : Nat) (s : Sc) : Prop := m.1 q (o + 24) = nI s.1 ∧ m.1 q (o + 25) = nI s.2.1 ∧ m.1 q (o + 26) = nI s.2.2.1 ∧ m.1 q (o + 27) = nI (min 60 s.2.2.1) ∧ (∀ p, p < W → m.1 q (o + (16 + 2 * p)) = nI (s.2.2.2.1 p) ∧ m.1 q (o + (17 + 2 * p)) = nI (s.2.2.2.2.1 p)) ∧ ∀ e, e < 8 → m.1 q (o + (2 * e + 1)) = nI (s.2.2.2.2.2 e)
theorem SX_f {m m2 : xM} {b W : Nat} {s : Sc} (h : SX m b W s) (q : ∀ a i, b ≤ a → a ≤ b + 4 → m2.1 a i = m.1 a i) : SX m2 b W s := by
  obtain ⟨h1, h2, h3, h4, h5, h6⟩ := h
  exact ⟨by rw [q _ _ (by omega) (by omega)]; exact h1, by rw [q _ _ (by omega) (by omega)]; exact h2, by rw [q _ _ (by omega) (by omega)]; exact h3, fun p hp => by rw [q _ _ (by omega) (by omega), q _ _ (by omega) (by omega)]; exact h4 p hp, fun e he => by rw [q _ _ (by omega) (by omega)]; exact h5 e he, fun e he => by rw [q _ _ (by omega) (by omega)]; exact h6 e he⟩
theorem SM_f {m m2 : xM} {q o W : Nat} {s : Sc} (hW : W ≤ 4) (h : SM m q o W s) (k : ∀ i, i < 28 → m2.1 q (o + i) = m.1 q (o + i)) : SM m2 q o W s := by
  obtain ⟨h1, h2, h3, h4, h5, h6⟩ := h
  exact ⟨by rw [k 24 (by omega)]; exact h1, by rw [k 25 (by omega)]; exact h2, by rw [k 26 (by omega)]; exact h3, by rw [k 27 (by omega)]; exact h4, fun p hp => by rw [k _ (by omega), k _ (by omega)]; exact h5 p hp, fun e he => by rw [k _ (by omega)]; exact h6 e he⟩
/-- a row copied holds the same scene -/
theorem SM_c {m m2 : xM} {q o q2 o2 W : Nat} {s : Sc} (hW : W ≤ 4) (h : SM m q o W s) (k : ∀ i, i < 28 → m2.1 q2 (o2 + i) = m.1 q (o + i)) : SM m2 q2 o2 W s := by
  obtain ⟨h1, h2, h3, h4, h5, h6⟩ := h
  exact ⟨by rw [k 24 (by omega)]; exact h1, by rw [k 25 (by omega)]; exact h2, by rw [k 26 (by omega)]; exact h3, by rw [k 27 (by omega)]; exact h4, fun p hp => by rw [k _ (by omega), k _ (by omega)]; exact h5 p hp, fun e he => by rw [k _ (by omega)]; exact h6 e he⟩
theorem SX_c {m m2 : xM} {b b2 W : Nat} {s : Sc} (hW : W ≤ 4) (h : SX m b W s) (q : scB b2 b m m2) : SX m2 b2 W s := by
  obtain ⟨h1, h2, h3, h4, h5, h6⟩ := h
  obtain ⟨q1, q2, q3, q4, q5⟩ := q
  exact ⟨by rw [q3 _ (by omega)]; exact h1, by rw [q3 _ (by omega)]; exact h2, by rw [q3 _ (by omega)]; exact h3, fun p hp => by rw [(q5 p (by omega)).1, (q5 p (by omega)).2]; exact h4 p hp, fun e he => by rw [(q4 e he).2]; exact h5 e he, fun e he => by rw [(q4 e he).1]; exact h6 e he⟩
def psh (ks : List Sc) (s : Sc) : List Sc := (if ks.length < 40 then ks else ks.tail) ++ [s]
def slt (x n j : Nat) : Nat := 101 + 5 * ((x + 40 - n + j) % 40)
def RX (m : xM) (W x : Nat) (ks : List Sc) : Prop := x < 40 ∧ m.1 99 1 = nI x ∧ m.1 99 2 = nI ks.length ∧ ks.length ≤ 40 ∧ ∀ j s, ks[j]? = some s → SX m (slt x ks.length j) W s
def RM (m : xM) (W : Nat) (ks : List Sc) : Prop := m.1 314 42 = nI ks.length ∧ ks.length ≤ 40 ∧ ∀ j s, ks[j]? = some s → SM m 331 (208 * j) W s
theorem RX_f {m m2 : xM} {W x : Nat} {ks : List Sc} (h : RX m W x ks) (q : ∀ a i, 99 ≤ a → a ≤ 300 → m2.1 a i = m.1 a i) : RX m2 W x ks := by
  obtain ⟨h1, h2, h3, h4, h5⟩ := h
  refine ⟨h1, by rw [q _ _ (by omega) (by omega)]; exact h2, by rw [q _ _ (by omega) (by omega)]; exact h3, h4, fun j s e => SX_f (h5 j s e) (fun a i p1 p2 => q a i ?_ ?_)⟩
  · unfold slt at p1; omega
  · unfold slt at p2; omega
theorem RM_f {m m2 : xM} {W : Nat} {ks : List Sc} (hW : W ≤ 4) (h : RM m W ks) (q : ∀ a i, (a = 314 ∧ i = 42) ∨ a = 331 → m2.1 a i = m.1 a i) : RM m2 W ks := by
  obtain ⟨h1, h2, h3⟩ := h
  exact ⟨by rw [q _ _ (by omega)]; exact h1, h2, fun j s e => SM_f hW (h3 j s e) (fun i hi => q _ _ (by omega))⟩
theorem psh_len {ks : List Sc} {s : Sc} (h : ks.length ≤ 40) : (psh ks s).length = min (ks.length + 1) 40 := by
  unfold psh
  rw [List.length_append, List.length_singleton]
  split
  · omega
  · rw [List.length_tail]; omega
theorem psh_at {ks : List Sc} {s t : Sc} {j : Nat} (h : ks.length ≤ 40) (e : (psh ks s)[j]? = some t) : (j = min ks.length 39 ∧ t = s) ∨ (ks.length < 40 ∧ j < ks.length ∧ ks[j]? = some t) ∨ (ks.length = 40 ∧ j < 39 ∧ ks[j + 1]? = some t) := by
  unfold psh at e
  split at e
  · rename_i c
    rcases Nat.lt_or_ge j ks.length with hj | hj
    · rw [List.getElem?_append_left hj] at e
      exact Or.inr (Or.inl ⟨c, hj, e⟩)
    · rw [List.getElem?_append_right hj] at e
      have : j - ks.length = 0 := by
        by_cases z : j - ks.length = 0
        · exact z
        · rw [List.getElem?_eq_none (by rw [List.length_singleton]; omega)] at e
          cases e
      rw [this] at e
      cases e
      exact Or.inl ⟨by omega, rfl⟩
  · rename_i c
    have hl : ks.tail.length = 39 := by rw [List.length_tail]; omega
    rcases Nat.lt_or_ge j 39 with hj | hj
    · rw [List.getElem?_append_left (by omega), List.getElem?_tail] at e
      exact Or.inr (Or.inr ⟨by omega, hj, e⟩)
    · rw [List.getElem?_append_right (by omega), hl] at e
      have : j - 39 = 0 := by
        by_cases z : j - 39 = 0
        · exact z
        · rw [List.getElem?_eq_none (by rw [List.length_singleton]; omega)] at e
          cases e
      rw [this] at e
      cases e
      exact Or.inl ⟨by omega, rfl⟩
theorem RX_psh {m mk : xM} {W x : Nat} {ks : List Sc} {s : Sc} (hW : W ≤ 4) (h : RX m W x ks) (hs : SX m 89 W s) (q : kpO x ks.length m mk) : RX mk W (nx1 x) (psh ks s) := by
  obtain ⟨h1, h2, h3, h4, h5⟩ := h
  obtain ⟨m1, s1, k1, k2, -, k3⟩ := q
  have hl := psh_len (s := s) h4
  have hx : nx1 x = (x + 1) % 40 := by unfold nx1; split <;> omega
  refine ⟨by rw [hx]; omega, k1, by rw [k2, hl], by rw [hl]; omega, fun j t e => ?_⟩
  have old : ∀ b t, 101 ≤ b → b ≤ 296 → (b + 5 ≤ 101 + 5 * x ∨ 101 + 5 * x + 5 ≤ b) → SX m b W t → SX mk b W t := fun b t p1 p2 p3 p => SX_f p (fun a i z1 z2 => by rw [k3 a i (by omega), s1.2.1 a i (by omega)])
  rw [hl, hx]
  rcases psh_at h4 e with ⟨rfl, rfl⟩ | ⟨c1, c2, c3⟩ | ⟨c1, c2, c3⟩
  · have e1 : slt ((x + 1) % 40) (min (ks.length + 1) 40) (min ks.length 39) = 101 + 5 * x := by unfold slt; omega
    rw [e1]
    exact SX_f (SX_c hW hs s1) (fun a i z1 z2 => k3 a i (by omega))
  · have e1 : slt ((x + 1) % 40) (min (ks.length + 1) 40) j = slt x ks.length j := by unfold slt; omega
    rw [e1]
    exact old _ _ (by unfold slt; omega) (by unfold slt; omega) (by unfold slt; omega) (h5 j t c3)
  · have e1 : slt ((x + 1) % 40) (min (ks.length + 1) 40) j = slt x ks.length (j + 1) := by unfold slt; omega
    rw [e1]
    exact old _ _ (by unfold slt; omega) (by unfold slt; omega) (by unfold slt; omega) (h5 (j + 1) t c3)
theorem RM_psh {m mk : xM} {W : Nat} {ks : List Sc} {s : Sc} (hW : W ≤ 4) (h : RM m W ks) (hs : SM m 326 0 W s) (q : rmO ks.length m mk) : RM mk W (psh ks s) := by
  obtain ⟨h1, h2, h3⟩ := h
  obtain ⟨-, q1, q2, q3, q4⟩ := q
  have hl := psh_len (s := s) h2
  refine ⟨by rw [q2, hl], by rw [hl]; omega, fun j t e => ?_⟩
  rcases psh_at h2 e with ⟨rfl, rfl⟩ | ⟨c1, c2, c3⟩ | ⟨c1, c2, c3⟩
  · by_cases c : ks.length < 40
    · rw [show min ks.length 39 = ks.length by omega]
      exact SM_c hW hs (fun i hi => by rw [(q3 c).2 i (by omega), Nat.zero_add])
    · rw [show min ks.length 39 = 39 by omega]
      exact SM_c hW hs (fun i hi => by rw [show 208 * 39 + i = 8112 + i by omega, (q4 (by omega)).2 i (by omega), Nat.zero_add])
  · exact SM_f hW (h3 j t c3) (fun i hi => (q3 c1).1 _ (by omega))
  · exact SM_c hW (h3 (j + 1) t c3) (fun i hi => by rw [(q4 c1).1 _ (by omega), show 208 * j + i + 208 = 208 * (j + 1) + i by omega])
