/-! what can be come to, by sweeps over the streets -/
def itn (F : Nat → Nat) : Nat → Nat → Nat
  | 0, x => x
  | k + 1, x => F (itn F k x)
theorem itn_s {F : Nat → Nat} {k x : Nat} : itn F (k + 1) x = F (itn F k x) := rfl
theorem itn_ad {F : Nat → Nat} {k x : Nat} : ∀ j, itn F (k + j) x = itn F j (itn F k x)
  | 0 => rfl
  | j + 1 => by
    show F (itn F (k + j) x) = F (itn F j (itn F k x))
    rw [itn_ad j]
theorem itn_fx {F : Nat → Nat} {y : Nat} (h : F y = y) : ∀ j, itn F j y = y
  | 0 => rfl
  | j + 1 => by
    show F (itn F j y) = y
    rw [itn_fx h j, h]
theorem itn_u {F : Nat → Nat} {k x : Nat} (h : F (itn F k x) = itn F k x) (g : F (itn F 8 x) = itn F 8 x) : itn F 8 x = itn F k x := by
  rcases Nat.lt_or_ge 8 k with c | c
  · have e := itn_ad (F := F) (k := 8) (x := x) (k - 8)
    rw [show 8 + (k - 8) = k by omega, itn_fx g] at e
    exact e.symm
  · have e := itn_ad (F := F) (k := k) (x := x) (8 - k)
    rw [show k + (8 - k) = 8 by omega, itn_fx h] at e
    exact e
/-- one sweep over the first s streets -/
def swp (A B : Nat → Nat) (w : Nat) : Nat → Nat → Nat
  | 0, y => y
  | s + 1, y => if w.testBit s = false ∧ ((swp A B w s y).testBit (A s) = true ∨ (swp A B w s y).testBit (B s) = true) then swp A B w s y ||| (2 ^ A s ||| 2 ^ B s) else swp A B w s y
theorem swp_t {A B : Nat → Nat} {w s y : Nat} (h : w.testBit s = false) (h2 : (swp A B w s y).testBit (A s) = true ∨ (swp A B w s y).testBit (B s) = true) : swp A B w (s + 1) y = swp A B w s y ||| (2 ^ A s ||| 2 ^ B s) := if_pos ⟨h, h2⟩
theorem swp_f {A B : Nat → Nat} {w s y : Nat} (h : ¬ (w.testBit s = false ∧ ((swp A B w s y).testBit (A s) = true ∨ (swp A B w s y).testBit (B s) = true))) : swp A B w (s + 1) y = swp A B w s y := if_neg h
theorem swp_sub {A B : Nat → Nat} {w y i : Nat} (hy : y.testBit i = true) : ∀ s, (swp A B w s y).testBit i = true
  | 0 => hy
  | s + 1 => by
    have ih := swp_sub (A := A) (B := B) (w := w) hy s
    by_cases c : w.testBit s = false ∧ ((swp A B w s y).testBit (A s) = true ∨ (swp A B w s y).testBit (B s) = true)
    · rw [swp_t c.1 c.2, Nat.testBit_or, ih]
      rfl
    · rw [swp_f c]; exact ih
theorem swp_lt {A B : Nat → Nat} {C S w y : Nat} (hS : ∀ s, s < S → A s < C ∧ B s < C) (hy : y < 2 ^ C) : ∀ s, s ≤ S → swp A B w s y < 2 ^ C
  | 0, _ => hy
  | s + 1, hs => by
    have ih := swp_lt (w := w) hS hy s (by omega)
    obtain ⟨h1, h2⟩ := hS s (by omega)
    by_cases c : w.testBit s = false ∧ ((swp A B w s y).testBit (A s) = true ∨ (swp A B w s y).testBit (B s) = true)
    · rw [swp_t c.1 c.2]
      exact Nat.or_lt_two_pow ih (Nat.or_lt_two_pow (Nat.pow_lt_pow_right (by omega) h1) (Nat.pow_lt_pow_right (by omega) h2))
    · rw [swp_f c]; exact ih
theorem swp_full {A B : Nat → Nat} {C S w y : Nat} (hS : ∀ s, s < S → A s < C ∧ B s < C) (hy : y < 2 ^ C) (hf : ∀ i, i < C → y.testBit i = true) : ∀ s, s ≤ S → swp A B w s y = y := fun s hs => by
  refine Nat.eq_of_testBit_eq (fun i => ?_)
  by_cases c : i < C
  · rw [swp_sub (hf i c) s, hf i c]
  · have h1 := swp_lt (w := w) hS hy s hs
    have h2 : (2 : Nat) ^ C ≤ 2 ^ i := Nat.pow_le_pow_right (by omega) (by omega)
    rw [Nat.testBit_lt_two_pow (Nat.lt_of_lt_of_le h1 h2), Nat.testBit_lt_two_pow (Nat.lt_of_lt_of_le hy h2)]
theorem pcv_mono {a b : Nat} : ∀ C, (∀ i, i < C → a.testBit i = true → b.testBit i = true) → pcv a C ≤ pcv b C
  | 0, _ => Nat.le_refl _
  | C + 1, h => by
    have ih := pcv_mono C (fun i hi => h i (by omega))
    have h1 := h C (by omega)
    show pcv a C + (if a.testBit C then 1 else 0) ≤ pcv b C + (if b.testBit C then 1 else 0)
    by_cases c : a.testBit C = true
    · rw [if_pos c, if_pos (h1 c)]; omega
    · rw [if_neg c]; omega
theorem pcv_gt {a b j : Nat} (ha : a.testBit j = false) (hb : b.testBit j = true) : ∀ C, j < C → (∀ i, i < C → a.testBit i = true → b.testBit i = true) → pcv a C < pcv b C
  | 0, hj, _ => absurd hj (Nat.not_lt_zero _)
  | C + 1, hj, h => by
    show pcv a C + (if a.testBit C then 1 else 0) < pcv b C + (if b.testBit C then 1 else 0)
    by_cases e : j = C
    · subst e
      have := pcv_mono (a := a) (b := b) j (fun i hi => h i (by omega))
      rw [if_neg (by rw [ha]; decide), if_pos hb]
      omega
    · have ih := pcv_gt ha hb C (by omega) (fun i hi => h i (by omega))
      have h1 := h C (by omega)
      by_cases c : a.testBit C = true
      · rw [if_pos c, if_pos (h1 c)]; omega
      · rw [if_neg c]; omega
theorem pcv_full {y : Nat} : ∀ C, C ≤ pcv y C → ∀ i, i < C → y.testBit i = true
  | 0, _, i, hi => absurd hi (Nat.not_lt_zero _)
  | C + 1, h, i, hi => by
    have l := pcv_le y C
    replace h : C + 1 ≤ pcv y C + (if y.testBit C then 1 else 0) := h
    by_cases c : y.testBit C = true
    · rw [if_pos c] at h
      by_cases e : i = C
      · rw [e]; exact c
      · exact pcv_full C (by omega) i (by omega)
    · rw [if_neg c] at h
      omega
theorem pcv_pos {y j : Nat} (h : y.testBit j = true) : ∀ C, j < C → 1 ≤ pcv y C
  | 0, hj => absurd hj (Nat.not_lt_zero _)
  | C + 1, hj => by
    show 1 ≤ pcv y C + (if y.testBit C then 1 else 0)
    by_cases e : j = C
    · rw [← e, if_pos h]; omega
    · have := pcv_pos h C (by omega)
      omega
theorem swp_it {A B : Nat → Nat} {C S w c : Nat} (hS : ∀ s, s < S → A s < C ∧ B s < C) (hc : c < C) : ∀ k, itn (swp A B w S) k (2 ^ c) < 2 ^ C
  | 0 => Nat.pow_lt_pow_right (by omega) hc
  | k + 1 => swp_lt hS (swp_it hS hc k) S (Nat.le_refl _)
theorem swp_gr {A B : Nat → Nat} {C S w c : Nat} (hS : ∀ s, s < S → A s < C ∧ B s < C) (hc : c < C) : ∀ k, swp A B w S (itn (swp A B w S) k (2 ^ c)) = itn (swp A B w S) k (2 ^ c) ∨ k + 1 ≤ pcv (itn (swp A B w S) k (2 ^ c)) C
  | 0 => Or.inr (pcv_pos (j := c) (Nat.testBit_two_pow_self) C hc)
  | k + 1 => by
    have l1 := swp_it (w := w) hS hc k
    have l2 := swp_lt (w := w) hS l1 S (Nat.le_refl _)
    rw [itn_s]
    rcases swp_gr (w := w) hS hc k with h | h
    · exact Or.inl (by rw [h, h])
    · generalize itn (swp A B w S) k (2 ^ c) = z at *
      by_cases e : swp A B w S z = z
      · exact Or.inl (by rw [e, e])
      · refine Or.inr ?_
        have sb : ∀ i, i < C → z.testBit i = true → (swp A B w S z).testBit i = true := fun i _ hi => swp_sub hi S
        by_cases x : ∃ j, j < C ∧ z.testBit j = false ∧ (swp A B w S z).testBit j = true
        · obtain ⟨j, j1, j2, j3⟩ := x
          have := pcv_gt j2 j3 C j1 sb
          omega
        · refine absurd (Nat.eq_of_testBit_eq (fun i => ?_)) e
          by_cases c9 : i < C
          · cases hz : z.testBit i with
            | true => exact sb i c9 hz
            | false =>
              cases hs : (swp A B w S z).testBit i with
              | true => exact absurd ⟨i, c9, hz, hs⟩ x
              | false => rfl
          · have h2 : (2 : Nat) ^ C ≤ 2 ^ i := Nat.pow_le_pow_right (by omega) (by omega)
            rw [Nat.testBit_lt_two_pow (Nat.lt_of_lt_of_le l2 h2), Nat.testBit_lt_two_pow (Nat.lt_of_lt_of_le l1 h2)]
theorem swp_fix {A B : Nat → Nat} {C S w c k : Nat} (hS : ∀ s, s < S → A s < C ∧ B s < C) (hc : c < C) (hk : C ≤ k + 1) : swp A B w S (itn (swp A B w S) k (2 ^ c)) = itn (swp A B w S) k (2 ^ c) := by
  rcases swp_gr (w := w) hS hc k with h | h
  · exact h
  · exact swp_full hS (swp_it hS hc k) (pcv_full C (by omega)) S (Nat.le_refl _)
/-- the corners that one can come to from c -/
def rcF (A B : Nat → Nat) (S w c : Nat) : Nat := itn (swp A B w S) 8 (2 ^ c)
theorem rcF_u {A B : Nat → Nat} {C S w c k : Nat} (hS : ∀ s, s < S → A s < C ∧ B s < C) (hC : C ≤ 8) (hc : c < C) (h : swp A B w S (itn (swp A B w S) k (2 ^ c)) = itn (swp A B w S) k (2 ^ c)) : rcF A B S w c = itn (swp A B w S) k (2 ^ c) := itn_u h (swp_fix hS hc (by omega))
theorem anb {y a b : Nat} : y &&& (2 ^ a ||| 2 ^ b) = 0 ↔ ¬ (y.testBit a = true ∨ y.testBit b = true) := by
  constructor
  · intro h hc
    have t : ∀ i, (y &&& (2 ^ a ||| 2 ^ b)).testBit i = false := fun i => by rw [h]; exact Nat.zero_testBit i
    rcases hc with hc | hc
    · have := t a
      rw [Nat.testBit_and, Nat.testBit_or, hc, Nat.testBit_two_pow_self, Bool.true_or] at this
      cases this
    · have := t b
      rw [Nat.testBit_and, Nat.testBit_or, hc, Nat.testBit_two_pow_self, Bool.or_true] at this
      cases this
  · intro h
    refine Nat.eq_of_testBit_eq (fun i => ?_)
    rw [Nat.zero_testBit, Nat.testBit_and, Nat.testBit_or]
    by_cases ea : i = a
    · rw [ea, eq_false_of_ne_true (fun q => h (Or.inl q)), Bool.false_and]
    · by_cases eb : i = b
      · rw [eb, eq_false_of_ne_true (fun q => h (Or.inr q)), Bool.false_and]
      · rw [Nat.testBit_two_pow_of_ne (fun q => ea q.symm), Nat.testBit_two_pow_of_ne (fun q => eb q.symm), Bool.or_false, Bool.and_false]
