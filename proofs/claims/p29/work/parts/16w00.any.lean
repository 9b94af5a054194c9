/-! whether one has a goal, as a function; how many go -/
def anyG (ch : Nat) (t : Mt) (U h : Nat) : Nat → Bool
  | 0 => false
  | e + 1 => anyG ch t U h e || (ch.testBit e && decide (t h e < U))
theorem anyG_t {ch U h : Nat} {t : Mt} : ∀ {C : Nat}, anyG ch t U h C = true ↔ ∃ e, e < C ∧ isG ch t U h e
  | 0 => by
    constructor
    · intro q
      cases q
    · rintro ⟨e, q, -⟩
      exact absurd q (Nat.not_lt_zero _)
  | C + 1 => by
    unfold anyG
    rw [Bool.or_eq_true, anyG_t, Bool.and_eq_true, decide_eq_true_eq]
    constructor
    · rintro (⟨e, h1, h2⟩ | h)
      · exact ⟨e, by omega, h2⟩
      · exact ⟨C, by omega, h⟩
    · rintro ⟨e, h1, h2⟩
      by_cases c : e = C
      · subst c
        exact Or.inr h2
      · exact Or.inl ⟨e, by omega, h2⟩
theorem anyG_f {ch U h C : Nat} {t : Mt} : anyG ch t U h C = false ↔ ∀ e, e < C → ¬ isG ch t U h e := by
  constructor
  · intro q e he hg
    rw [anyG_t.mpr ⟨e, he, hg⟩] at q
    cases q
  · intro q
    cases c : anyG ch t U h C with
    | false => rfl
    | true =>
      obtain ⟨e, he, hg⟩ := anyG_t.mp c
      exact absurd hg (q e he)
theorem anyG_eq {ch U V h : Nat} {t s : Mt} (hts : ∀ a b, t a b < U ↔ s a b < V) : ∀ C, anyG ch t U h C = anyG ch s V h C
  | 0 => rfl
  | C + 1 => by
    unfold anyG
    rw [anyG_eq hts C]
    congr 2
    exact decide_eq_decide.mpr (hts h C)
/-- how many of the first p walkers have a goal -/
def gcn (g : Nat → Bool) : Nat → Nat
  | 0 => 0
  | p + 1 => gcn g p + (if g p then 1 else 0)
theorem gcn_s {g : Nat → Bool} {p : Nat} : gcn g (p + 1) = gcn g p + (if g p then 1 else 0) := rfl
theorem gcn_le {g : Nat → Bool} : ∀ p, gcn g p ≤ p
  | 0 => Nat.le_refl _
  | p + 1 => by
    have := gcn_le (g := g) p
    rw [gcn_s]
    split <;> omega
/-- faith behind a day -/
def fth (g : Nat → Bool) (f : Nat → Nat) : Nat → Nat := fun p => if g p then f p else f p - 1
