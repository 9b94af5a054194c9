/-! what a town told by a text is -/
def tS2 (S : tST) : Prop := S.1 ≤ 12 ∧ S.2.1 ≤ 4
theorem tcl_b {N : Nat} {t : Nat → Int32} {S S2 : tST} {h p : Nat} (hS : tS2 S) (e : tcl N t S h = .inl (S2, p)) : tS2 S2 := by
  unfold tcl tcB at e
  obtain ⟨b1, b2⟩ := hS
  split at e
  · obtain ⟨row, -, rfl⟩ := tcR_inl e
    exact ⟨b1, b2⟩
  · split at e
    · rename_i c
      obtain ⟨row, -, rfl⟩ := tcR_inl e
      exact ⟨by show S.1 + 1 ≤ 12; omega, b2⟩
    · split at e
      · rename_i c
        obtain ⟨row, -, rfl⟩ := tcR_inl e
        exact ⟨b1, by show S.2.1 + 1 ≤ 4; omega⟩
      · cases e
theorem twR_b {N : Nat} {t : Nat → Int32} : ∀ f S h S2, tS2 S → twR N t f S h (.inl S2) → tS2 S2 := by
  intro f
  induction f with
  | zero => exact fun _ _ _ _ h => h.elim
  | succ f ih =>
    intro S h S2 hS hr
    unfold twR at hr
    revert hr
    generalize hz : tcl N t S h = z
    intro hr
    match z, hz, hr with
    | .inr w, hz, hr => cases hr
    | .inl (S3, p), hz, hr =>
      dsimp only at hr
      have h3 := tcl_b hS hz
      by_cases c : atv N t p = -1
      · rw [if_pos c] at hr
        rcases hr with ⟨q, e⟩ | ⟨-, e⟩
        · cases e
          exact h3
        · cases e
      · rw [if_neg c] at hr
        exact ih _ _ _ h3 hr
theorem tchF_n {g : Nat → Nat → Nat → Int32} {A B : Nat → Nat} {c S : Nat} (hS : S ≤ 12) (h : ∀ s, s < S → g 1 s 0 = nI (A s) ∧ g 1 s 1 = nI (B s) ∧ A s < 1000 ∧ B s < 1000) : ∀ s, s ≤ S → tchF g c s = nI (tchN A B c s) := by
  intro s
  induction s with
  | zero => exact fun _ => rfl
  | succ s ih =>
    intro hs
    obtain ⟨e0, e1, a1, b1⟩ := h s (by omega)
    have e2 := ih (by omega)
    have eor : nI (tchN A B c s) ||| nI (2 ^ s) = nI (tchN A B c s ||| 2 ^ s) := fa_or _ _
    have e3 : nI (tchN A B c s ||| 2 ^ s) ||| nI (2 ^ s) = nI (tchN A B c s ||| 2 ^ s) := by
      rw [show nI (tchN A B c s ||| 2 ^ s) ||| nI (2 ^ s) = nI (tchN A B c s ||| 2 ^ s ||| 2 ^ s) from fa_or _ _, Nat.or_assoc, Nat.or_self]
    unfold tchF tchN
    rw [e0, e1, nI_clamp (by omega), nI_clamp (by omega), e2, shl_n (by omega), eor]
    by_cases c1 : B s = c <;> by_cases c0 : A s = c
    · rw [if_pos c1, if_pos c0, if_pos (Or.inl c0), e3]
    · rw [if_pos c1, if_neg c0, if_pos (Or.inr c1), eor]
    · rw [if_neg c1, if_pos c0, if_pos (Or.inl c0)]
    · rw [if_neg c1, if_neg c0, if_neg (fun q => q.elim c0 c1), Nat.or_zero]
