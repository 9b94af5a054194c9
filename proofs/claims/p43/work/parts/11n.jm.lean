/-! L2: what holds of the reference's town, carried along -/
def jM (m : xM) : Prop := (∀ e : Nat, e < 12 → (e : Int) < (m.1 314 26).toInt → (0 ≤ (m.1 320 (4 * e)).toInt ∧ (m.1 320 (4 * e)).toInt ≤ 7) ∧ (0 ≤ (m.1 320 (4 * e + 1)).toInt ∧ (m.1 320 (4 * e + 1)).toInt ≤ 7) ∧ (0 ≤ (m.1 320 (4 * e + 2)).toInt ∧ (m.1 320 (4 * e + 2)).toInt ≤ 40)) ∧ (0 < (m.1 314 26).toInt → 1 ≤ (m.1 314 27).toInt ∧ 2 ≤ (m.1 314 25).toInt)
def jmB (c : aCt) : Bool := c.2.2.2.2.all (fun q => !(Nat.beq q.1 320) && (!(Nat.beq q.1 314) || (Nat.ble q.2.2 25 || Nat.ble 28 q.2.1)))
theorem jM_st {c : aCt} (h : jmB c = true) : ∀ m0 m, gM m0 c.2.2.2.2 m → jM m0 → jM m := by
  intro m0 m hM hj
  have key : ∀ a i, (a = 320 ∨ (a = 314 ∧ 25 ≤ i ∧ i < 28)) → m.1 a i = m0.1 a i := by
    intro a i ha
    apply hM
    cases e : wm1 c.2.2.2.2 a i with
    | false => rfl
    | true =>
      obtain ⟨q, hq, hq2⟩ := List.any_eq_true.mp e
      have h1 := List.all_eq_true.mp h q hq
      simp only [Bool.and_eq_true, Bool.or_eq_true, Bool.not_eq_true', beqN, beqF, bleN, bltN] at hq2 h1
      omega
  refine ⟨fun e he h1 => ?_, fun h1 => ?_⟩
  · rw [key 314 26 (Or.inr ⟨rfl, by omega, by omega⟩)] at h1
    rw [key 320 _ (Or.inl rfl), key 320 _ (Or.inl rfl), key 320 _ (Or.inl rfl)]
    exact hj.1 e he h1
  · rw [key 314 26 (Or.inr ⟨rfl, by omega, by omega⟩)] at h1
    rw [key 314 27 (Or.inr ⟨rfl, by omega, by omega⟩), key 314 25 (Or.inr ⟨rfl, by omega, by omega⟩)]
    exact hj.2 h1
