/-! L2: isIn of the reference -/
theorem cmp_cs (x y : Int64) : (x.toInt < y.toInt ∧ lg_cmp x y = -1) ∨ (x.toInt = y.toInt ∧ lg_cmp x y = 0) ∨ (y.toInt < x.toInt ∧ lg_cmp x y = 1) := by
  unfold lg_cmp
  by_cases h : x > y
  · have h1 := (fa_lt64 y x).mp h
    rw [if_pos h]
    exact Or.inr (Or.inr ⟨h1, rfl⟩)
  · rw [if_neg h]
    have h1 : ¬ y.toInt < x.toInt := fun z => h ((fa_lt64 y x).mpr z)
    by_cases h2 : x = y
    · rw [if_pos h2]
      exact Or.inr (Or.inl ⟨by rw [h2], rfl⟩)
    · rw [if_neg h2]
      have h3 : ¬ x.toInt = y.toInt := fun z => h2 (Int64.toInt_inj.mp z)
      exact Or.inl ⟨by omega, rfl⟩
theorem cmp_lt {x y : Int64} : lg_cmp x y < 0 ↔ x.toInt < y.toInt := by
  rcases cmp_cs x y with ⟨h, e⟩ | ⟨h, e⟩ | ⟨h, e⟩ <;> rw [e]
  · exact ⟨fun _ => h, fun _ => by decide⟩
  · exact ⟨fun z => absurd z (by decide), fun z => by omega⟩
  · exact ⟨fun z => absurd z (by decide), fun z => by omega⟩
theorem cmp_gt {x y : Int64} : 0 < lg_cmp x y ↔ y.toInt < x.toInt := by
  rcases cmp_cs x y with ⟨h, e⟩ | ⟨h, e⟩ | ⟨h, e⟩ <;> rw [e]
  · exact ⟨fun z => absurd z (by decide), fun z => by omega⟩
  · exact ⟨fun z => absurd z (by decide), fun z => by omega⟩
  · exact ⟨fun _ => h, fun _ => by decide⟩
theorem isin_ok {J : xM → Prop} {tS : Nat → List (Nat × Int × Int)} {tR : Nat → Nat → Option Nat} (a b c d : Int) : vC tS tR J 1 (155, [aLt, aL a b, aL c d], [], [(some (aI 1 1), [(a, d), (lLo, lHi), (lLo, lHi)], []), (some (aI 0 0), [(lLo, lHi), (lLo, lHi), (lLo, lHi)], [])], []) := by
  intro e he m vs P hI _ hv hF hP
  obtain ⟨e, rfl⟩ : ∃ f, e = f + 1 := ⟨e - 1, by omega⟩
  match vs, hv with
  | [v, w, u], hv =>
    obtain ⟨x, rfl, hx, -⟩ := aH_long hv.1 (Nat.le_refl 2)
    obtain ⟨y, rfl, hy, -⟩ := aH_long hv.2.1 (Nat.le_refl 2)
    obtain ⟨z, rfl, hz, -⟩ := aH_long hv.2.2.1 (Nat.le_refl 2)
    have hy : a ≤ y.toInt ∧ y.toInt ≤ b := hy
    have hz : c ≤ z.toInt ∧ z.toInt ≤ d := hz
    have full : ∀ w9 : Int64, (∀ z9, Value.long w9 = .int z9 → lLo ≤ z9.toInt ∧ z9.toInt ≤ lHi) ∧ ∀ v9, Value.long w9 = .long v9 → lLo ≤ v9.toInt ∧ v9.toInt ≤ lHi := fun w9 => ⟨fun z9 h9 => (by cases h9), fun v9 _ => i64_rng v9⟩
    have hno : P (some (.int 0)) m := hP _ _ ⟨hI, fun a i _ => rfl, _, List.mem_cons_of_mem _ (List.mem_singleton.mpr rfl), ⟨_, rfl, Or.inr (Or.inl ⟨rfl, 0, rfl, ⟨by show (0 : Int) ≤ 0; omega, by show (0 : Int) ≤ 0; omega⟩, trivial⟩)⟩, ⟨full _, full _, full _, trivial⟩, gF_nil⟩
    have hyes : a ≤ x.toInt → x.toInt ≤ d → P (some (.int 1)) m := fun h1 h2 => hP _ _ ⟨hI, fun a i _ => rfl, _, List.mem_cons_self, ⟨_, rfl, Or.inr (Or.inl ⟨rfl, 1, rfl, ⟨by show (1 : Int) ≤ 1; omega, by show (1 : Int) ≤ 1; omega⟩, trivial⟩)⟩, ⟨⟨fun z9 h9 => (by cases h9), fun v9 h9 => (by cases h9; exact ⟨h1, h2⟩)⟩, full _, full _, trivial⟩, gF_nil⟩
    refine ⟨rfl, rfl, (by show 6 ≤ 6; decide), 20, ?_⟩
    show (lg_cmp x y < 0 → (([] : List Value) = [] ∧ (kr 155 = 1 ∨ (kr 155 = 2 ∧ ((0 : Int32) = 0 ∨ (0 : Int32) = 1))) ∧ P (some (.int 0)) m)) ∧ (¬ lg_cmp x y < 0 → ((0 < lg_cmp x z → (([] : List Value) = [] ∧ (kr 155 = 1 ∨ (kr 155 = 2 ∧ ((0 : Int32) = 0 ∨ (0 : Int32) = 1))) ∧ P (some (.int 0)) m)) ∧ (¬ 0 < lg_cmp x z → (([] : List Value) = [] ∧ (kr 155 = 1 ∨ (kr 155 = 2 ∧ ((1 : Int32) = 0 ∨ (1 : Int32) = 1))) ∧ P (some (.int 1)) m))))
    refine ⟨fun _ => ⟨rfl, Or.inr ⟨rfl, Or.inl rfl⟩, hno⟩, fun h1 => ⟨fun _ => ⟨rfl, Or.inr ⟨rfl, Or.inl rfl⟩, hno⟩, fun h2 => ⟨rfl, Or.inr ⟨rfl, Or.inr rfl⟩, ?_⟩⟩⟩
    have g1 : ¬ x.toInt < y.toInt := fun q => h1 (cmp_lt.mpr q)
    have g2 : ¬ z.toInt < x.toInt := fun q => h2 (cmp_gt.mpr q)
    exact hyes (by omega) (by omega)
  | [], hv => exact hv.elim
  | [_], hv => exact hv.2.elim
  | [_, _], hv => exact hv.2.2.elim
  | _ :: _ :: _ :: _ :: _, hv => exact hv.2.2.2.elim
