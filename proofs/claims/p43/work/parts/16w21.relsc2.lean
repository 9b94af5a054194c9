def ysL : List (Nat × Nat × Int32) := [(3, 0, 0), (3, 1, 0), (3, 2, 0), (314, 25, 0), (314, 26, 0), (314, 27, 0), (89, 0, 0), (89, 1, 0), (89, 2, 0), (99, 1, 0), (99, 2, 0), (0, 15, 0), (326, 24, 0), (326, 25, 0), (326, 26, 0), (326, 27, 0), (314, 42, 0), (314, 53, 0), (0, 16, 1), (314, 35, 1), (84, 4, 0), (314, 51, 0)] ++ ((List.range 8).map (fun e => (23, e, 0)) ++ ((List.range 8).map (fun e => (90, e, 0)) ++ ((List.range 8).map (fun e => (91, e, 0)) ++ (List.range 8).map (fun e => (326, 2 * e + 1, 0)))))
def ysS (z : List (Nat × Nat × Int32)) : Bool := ysL.all (fun q => decide (yI z q.1 q.2.1 = q.2.2))
theorem ys_8 {e : Nat} (h : e < 8) : ((23, e, 0) : Nat × Nat × Int32) ∈ ysL ∧ ((90, e, 0) : Nat × Nat × Int32) ∈ ysL ∧ ((91, e, 0) : Nat × Nat × Int32) ∈ ysL ∧ ((326, 2 * e + 1, 0) : Nat × Nat × Int32) ∈ ysL := by
  rcases (by omega : e = 0 ∨ e = 1 ∨ e = 2 ∨ e = 3 ∨ e = 4 ∨ e = 5 ∨ e = 6 ∨ e = 7) with rfl | rfl | rfl | rfl | rfl | rfl | rfl | rfl <;> decide
theorem ysS_ok {z : yS} (h : ysS z.1 = true) : relS (ym z) := by
  have g : ∀ a i v, (a, i, v) ∈ ysL → (ym z).1 a i = v := fun a i v hm => by
    have := List.all_eq_true.mp h _ hm
    exact of_decide_eq_true this
  have z0 : nI 0 = 0 := rfl
  have z1 : nI 1 = 1 := rfl
  refine ⟨0, 0, 0, 1, 0, fun _ => 0, fun _ => 0, fun _ => 0, ((0, 0, 0, fun _ => 0, fun _ => 0, fun _ => 0), [], none), ⟨g 3 0 0 (by decide), g 3 1 0 (by decide), by decide, by decide, fun s hs => absurd hs (Nat.not_lt_zero _), fun c hc => ?_⟩, ⟨g 314 25 0 (by decide), g 314 26 0 (by decide), by decide, by decide, fun s hs => absurd hs (Nat.not_lt_zero _)⟩, Iff.rfl, g 3 2 0 (by decide), g 314 27 0 (by decide), by decide, fun q => absurd q (Nat.not_lt_zero _), ⟨⟨by decide, by decide, by decide, fun p hp => absurd hp (Nat.not_lt_zero _), fun e he => Nat.zero_le _⟩, fun t ht => (by cases ht), fun t ht => (by cases ht)⟩, ⟨⟨g 89 0 0 (by decide), g 89 1 0 (by decide), g 89 2 0 (by decide), fun p hp => absurd hp (Nat.not_lt_zero _), fun e he => g 91 e 0 (ys_8 he).2.2.1, fun e he => ⟨0, g 90 e 0 (ys_8 he).2.1, by decide⟩⟩, ⟨0, by decide, g 99 1 0 (by decide), g 99 2 0 (by decide), by decide, fun j s e => (by cases e)⟩, g 0 15 0 (by decide)⟩, ⟨⟨g 326 24 0 (by decide), g 326 25 0 (by decide), g 326 26 0 (by decide), g 326 27 0 (by decide), fun p hp => absurd hp (Nat.not_lt_zero _), fun e he => ?_⟩, ⟨g 314 42 0 (by decide), by decide, fun j s e => (by cases e)⟩, g 314 53 0 (by decide)⟩, g 0 16 1 (by decide), g 314 35 1 (by decide), by decide, g 84 4 0 (by decide), g 314 51 0 (by decide), by decide⟩
  · have e := g 23 c 0 (ys_8 hc).1
    exact e
  · rw [Nat.zero_add]
    exact g 326 (2 * e + 1) 0 (ys_8 he).2.2.2
