/-! L2: an instruction by intervals says what it does -/
theorem beqN {a b : Nat} : Nat.beq a b = true ↔ a = b := ⟨Nat.eq_of_beq_eq_true, fun h => by subst h; simp⟩
theorem beqF {a b : Nat} : Nat.beq a b = false ↔ a ≠ b := by
  constructor
  · intro h e
    subst e
    simp at h
  · intro h
    cases e : Nat.beq a b with
    | false => rfl
    | true => exact absurd (Nat.eq_of_beq_eq_true e) h
theorem bleN {a b : Nat} : Nat.ble a b = true ↔ a ≤ b := by rw [Nat.ble_eq]
theorem bltN {a b : Nat} : Nat.blt a b = true ↔ a < b := by simp [Nat.blt_eq]
-- lists of locals
theorem lkl_h {i : Nat} {v : Value} {l : List (Nat × Value)} : lkl i ((i, v) :: l) = some v := by
  unfold lkl
  rw [beqN.mpr rfl]
  rfl
theorem lkl_t {i j : Nat} {v : Value} {l : List (Nat × Value)} (h : i ≠ j) : lkl j ((i, v) :: l) = lkl j l := by
  show (bif Nat.beq i j then some v else lkl j l) = _
  rw [beqF.mpr h]
  rfl
theorem lkA_h {i : Nat} {v : aV} {l : aLs} : lkA i ((i, v) :: l) = some v := by
  show (bif Nat.beq i i then some v else lkA i l) = _
  rw [beqN.mpr rfl]
  rfl
theorem lkA_t {i j : Nat} {v : aV} {l : aLs} (h : i ≠ j) : lkA j ((i, v) :: l) = lkA j l := by
  show (bif Nat.beq i j then some v else lkA j l) = _
  rw [beqF.mpr h]
  rfl
theorem lkl_f {p : Nat × Value → Bool} {j : Nat} {x : Value} : ∀ {l : List (Nat × Value)}, lkl j l = some x → p (j, x) = true → lkl j (l.filter p) = some x
  | [], h, _ => by cases h
  | (i, v) :: l, h, hp => by
    by_cases e : i = j
    · subst e
      rw [lkl_h] at h
      cases h
      rw [List.filter_cons_of_pos hp, lkl_h]
    · rw [lkl_t e] at h
      have h2 := lkl_f h hp
      cases hq : p (i, v) with
      | true => rw [List.filter_cons_of_pos hq, lkl_t e]; exact h2
      | false => rw [List.filter_cons_of_neg (by rw [hq]; simp)]; exact h2
theorem lkA_f {p : Nat → Bool} {j : Nat} : ∀ {l : aLs} {v : aV}, lkA j (l.filter (fun q => p q.1)) = some v → lkA j l = some v ∧ p j = true
  | [], v, h => by cases h
  | (i, w) :: l, v, h => by
    cases hq : p i with
    | true =>
      rw [List.filter_cons_of_pos (p := fun q : Nat × aV => p q.1) hq] at h
      by_cases e : i = j
      · subst e
        rw [lkA_h] at h ⊢
        exact ⟨h, hq⟩
      · rw [lkA_t e] at h ⊢
        exact lkA_f h
    | false =>
      rw [List.filter_cons_of_neg (p := fun q : Nat × aV => p q.1) (by show ¬ p i = true; rw [hq]; simp)] at h
      have h2 := lkA_f h
      by_cases e : i = j
      · subst e
        rw [hq] at h2
        cases h2.2
      · rw [lkA_t e]
        exact h2
theorem sv1_ne {i j : Nat} {v x : Value} {l : List (Nat × Value)} (h : lkl j l = some x) (hj : j ≠ i) (hc : ¬ (j + 1 = i ∧ x.category = 2)) : lkl j (sv1 i v l) = some x := by
  unfold sv1
  rw [lkl_t (Ne.symm hj)]
  refine lkl_f h ?_
  simp only [Bool.and_eq_true, Bool.not_eq_true', beq_eq_false_iff_ne, Bool.and_eq_false_iff]
  refine ⟨hj, ?_⟩
  by_cases e : j + 1 = i
  · right; intro z; exact hc ⟨e, z⟩
  · left; exact e
theorem sv2_ne {i j : Nat} {v x : Value} {l : List (Nat × Value)} (h : lkl j l = some x) (hj : j ≠ i) (hj2 : j ≠ i + 1) (hc : ¬ (j + 1 = i ∧ x.category = 2)) : lkl j (sv2 i v l) = some x := by
  unfold sv2
  rw [lkl_t (Ne.symm hj)]
  refine lkl_f h ?_
  simp only [Bool.and_eq_true, Bool.not_eq_true', beq_eq_false_iff_ne, Bool.and_eq_false_iff]
  refine ⟨hj, hj2, ?_⟩
  by_cases e : j + 1 = i
  · right; intro z; exact hc ⟨e, z⟩
  · left; exact e
-- states
def gL (s0 : Nat → Int) (l : List (Nat × Value)) (L : aLs) : Prop := ∀ j v, lkA j L = some v → ∃ x, lkl j l = some x ∧ aH s0 x v
def gSt (s0 : Nat → Int) (l : List (Nat × Value)) (m : xM) : List Value → List aV → Prop
  | [], [] => True
  | x :: st, a :: S => aG s0 l m x a ∧ gSt s0 l m st S
  | _, _ => False
def gF (m : xM) (F : aFs) : Prop := ∀ a i r, fct a i F = some r → r.1 ≤ (m.1 a i).toInt ∧ (m.1 a i).toInt ≤ r.2
def gI (tS : Nat → List (Nat × Int × Int)) (tR : Nat → Nat → Option Nat) (m : xM) : Prop := (∀ a i, (gseg i (tS a)).1 ≤ (m.1 a i).toInt ∧ (m.1 a i).toInt ≤ (gseg i (tS a)).2) ∧ ∀ a i b, tR a i = some b → m.2.2 a i = some b
def gM (m0 : xM) (M : List (Nat × Nat × Nat)) (m : xM) : Prop := ∀ a i, wm1 M a i = false → m.1 a i = m0.1 a i
theorem aH_ref {s0 : Nat → Int} {x : Value} {a : aV} (h : aH s0 x a) (hk : a.1 = 0) : ∃ b, x = .ref b ∧ b ∈ a.2.1 := by
  rcases h with ⟨_, h⟩ | ⟨h, _⟩ | ⟨h, _⟩
  · exact h
  · omega
  · omega
theorem aH_int {s0 : Nat → Int} {x : Value} {a : aV} (h : aH s0 x a) (hk : a.1 = 1) : ∃ z, x = .int z ∧ (a.2.2.1 ≤ z.toInt ∧ z.toInt ≤ a.2.2.2.1) ∧ tOk s0 z a.2.2.2.2.2 := by
  rcases h with ⟨h, _⟩ | ⟨_, h⟩ | ⟨h, _⟩
  · omega
  · exact h
  · omega
theorem aH_long {s0 : Nat → Int} {x : Value} {a : aV} (h : aH s0 x a) (hk : 2 ≤ a.1) : ∃ w, x = .long w ∧ (a.2.2.1 ≤ w.toInt ∧ w.toInt ≤ a.2.2.2.1) ∧ (a.1 = 3 → w ≠ 0) := by
  rcases h with ⟨h, _⟩ | ⟨h, _⟩ | ⟨_, h⟩
  · omega
  · omega
  · exact h
theorem aH_I {s0 : Nat → Int} {x : Int32} {a : aV} (hk : a.1 = 1) (h : a.2.2.1 ≤ x.toInt ∧ x.toInt ≤ a.2.2.2.1) (ht : tOk s0 x a.2.2.2.2.2) : aH s0 (.int x) a := Or.inr (Or.inl ⟨hk, x, rfl, h, ht⟩)
theorem aH_L {s0 : Nat → Int} {x : Int64} {a : aV} (hk : a.1 = 2) (h : a.2.2.1 ≤ x.toInt ∧ x.toInt ≤ a.2.2.2.1) : aH s0 (.long x) a := Or.inr (Or.inr ⟨Or.inl hk, x, rfl, h, fun z => by omega⟩)
theorem aH_R {s0 : Nat → Int} {b : Nat} {a : aV} (hk : a.1 = 0) (h : b ∈ a.2.1) : aH s0 (.ref b) a := Or.inl ⟨hk, b, rfl, h⟩
theorem sK_0 {l : List (Nat × Value)} {m : xM} {v : Value} {s : aS} (h : s.1 = 0) : sK l m v s := ⟨fun x _ => ⟨fun z => by omega, fun z => by omega, fun z => by omega⟩, fun w _ => ⟨fun z => by omega, fun z => by omega⟩⟩
theorem aG_I {s0 : Nat → Int} {l : List (Nat × Value)} {m : xM} {x : Int32} {lo hi : Int} (h : lo ≤ x.toInt ∧ x.toInt ≤ hi) : aG s0 l m (.int x) (aI lo hi) := ⟨aH_I rfl h trivial, sK_0 rfl⟩
theorem aG_L {s0 : Nat → Int} {l : List (Nat × Value)} {m : xM} {x : Int64} {lo hi : Int} (h : lo ≤ x.toInt ∧ x.toInt ≤ hi) : aG s0 l m (.long x) (aL lo hi) := ⟨aH_L rfl h, sK_0 rfl⟩
theorem aG_R {s0 : Nat → Int} {l : List (Nat × Value)} {m : xM} {b : Nat} {cs : List Nat} (h : b ∈ cs) : aG s0 l m (.ref b) (aR cs) := ⟨aH_R rfl h, sK_0 rfl⟩
theorem aG_It {s0 : Nat → Int} {l : List (Nat × Value)} {m : xM} {x : Int32} : aG s0 l m (.int x) aIt := aG_I (i32_rng x)
theorem aG_Lt {s0 : Nat → Int} {l : List (Nat × Value)} {m : xM} {x : Int64} : aG s0 l m (.long x) aLt := aG_L (i64_rng x)
theorem aH_ns {s0 : Nat → Int} {x : Value} {a : aV} (h : aH s0 x a) : aH s0 x (aNs a) := h
theorem gSt_c {s0 : Nat → Int} {l : List (Nat × Value)} {m : xM} {st : List Value} {a : aV} {S : List aV} (h : gSt s0 l m st (a :: S)) : ∃ x r, st = x :: r ∧ aG s0 l m x a ∧ gSt s0 l m r S := by
  cases st with
  | nil => exact h.elim
  | cons x r => exact ⟨x, r, rfl, h.1, h.2⟩
theorem gSt_n {s0 : Nat → Int} {l : List (Nat × Value)} {m : xM} {st : List Value} (h : gSt s0 l m st []) : st = [] := by
  cases st with
  | nil => rfl
  | cons x r => exact h.elim
theorem gSt_map {s0 : Nat → Int} {l l' : List (Nat × Value)} {m m' : xM} {f : aV → aV} (hf : ∀ x a, aG s0 l m x a → aG s0 l' m' x (f a)) : ∀ {st : List Value} {S : List aV}, gSt s0 l m st S → gSt s0 l' m' st (S.map f)
  | [], [], _ => trivial
  | x :: st, a :: S, h => ⟨hf x a h.1, gSt_map hf h.2⟩
  | [], _ :: _, h => h.elim
  | _ :: _, [], h => h.elim
theorem gSt_int {s0 : Nat → Int} {l : List (Nat × Value)} {m : xM} {st : List Value} {a : aV} {S : List aV} (h : gSt s0 l m st (a :: S)) (hk : a.1 = 1) : ∃ x r, st = .int x :: r ∧ (a.2.2.1 ≤ x.toInt ∧ x.toInt ≤ a.2.2.2.1) ∧ tOk s0 x a.2.2.2.2.2 ∧ sOk l m x a.2.2.2.2.1 ∧ gSt s0 l m r S := by
  obtain ⟨x, r, e, h1, h2⟩ := gSt_c h
  obtain ⟨z, e2, h3, h4⟩ := aH_int h1.1 hk
  subst e2
  exact ⟨z, r, e, h3, h4, h1.2.1 z rfl, h2⟩
theorem gSt_long {s0 : Nat → Int} {l : List (Nat × Value)} {m : xM} {st : List Value} {a : aV} {S : List aV} (h : gSt s0 l m st (a :: S)) (hk : 2 ≤ a.1) : ∃ x r, st = .long x :: r ∧ (a.2.2.1 ≤ x.toInt ∧ x.toInt ≤ a.2.2.2.1) ∧ (a.1 = 3 → x ≠ 0) ∧ sOkL l x a.2.2.2.2.1 ∧ gSt s0 l m r S := by
  obtain ⟨x, r, e, h1, h2⟩ := gSt_c h
  obtain ⟨z, e2, h3, h4⟩ := aH_long h1.1 hk
  subst e2
  exact ⟨z, r, e, h3, h4, h1.2.2 z rfl, h2⟩
theorem gSt_ref {s0 : Nat → Int} {l : List (Nat × Value)} {m : xM} {st : List Value} {a : aV} {S : List aV} (h : gSt s0 l m st (a :: S)) (hk : a.1 = 0) : ∃ b r, st = .ref b :: r ∧ b ∈ a.2.1 ∧ gSt s0 l m r S := by
  obtain ⟨x, r, e, h1, h2⟩ := gSt_c h
  obtain ⟨z, e2, h3⟩ := aH_ref h1.1 hk
  subst e2
  exact ⟨z, r, e, h3, h2⟩
-- sources after a store into a local
theorem aG_kil {s0 : Nat → Int} {l l' : List (Nat × Value)} {m : xM} {j : Nat} (hl : ∀ i x, lkl i l = some x → i ≠ j → ¬ (i + 1 = j ∧ x.category = 2) → lkl i l' = some x) (x : Value) (a : aV) (h : aG s0 l m x a) : aG s0 l' m x (bif sdj j a then aNs a else a) := by
  cases e : sdj j a with
  | true => exact ⟨aH_ns h.1, sK_0 rfl⟩
  | false =>
    show aG s0 l' m x a
    refine ⟨h.1, fun z hz => ?_, fun w hw => ?_⟩
    · obtain ⟨g1, g2, g3⟩ := h.2.1 z hz
      simp only [sdj, Bool.or_eq_false_iff, Bool.and_eq_false_iff, beqF] at e
      obtain ⟨e1, e2⟩ := e
      refine ⟨fun c => hl _ _ (g1 c) (by rcases e1 with e1 | e1 <;> omega) (fun z => by cases z.2), g2, fun c => ?_⟩
      obtain ⟨w, g4, g5⟩ := g3 c
      refine ⟨w, hl _ _ g4 ?_ ?_, g5⟩ <;> rcases e2 with ⟨e2, e3⟩ | ⟨e2, e3⟩ <;> omega
    · obtain ⟨g1, g2⟩ := h.2.2 w hw
      have hk : Nat.ble 2 a.1 = true := by
        rcases h.1 with ⟨_, b, hb, _⟩ | ⟨_, b, hb, _⟩ | ⟨h1, _⟩
        · rw [hw] at hb; cases hb
        · rw [hw] at hb; cases hb
        · exact bleN.mpr (by omega)
      simp only [sdj, Bool.or_eq_false_iff, Bool.and_eq_false_iff, beqF, hk] at e
      obtain ⟨e1, e2⟩ := e
      refine ⟨fun c => ?_, fun c => ?_⟩
      · obtain ⟨z, g4, g5⟩ := g1 c
        exact ⟨z, hl _ _ g4 (by rcases e1 with e1 | e1 <;> omega) (fun z => by cases z.2), g5⟩
      · refine hl _ _ (g2 c) ?_ ?_ <;> rcases e2 with ⟨e2, e3 | e3⟩ | ⟨e2, e3⟩ <;> first | omega | cases e3
theorem gSt_kil {s0 : Nat → Int} {l l' : List (Nat × Value)} {m : xM} {j : Nat} (hl : ∀ i x, lkl i l = some x → i ≠ j → ¬ (i + 1 = j ∧ x.category = 2) → lkl i l' = some x) {st : List Value} {S : List aV} (h : gSt s0 l m st S) : gSt s0 l' m st (kilJ j S) := by
  unfold kilJ
  rw [qmp_eq]
  exact gSt_map (aG_kil hl) h
theorem lng_of {s0 : Nat → Int} {l : List (Nat × Value)} {L : aLs} (h : gL s0 l L) {i j : Nat} {v : aV} {x : Value} (hv : lkA i L = some v) (hx : lkl i l = some x) (hj : i + 1 = j) (hn : lngA j L = false) : x.category = 1 := by
  subst hj
  unfold lngA at hn
  simp only [hv] at hn
  obtain ⟨y, hy, hh⟩ := h i v hv
  rw [hx] at hy
  cases hy
  rcases hh with ⟨_, b, hb, _⟩ | ⟨_, b, hb, _⟩ | ⟨h1, _⟩
  · rw [hb]; rfl
  · rw [hb]; rfl
  · rw [bleN.mpr (by omega)] at hn; cases hn
theorem gL_st1 {s0 : Nat → Int} {l : List (Nat × Value)} {L : aLs} (h : gL s0 l L) {j : Nat} {v : aV} {x : Value} (hx : aH s0 x v) : gL s0 (sv1 j x l) (st1A j v L) := by
  intro i w hw
  unfold st1A at hw
  rw [qfl_eq] at hw
  by_cases e : j = i
  · subst e
    rw [lkA_h] at hw
    cases hw
    exact ⟨x, lkl_h, aH_ns hx⟩
  · rw [lkA_t e] at hw
    obtain ⟨h1, h2⟩ := lkA_f (p := fun q => !(Nat.beq q j) && !(Nat.beq (q + 1) j && lngA j L)) hw
    obtain ⟨y, h3, h4⟩ := h i w h1
    refine ⟨y, sv1_ne h3 (Ne.symm e) (fun z => ?_), h4⟩
    simp only [Bool.and_eq_true, Bool.not_eq_true', Bool.and_eq_false_iff, beqF] at h2
    rcases h2.2 with h5 | h5
    · exact h5 z.1
    · have := lng_of h h1 h3 z.1 h5
      omega
theorem gL_st2 {s0 : Nat → Int} {l : List (Nat × Value)} {L : aLs} (h : gL s0 l L) {j : Nat} {v : aV} {x : Value} (hx : aH s0 x v) : gL s0 (sv2 j x l) (st2A j v L) := by
  intro i w hw
  unfold st2A at hw
  rw [qfl_eq] at hw
  by_cases e : j = i
  · subst e
    rw [lkA_h] at hw
    cases hw
    exact ⟨x, lkl_h, aH_ns hx⟩
  · rw [lkA_t e] at hw
    obtain ⟨h1, h2⟩ := lkA_f (p := fun q => !(Nat.beq q j) && (!(Nat.beq q (j + 1)) && !(Nat.beq (q + 1) j && lngA j L))) hw
    obtain ⟨y, h3, h4⟩ := h i w h1
    simp only [Bool.and_eq_true, Bool.not_eq_true', Bool.and_eq_false_iff, beqF] at h2
    refine ⟨y, sv2_ne h3 (Ne.symm e) h2.2.1 (fun z => ?_), h4⟩
    rcases h2.2.2 with h5 | h5
    · exact h5 z.1
    · have := lng_of h h1 h3 z.1 h5
      omega
