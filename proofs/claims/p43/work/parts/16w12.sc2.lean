/-! a day and a year of a scene -/
def gAny (C S : Nat) (A B Y : Nat → Nat) (s : Sc) : Nat → Bool := fun p => anyG (chp A B S s.1 C) (wyM C S A B Y s.1) 100000 (s.2.2.2.1 p) C
def dayS (C S W : Nat) (A B Y : Nat → Nat) (s : Sc) : Sc := (s.1, min 999 (s.2.1 + gcn (gAny C S A B Y s) W), s.2.2.1 + 1, s.2.2.2.1, fth (gAny C S A B Y s) s.2.2.2.2.1, s.2.2.2.2.2)
theorem gAny_x {C S : Nat} {A B Y : Nat → Nat} (hC : C ≤ 8) (hS : ∀ s, s < S → A s ≠ B s ∧ 1 ≤ Y s ∧ Y s ≤ 40) (s : Sc) : (fun p => anyG (chp A B S s.1 C) (wyX C S A B Y s.1) 1000000 (s.2.2.2.1 p) C) = gAny C S A B Y s := funext fun _ => anyG_eq (wy_R hC hS) C
theorem fth_le {g : Nat → Bool} {f : Nat → Nat} {p : Nat} (h : f p ≤ 9) : fth g f p ≤ 9 := by
  unfold fth
  split <;> omega
theorem dayS_V {C S W : Nat} {A B Y : Nat → Nat} {s : Sc} (h : scV C S W s) (hd : s.2.2.1 < 999) : scV C S W (dayS C S W A B Y s) := by
  obtain ⟨h1, h2, h3, h4, h5⟩ := h
  exact ⟨h1, by show min 999 _ ≤ 999; omega, by show s.2.2.1 + 1 ≤ 999; omega, fun p hp => ⟨(h4 p hp).1, fth_le (h4 p hp).2⟩, h5⟩
theorem two_16 {S w : Nat} (hS : S ≤ 12) (h : w < 2 ^ S) : w < 65536 := Nat.lt_of_lt_of_le h (Nat.le_trans (Nat.pow_le_pow_right (by omega) hS : (2 : Nat) ^ S ≤ 2 ^ 12) (by decide))
theorem xS_of {m : xM} {C S W : Nat} {s : Sc} (hS : S ≤ 12) (hW : m.1 3 2 = nI W) (hW4 : W ≤ 4) (hv : scV C S W s) (h : SX m 89 W s) : xS m C W s.1 s.2.1 s.2.2.1 s.2.2.2.1 s.2.2.2.2.1 s.2.2.2.2.2 := by
  obtain ⟨v1, v2, v3, v4, v5⟩ := hv
  obtain ⟨h1, h2, h3, h4, h5, h6⟩ := h
  exact ⟨hW, hW4, h1, two_16 hS v1, h2, v2, h3, by omega, fun p hp => ⟨(h4 p hp).1, (v4 p hp).1⟩, fun p hp => ⟨(h4 p hp).2, (v4 p hp).2⟩, h6, fun e he => ⟨h5 e he, v5 e he⟩⟩
theorem mS_of {m : xM} {C S W : Nat} {s : Sc} (hS : S ≤ 12) (hW : m.1 314 27 = nI W) (hW4 : W ≤ 4) (hv : scV C S W s) (h : SM m 326 0 W s) : mS9 m C W s.1 s.2.1 s.2.2.1 (min 60 s.2.2.1) s.2.2.2.1 s.2.2.2.2.1 := by
  obtain ⟨v1, v2, v3, v4, v5⟩ := hv
  obtain ⟨h1, h2, h3, h4, h5, h6⟩ := h
  simp only [Nat.zero_add] at h1 h2 h3 h4 h5
  exact ⟨hW, hW4, h1, two_16 hS v1, h2, v2, h3, by omega, h4, by omega, fun p hp => ⟨(h5 p hp).1, (v4 p hp).1⟩, fun p hp => ⟨(h5 p hp).2, (v4 p hp).2⟩⟩
theorem SX_day {m m' : xM} {C S W : Nat} {A B Y : Nat → Nat} {s : Sc} (h : SX m 89 W s) (q : lvO W s.2.1 s.2.2.1 (gAny C S A B Y s) s.2.2.2.2.1 m m') : SX m' 89 W (dayS C S W A B Y s) := by
  obtain ⟨h1, h2, h3, h4, h5, h6⟩ := h
  obtain ⟨q1, q2, q3, q4, q5, q6⟩ := q
  exact ⟨by rw [q1 _ _ (by omega)]; exact h1, q4, q5, fun p hp => ⟨by rw [q1 _ _ (by omega)]; exact (h4 p hp).1, q2 p hp⟩, fun e he => by rw [q1 _ _ (by omega)]; exact h5 e he, q3⟩
theorem SM_day {m m' : xM} {C S W : Nat} {A B Y : Nat → Nat} {s : Sc} (hW : W ≤ 4) (h : SM m 326 0 W s) (q : gdO W s.2.1 s.2.2.1 (min 60 s.2.2.1) (gAny C S A B Y s) s.2.2.2.2.1 m m') : SM m' 326 0 W (dayS C S W A B Y s) := by
  obtain ⟨h1, h2, h3, h4, h5, h6⟩ := h
  obtain ⟨q1, q2, q3, q4, q5⟩ := q
  simp only [Nat.zero_add] at h1 h2 h3 h4 h5 h6
  refine ⟨?_, ?_, ?_, ?_, fun p hp => ⟨?_, ?_⟩, fun e he => ?_⟩
  · rw [Nat.zero_add, q1 _ _ (by omega)]; exact h1
  · rw [Nat.zero_add]; exact q3
  · rw [Nat.zero_add]; exact q4
  · rw [Nat.zero_add, q5]
    show nI (min 60 (min 60 s.2.2.1 + 1)) = nI (min 60 (s.2.2.1 + 1))
    rw [show min 60 (min 60 s.2.2.1 + 1) = min 60 (s.2.2.1 + 1) by omega]
  · rw [Nat.zero_add, q1 _ _ (by omega)]; exact (h5 p hp).1
  · rw [Nat.zero_add]; exact q2 p hp
  · rw [Nat.zero_add, q1 _ _ (by omega)]; exact h6 e he
/-- what a year's draws change, and where they stand then -/
def yrS (C S W b : Nat) (s : Sc) (x : Int64) : Sc × Int64 :=
  if drN (shf x) 10 < b then ((s.1 ^^^ 2 ^ drN (shf (shf x)) S, s.2), shf (shf x))
  else ((s.1, s.2.1, s.2.2.1, (fun p => if p = drN (shf (shf x)) W then drN (shf (shf (shf x))) C else s.2.2.2.1 p), s.2.2.2.2), shf (shf (shf x)))
theorem yrS_V {C S W b : Nat} {s : Sc} {x : Int64} (h : scV C S W s) (hC : 0 < C) (hS : 0 < S) : scV C S W (yrS C S W b s x).1 ∧ (yrS C S W b s x).1.2.2.1 = s.2.2.1 := by
  obtain ⟨h1, h2, h3, h4, h5⟩ := h
  unfold yrS
  split
  · refine ⟨⟨?_, h2, h3, h4, h5⟩, rfl⟩
    exact Nat.xor_lt_two_pow h1 (Nat.pow_lt_pow_right (by omega) (Nat.mod_lt _ hS))
  · refine ⟨⟨h1, h2, h3, fun p hp => ⟨?_, (h4 p hp).2⟩, h5⟩, rfl⟩
    show (if p = drN (shf (shf x)) W then drN (shf (shf (shf x))) C else s.2.2.2.1 p) < C
    split
    · exact Nat.mod_lt _ hC
    · exact (h4 p hp).1
/-- n years -/
def yrN (C S W b : Nat) (A B Y : Nat → Nat) : Nat → Sc → Int64 → List Sc → Sc × Int64 × List Sc
  | 0, s, x, ks => (s, x, ks)
  | n + 1, s, x, ks => yrN C S W b A B Y n (dayS C S W A B Y (yrS C S W b s x).1) (yrS C S W b s x).2 (psh ks s)
