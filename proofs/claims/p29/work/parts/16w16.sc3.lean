/-! the whole of what is kept: the scene, those behind it, the image; undo, image, back -/
abbrev Wd : Type := Sc × List Sc × Option Sc
def IX (m : xM) (W : Nat) : Option Sc → Prop
  | none => m.1 0 15 = 0
  | some t => m.1 0 15 = 1 ∧ SX m 305 W t
def IM (m : xM) (W : Nat) : Option Sc → Prop
  | none => m.1 314 53 = 0
  | some t => m.1 314 53 = 1 ∧ SM m 333 0 W t
def WX (m : xM) (W : Nat) (w : Wd) : Prop := SX m 89 W w.1 ∧ (∃ x, RX m W x w.2.1) ∧ IX m W w.2.2
def WM (m : xM) (W : Nat) (w : Wd) : Prop := SM m 326 0 W w.1 ∧ RM m W w.2.1 ∧ IM m W w.2.2
def wdV (C S W : Nat) (w : Wd) : Prop := scV C S W w.1 ∧ (∀ t, t ∈ w.2.1 → scV C S W t) ∧ ∀ t, w.2.2 = some t → scV C S W t
theorem IX_f {m m2 : xM} {W : Nat} {im : Option Sc} (h : IX m W im) (q : ∀ a i, (a = 0 ∧ i = 15) ∨ (305 ≤ a ∧ a ≤ 309) → m2.1 a i = m.1 a i) : IX m2 W im := by
  cases im with
  | none => exact (q 0 15 (by omega)).trans h
  | some t => exact ⟨(q 0 15 (by omega)).trans h.1, SX_f h.2 (fun a i z1 z2 => q a i (by omega))⟩
theorem IM_f {m m2 : xM} {W : Nat} {im : Option Sc} (hW : W ≤ 4) (h : IM m W im) (q : ∀ a i, (a = 314 ∧ i = 53) ∨ a = 333 → m2.1 a i = m.1 a i) : IM m2 W im := by
  cases im with
  | none => exact (q 314 53 (by omega)).trans h
  | some t => exact ⟨(q 314 53 (by omega)).trans h.1, SM_f hW h.2 (fun i _ => q _ _ (by omega))⟩
theorem WX_f {m m2 : xM} {W : Nat} {w : Wd} (h : WX m W w) (q : ∀ a i, (a = 0 ∧ i = 15) ∨ (89 ≤ a ∧ a ≤ 93) ∨ (99 ≤ a ∧ a ≤ 300) ∨ (305 ≤ a ∧ a ≤ 309) → m2.1 a i = m.1 a i) : WX m2 W w := by
  obtain ⟨h1, ⟨x, h2⟩, h3⟩ := h
  exact ⟨SX_f h1 (fun a i z1 z2 => q a i (by omega)), ⟨x, RX_f h2 (fun a i z1 z2 => q a i (by omega))⟩, IX_f h3 (fun a i z => q a i (by omega))⟩
theorem WM_f {m m2 : xM} {W : Nat} {w : Wd} (hW : W ≤ 4) (h : WM m W w) (q : ∀ a i, (a = 314 ∧ (i = 42 ∨ i = 53)) ∨ a = 326 ∨ a = 331 ∨ a = 333 → m2.1 a i = m.1 a i) : WM m2 W w := by
  obtain ⟨h1, h2, h3⟩ := h
  exact ⟨SM_f hW h1 (fun i _ => q _ _ (by omega)), RM_f hW h2 (fun a i z => q a i (by omega)), IM_f hW h3 (fun a i z => q a i (by omega))⟩
/-- an act undone -/
def unW : Wd → Option Wd
  | (_, ks, im) => ks.getLast?.map (fun t => (t, ks.dropLast, im))
theorem unW_0 {w : Wd} : w.2.1.length = 0 ↔ unW w = none := by
  obtain ⟨s, ks, im⟩ := w
  cases ks with
  | nil => exact ⟨fun _ => rfl, fun _ => rfl⟩
  | cons a t =>
    refine ⟨fun h => absurd h (by show ¬ (t.length + 1 = 0); omega), fun h => ?_⟩
    replace h : (a :: t).getLast?.map (fun u => ((u, (a :: t).dropLast, im) : Wd)) = none := h
    rw [List.getLast?_cons] at h
    cases h
theorem unW_s {w : Wd} (h : 0 < w.2.1.length) : ∃ t, w.2.1[w.2.1.length - 1]? = some t ∧ unW w = some (t, w.2.1.dropLast, w.2.2) := by
  obtain ⟨s, ks, im⟩ := w
  replace h : 0 < ks.length := h
  refine ⟨ks[ks.length - 1]'(by omega), List.getElem?_eq_getElem _, ?_⟩
  show ks.getLast?.map _ = _
  rw [List.getLast?_eq_getElem?, List.getElem?_eq_getElem (by omega)]
  rfl
theorem dl_at {ks : List Sc} {j : Nat} {t : Sc} (e : ks.dropLast[j]? = some t) : j < ks.length - 1 ∧ ks[j]? = some t := by
  have h : j < ks.dropLast.length := by
    rcases Nat.lt_or_ge j ks.dropLast.length with q | q
    · exact q
    · rw [List.getElem?_eq_none q] at e; cases e
  rw [List.length_dropLast] at h
  refine ⟨h, ?_⟩
  rwa [List.getElem?_dropLast, if_pos h] at e
theorem unW_V {C S W : Nat} {w v : Wd} (h : wdV C S W w) (e : unW w = some v) : wdV C S W v := by
  have h0 : 0 < w.2.1.length := by
    rcases Nat.eq_zero_or_pos w.2.1.length with q | q
    · rw [unW_0.mp q] at e; cases e
    · exact q
  obtain ⟨t, h1, h2⟩ := unW_s h0
  rw [h2] at e
  cases e
  exact ⟨h.2.1 t (List.mem_of_getElem? h1), fun u hu => h.2.1 u (List.dropLast_subset _ hu), h.2.2⟩
theorem WX_undo {m m1 m' : xM} {W x : Nat} {s t : Sc} {ks : List Sc} {im : Option Sc} (hW : W ≤ 4) (h : SX m 89 W s) (hR : RX m W x ks) (hi : IX m W im) (h0 : 0 < ks.length) (e : ks[ks.length - 1]? = some t) (q : scB 89 (101 + 5 * pv1 x) m m1) (q1 : m'.1 99 1 = nI (pv1 x)) (q2 : m'.1 99 2 = nI (ks.length - 1)) (q3 : ∀ a i, ¬ (a = 99 ∧ (i = 1 ∨ i = 2)) → m'.1 a i = m1.1 a i) : WX m' W (t, ks.dropLast, im) := by
  obtain ⟨h1, h2, h3, h4, h5⟩ := hR
  have hp : pv1 x = (x + 39) % 40 := by unfold pv1; split <;> omega
  have es : slt x ks.length (ks.length - 1) = 101 + 5 * pv1 x := by unfold slt; rw [hp]; omega
  have ht := h5 _ t e
  rw [es] at ht
  have f : ∀ a i, ¬ (a = 99 ∧ (i = 1 ∨ i = 2)) → ¬ (89 ≤ a ∧ a ≤ 93) → m'.1 a i = m.1 a i := fun a i z1 z2 => (q3 a i z1).trans (q.2.1 a i (by omega))
  refine ⟨SX_f (SX_c hW ht q) (fun a i z1 z2 => q3 a i (by omega)), ⟨pv1 x, by rw [hp]; omega, q1, by rw [q2, List.length_dropLast], by rw [List.length_dropLast]; omega, fun j u eu => ?_⟩, IX_f hi (fun a i z => f a i (by omega) (by omega))⟩
  obtain ⟨j1, j2⟩ := dl_at eu
  have ej : slt (pv1 x) ks.dropLast.length j = slt x ks.length j := by
    rw [List.length_dropLast, hp]; unfold slt; omega
  rw [ej]
  exact SX_f (h5 j u j2) (fun a i z1 z2 => f a i (by unfold slt at z1; omega) (by unfold slt at z1; omega))
theorem WM_undo {m m' : xM} {W : Nat} {s t : Sc} {ks : List Sc} {im : Option Sc} (hW : W ≤ 4) (hR : RM m W ks) (hi : IM m W im) (h0 : 0 < ks.length) (e : ks[ks.length - 1]? = some t) (q2 : m'.1 314 42 = nI (ks.length - 1)) (q : ∀ k, k < 208 → m'.1 326 k = m.1 331 (208 * (ks.length - 1) + k)) (q3 : ∀ a i, a ≠ 326 → ¬ (a = 314 ∧ (i = 0 ∨ i = 42)) → m'.1 a i = m.1 a i) : WM m' W (t, ks.dropLast, im) := by
  obtain ⟨h1, h2, h3⟩ := hR
  refine ⟨SM_c hW (h3 _ t e) (fun i hi => by rw [Nat.zero_add]; exact q i (by omega)), ⟨by rw [q2, List.length_dropLast], by rw [List.length_dropLast]; omega, fun j u eu => ?_⟩, IM_f hW hi (fun a i z => q3 a i (by omega) (by omega))⟩
  obtain ⟨j1, j2⟩ := dl_at eu
  exact SM_f hW (h3 j u j2) (fun i _ => q3 _ _ (by omega) (by omega))
theorem WX_image {m m1 m' : xM} {W : Nat} {w : Wd} (hW : W ≤ 4) (h : WX m W w) (q : scB 305 89 m m1) (q1 : m'.1 0 15 = 1) (q3 : ∀ a i, ¬ (a = 0 ∧ i = 15) → a < 310 → m'.1 a i = m1.1 a i) : WX m' W (w.1, w.2.1, some w.1) := by
  obtain ⟨h1, ⟨x, h2⟩, h3⟩ := h
  have f : ∀ a i, ¬ (a = 0 ∧ i = 15) → a < 305 → m'.1 a i = m.1 a i := fun a i z1 z2 => (q3 a i z1 (by omega)).trans (q.2.1 a i (by omega))
  exact ⟨SX_f h1 (fun a i z1 z2 => f a i (by omega) (by omega)), ⟨x, RX_f h2 (fun a i z1 z2 => f a i (by omega) (by omega))⟩, q1, SX_f (SX_c hW h1 q) (fun a i z1 z2 => q3 a i (by omega) (by omega))⟩
theorem WM_image {m m' : xM} {W : Nat} {w : Wd} (hW : W ≤ 4) (h : WM m W w) (q1 : m'.1 314 53 = 1) (q : ∀ k, k < 208 → m'.1 333 k = m.1 326 k) (q3 : ∀ a i, a ≠ 333 → ¬ (a = 314 ∧ (i = 0 ∨ i = 53)) → m'.1 a i = m.1 a i) : WM m' W (w.1, w.2.1, some w.1) := by
  obtain ⟨h1, h2, h3⟩ := h
  exact ⟨SM_f hW h1 (fun i _ => q3 _ _ (by omega) (by omega)), RM_f hW h2 (fun a i z => q3 a i (by omega) (by omega)), q1, SM_c hW h1 (fun i hi => by rw [Nat.zero_add]; exact q i (by omega))⟩
theorem WX_back {m m1 m' : xM} {W : Nat} {s t : Sc} {ks : List Sc} (hW : W ≤ 4) (h : WX m W (s, ks, some t)) (q : scB 89 305 m m1) (q1 : m'.1 99 2 = 0) (q3 : ∀ a i, ¬ (a = 99 ∧ i = 2) → a < 302 ∨ 305 ≤ a → m'.1 a i = m1.1 a i) : WX m' W (t, [], some t) := by
  obtain ⟨h1, ⟨x, h2⟩, h3⟩ := h
  have f : ∀ a i, ¬ (a = 99 ∧ i = 2) → a < 302 ∨ 305 ≤ a → ¬ (89 ≤ a ∧ a ≤ 93) → m'.1 a i = m.1 a i := fun a i z1 z2 z3 => (q3 a i z1 z2).trans (q.2.1 a i (by omega))
  exact ⟨SX_f (SX_c hW h3.2 q) (fun a i z1 z2 => q3 a i (by omega) (by omega)), ⟨x, h2.1, by rw [f _ _ (by omega) (by omega) (by omega)]; exact h2.2.1, q1, Nat.zero_le _, fun j u eu => by cases eu⟩, IX_f (im := some t) h3 (fun a i z => f a i (by omega) (by omega) (by omega))⟩
theorem WM_back {m m' : xM} {W : Nat} {s t : Sc} {ks : List Sc} (hW : W ≤ 4) (h : WM m W (s, ks, some t)) (q1 : m'.1 314 42 = 0) (q : ∀ k, k < 208 → m'.1 326 k = m.1 333 k) (q3 : ∀ a i, a ≠ 326 → ¬ (a = 314 ∧ (i = 0 ∨ i = 42)) → m'.1 a i = m.1 a i) : WM m' W (t, [], some t) := by
  obtain ⟨h1, h2, h3⟩ := h
  exact ⟨SM_c hW h3.2 (fun i hi => by rw [Nat.zero_add]; exact q i (by omega)), ⟨q1, Nat.zero_le _, fun j u eu => by cases eu⟩, IM_f hW (im := some t) h3 (fun a i z => q3 a i (by omega) (by omega))⟩
