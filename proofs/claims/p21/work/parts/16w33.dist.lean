/-! how far: the tables hold the least ways; the class's yards are the reference's -/
theorem fwB_eq {o a : Nat} {c : Mt} (h0 : c o o = 0) : ∀ b, fwB o a c b = fun i j => if i = a ∧ j < b then min (c a j) (c a o + c o j) else c i j := by
  intro b
  induction b with
  | zero =>
    funext i j
    rw [if_neg (by omega)]
    rfl
  | succ b ih =>
    have e1 : fwB o a c b a b = c a b := by rw [ih]; exact if_neg (by omega)
    have e2 : fwB o a c b a o = c a o := by
      rw [ih]
      show (if a = a ∧ o < b then min (c a o) (c a o + c o o) else c a o) = c a o
      rw [h0, Nat.add_zero, Nat.min_self]
      split <;> rfl
    have e3 : fwB o a c b o b = c o b := by rw [ih]; exact if_neg (by omega)
    rw [fwB_s, e1, e2, e3]
    funext i j
    by_cases e : i = a ∧ j = b
    · obtain ⟨rfl, rfl⟩ := e
      rw [mst_at, if_pos ⟨rfl, Nat.lt_succ_self _⟩]
    · rw [mst_ne e, ih]
      show (if i = a ∧ j < b then min (c a j) (c a o + c o j) else c i j) = _
      by_cases e2 : i = a ∧ j < b
      · rw [if_pos e2, if_pos ⟨e2.1, by omega⟩]
      · rw [if_neg e2, if_neg (by omega)]
theorem fwA_eq {C o : Nat} {c : Mt} (h0 : c o o = 0) : ∀ a, fwA C o c a = fun i j => if i < a ∧ j < C then min (c i j) (c i o + c o j) else c i j := by
  intro a
  induction a with
  | zero =>
    funext i j
    rw [if_neg (by omega)]
    rfl
  | succ a ih =>
    have e1 : ∀ j, fwA C o c a a j = c a j := fun j => by rw [ih]; exact if_neg (by omega)
    have e2 : ∀ j, fwA C o c a o j = c o j := fun j => by
      rw [ih]
      show (if o < a ∧ j < C then min (c o j) (c o o + c o j) else c o j) = c o j
      rw [h0, Nat.zero_add, Nat.min_self]
      split <;> rfl
    rw [fwA_s, fwB_eq ((e2 o).trans h0)]
    funext i j
    rw [e1, e1, e2]
    by_cases e : i = a ∧ j < C
    · obtain ⟨rfl, e⟩ := e
      rw [if_pos ⟨rfl, e⟩, if_pos ⟨Nat.lt_succ_self _, e⟩]
    · rw [if_neg e, ih]
      show (if i < a ∧ j < C then min (c i j) (c i o + c o j) else c i j) = _
      by_cases e3 : i < a ∧ j < C
      · rw [if_pos e3, if_pos ⟨by omega, e3.2⟩]
      · rw [if_neg e3, if_neg (by omega)]
theorem fwO_d {C : Nat} {c : Mt} (h0 : ∀ i, c i i = 0) : ∀ o i, fwO C c o i i = 0 := by
  intro o
  induction o with
  | zero => exact h0
  | succ o ih =>
    intro i
    rw [fwO_s, fwA_eq (ih o)]
    show (if i < C ∧ i < C then min (fwO C c o i i) (fwO C c o i o + fwO C c o o i) else fwO C c o i i) = 0
    rw [ih i, Nat.zero_min]
    split <;> rfl
theorem fwO_st {C : Nat} {c : Mt} (h0 : ∀ i, c i i = 0) (o : Nat) {i j : Nat} (hi : i < C) (hj : j < C) : fwO C c (o + 1) i j = min (fwO C c o i j) (fwO C c o i o + fwO C c o o j) := by
  rw [fwO_s, fwA_eq (fwO_d h0 o o)]
  exact if_pos ⟨hi, hj⟩
theorem fwO_tr {C : Nat} {c : Mt} (h0 : ∀ i, c i i = 0) : ∀ o, o ≤ C → ∀ k, k < o → ∀ i j, i < C → j < C → fwO C c o i j ≤ fwO C c o i k + fwO C c o k j := by
  intro o
  induction o with
  | zero => exact fun _ k hk => absurd hk (Nat.not_lt_zero _)
  | succ o ih =>
    intro ho k hk i j hi hj
    rw [fwO_st h0 o hi hj, fwO_st h0 o hi (by omega : k < C), fwO_st h0 o (by omega : k < C) hj]
    have d := fwO_d (C := C) h0 o o
    rcases Nat.lt_or_ge k o with h | h
    · have a1 := ih (by omega) k h i j hi hj
      have a2 := ih (by omega) k h i o hi (by omega)
      have a3 := ih (by omega) k h o j (by omega) hj
      omega
    · have ek : k = o := by omega
      subst ek
      omega
theorem fwO_dn {C : Nat} {c : Mt} (h0 : ∀ i, c i i = 0) {i j : Nat} (hi : i < C) (hj : j < C) : ∀ o, fwO C c o i j ≤ c i j := by
  intro o
  induction o with
  | zero => exact Nat.le_refl _
  | succ o ih =>
    rw [fwO_st h0 o hi hj]
    omega
/-- what a walk costs, where it ends -/
def dwk (D : Mt) : Nat → List Nat → Nat
  | _, [] => 0
  | a, b :: l => D a b + dwk D b l
def dwl : Nat → List Nat → Nat
  | a, [] => a
  | _, b :: l => dwl b l
theorem dwl_ap : ∀ (l1 l2 : List Nat) (a : Nat), dwl a (l1 ++ l2) = dwl (dwl a l1) l2
  | [], _, _ => rfl
  | b :: l1, l2, _ => dwl_ap l1 l2 b
theorem dwk_ap {D : Mt} : ∀ (l1 l2 : List Nat) (a : Nat), dwk D a (l1 ++ l2) = dwk D a l1 + dwk D (dwl a l1) l2
  | [], l2, a => by show dwk D a l2 = 0 + dwk D a l2; rw [Nat.zero_add]
  | b :: l1, l2, a => by
    show D a b + dwk D b (l1 ++ l2) = D a b + dwk D b l1 + dwk D (dwl b l1) l2
    rw [dwk_ap l1 l2 b, Nat.add_assoc]
theorem dwl_lt {C : Nat} : ∀ (l : List Nat) (a : Nat), a < C → (∀ x, x ∈ l → x < C) → dwl a l < C
  | [], _, h, _ => h
  | b :: l, _, _, h => dwl_lt l b (h b List.mem_cons_self) (fun x hx => h x (List.mem_cons_of_mem _ hx))
theorem fw_all {C : Nat} {c : Mt} (h0 : ∀ i, c i i = 0) : ∀ (l : List Nat) (a : Nat), a < C → (∀ x, x ∈ l → x < C) → fwO C c C a (dwl a l) ≤ dwk c a l
  | [], a, _, _ => by
    show fwO C c C a a ≤ 0
    rw [fwO_d h0 C a]
    exact Nat.le_refl _
  | b :: l, a, ha, h => by
    have hb : b < C := h b List.mem_cons_self
    have hl : ∀ x, x ∈ l → x < C := fun x hx => h x (List.mem_cons_of_mem _ hx)
    have i1 := fw_all h0 l b hb hl
    have i2 := fwO_dn h0 ha hb C
    have i3 := fwO_tr h0 C (Nat.le_refl _) b hb a (dwl b l) ha (dwl_lt l b hb hl)
    show fwO C c C a (dwl b l) ≤ c a b + dwk c b l
    omega
theorem fw_some {C : Nat} {c : Mt} (h0 : ∀ i, c i i = 0) : ∀ o, o ≤ C → ∀ a b, a < C → b < C → ∃ l, (∀ x, x ∈ l → x < C) ∧ dwl a l = b ∧ dwk c a l = fwO C c o a b := by
  intro o
  induction o with
  | zero => exact fun _ a b _ hb => ⟨[b], fun x hx => by rw [List.mem_singleton.mp hx]; exact hb, rfl, rfl⟩
  | succ o ih =>
    intro ho a b ha hb
    rw [fwO_st h0 o ha hb]
    by_cases c9 : fwO C c o a b ≤ fwO C c o a o + fwO C c o o b
    · rw [Nat.min_eq_left c9]
      exact ih (by omega) a b ha hb
    · rw [Nat.min_eq_right (by omega)]
      obtain ⟨l1, p1, p2, p3⟩ := ih (by omega) a o ha (by omega)
      obtain ⟨l2, q1, q2, q3⟩ := ih (by omega) o b (by omega) hb
      refine ⟨l1 ++ l2, fun x hx => ?_, ?_, ?_⟩
      · rcases List.mem_append.mp hx with h | h
        · exact p1 x h
        · exact q1 x h
      · rw [dwl_ap, p2, q2]
      · rw [dwk_ap, p2, p3, q3]
/-- a walk from a corner of another one on -/
theorem dw_cut {D : Mt} {a : Nat} : ∀ (l : List Nat) (b : Nat), (b :: l).Nodup → a ∈ b :: l → ∃ k, dwl a k = dwl b l ∧ dwk D a k ≤ dwk D b l ∧ (a :: k).Nodup ∧ ∀ x, x ∈ k → x ∈ l
  | [], b, hn, ha => by
    have e : a = b := List.mem_singleton.mp ha
    subst e
    exact ⟨[], rfl, Nat.le_refl _, hn, fun x hx => hx⟩
  | b2 :: l, b, hn, ha => by
    by_cases e : a = b
    · subst e
      exact ⟨b2 :: l, rfl, Nat.le_refl _, hn, fun x hx => hx⟩
    · have ha2 : a ∈ b2 :: l := (List.mem_cons.mp ha).resolve_left e
      obtain ⟨k, k1, k2, k3, k4⟩ := dw_cut (D := D) l b2 (List.nodup_cons.mp hn).2 ha2
      refine ⟨k, k1, ?_, k3, fun x hx => List.mem_cons_of_mem _ (k4 x hx)⟩
      show dwk D a k ≤ D b b2 + dwk D b2 l
      omega
theorem dw_sim {D : Mt} {C : Nat} : ∀ (l : List Nat) (a : Nat), (∀ x, x ∈ l → x < C) → ∃ k, dwl a k = dwl a l ∧ dwk D a k ≤ dwk D a l ∧ (a :: k).Nodup ∧ ∀ x, x ∈ k → x < C
  | [], a, _ => ⟨[], rfl, Nat.le_refl _, List.nodup_cons.mpr ⟨List.not_mem_nil, List.nodup_nil⟩, fun x hx => absurd hx List.not_mem_nil⟩
  | b :: l, a, h => by
    obtain ⟨k, k1, k2, k3, k4⟩ := dw_sim (D := D) l b (fun x hx => h x (List.mem_cons_of_mem _ hx))
    have hb : b < C := h b List.mem_cons_self
    by_cases e : a ∈ b :: k
    · obtain ⟨q, q1, q2, q3, q4⟩ := dw_cut (D := D) k b k3 e
      refine ⟨q, q1.trans k1, ?_, q3, fun x hx => k4 x (q4 x hx)⟩
      show dwk D a q ≤ D a b + dwk D b l
      omega
    · refine ⟨b :: k, k1, ?_, List.nodup_cons.mpr ⟨e, k3⟩, fun x hx => ?_⟩
      · show D a b + dwk D b k ≤ D a b + dwk D b l
        omega
      · rcases List.mem_cons.mp hx with e2 | e2
        · rw [e2]; exact hb
        · exact k4 x e2
theorem nod_len : ∀ (C : Nat) (l : List Nat), l.Nodup → (∀ x, x ∈ l → x < C) → l.length ≤ C := by
  intro C
  induction C with
  | zero =>
    intro l _ h
    cases l with
    | nil => exact Nat.le_refl _
    | cons a t => exact absurd (h a List.mem_cons_self) (Nat.not_lt_zero _)
  | succ C ih =>
    intro l hn h
    by_cases hc : C ∈ l
    · have h1 := List.length_erase_of_mem hc
      have h2 := ih (l.erase C) (hn.erase C) (fun x hx => by
        have h3 := (hn.mem_erase_iff).mp hx
        have h4 := h x h3.2
        have h5 := h3.1
        omega)
      omega
    · have h2 := ih l hn (fun x hx => by
        have h4 := h x hx
        have h5 : x ≠ C := fun e => hc (e ▸ hx)
        omega)
      omega
/-- the streets' tables of both sides -/
def dwR (x y : Mt) : Prop := ∀ a b, (x a b = 1000000 ∧ y a b = 100000) ∨ (x a b ≤ 16 * y a b + 1 ∧ 16 * y a b ≤ x a b)
theorem dwk_up {x y : Mt} (h : dwR x y) : ∀ (l : List Nat) (a : Nat), dwk y a l < 100000 → dwk x a l ≤ 16 * dwk y a l + l.length
  | [], _, _ => Nat.le_refl _
  | b :: l, a, q => by
    replace q : y a b + dwk y b l < 100000 := q
    have i := dwk_up h l b (by omega)
    show x a b + dwk x b l ≤ 16 * (y a b + dwk y b l) + (l.length + 1)
    rcases h a b with ⟨h1, h2⟩ | ⟨h1, h2⟩ <;> omega
theorem dwk_dn {x y : Mt} (h : dwR x y) : ∀ (l : List Nat) (a : Nat), dwk x a l < 1000000 → 16 * dwk y a l ≤ dwk x a l
  | [], _, _ => Nat.le_refl _
  | b :: l, a, q => by
    replace q : x a b + dwk x b l < 1000000 := q
    have i := dwk_dn h l b (by omega)
    show 16 * (y a b + dwk y b l) ≤ x a b + dwk x b l
    rcases h a b with ⟨h1, h2⟩ | ⟨h1, h2⟩ <;> omega
theorem stR_R {T cX cM : Mt} (h : stR T cX cM) : dwR cX cM ∧ (∀ i, cX i i = 0) ∧ ∀ i, cM i i = 0 := by
  refine ⟨fun a b => ?_, fun i => ?_, fun i => ?_⟩
  · rcases (h a b).2 with ⟨-, -, x1, x2⟩ | ⟨-, ⟨-, x1, x2⟩ | ⟨x0, x1, x2, x3⟩⟩ <;> omega
  · rcases (h i i).2 with ⟨-, -, x1, x2⟩ | ⟨e, -⟩
    · exact x1
    · exact absurd rfl e
  · rcases (h i i).2 with ⟨-, -, x1, x2⟩ | ⟨e, -⟩
    · exact x2
    · exact absurd rfl e
theorem wy_E {C S w : Nat} {A B Y : Nat → Nat} (hC : C ≤ 8) (hS : ∀ s, s < S → A s ≠ B s ∧ 1 ≤ Y s ∧ Y s ≤ 40) {a b : Nat} (ha : a < C) (hb : b < C) (h : wyX C S A B Y w a b < 1000000) : 16 * wyM C S A B Y w a b ≤ wyX C S A B Y w a b ∧ wyX C S A B Y w a b ≤ 16 * wyM C S A B Y w a b + 7 := by
  obtain ⟨hR, dX, dM⟩ := stR_R (stR_ok (w := w) hS S (Nat.le_refl _))
  have hM := (wy_R (w := w) hC hS a b).mp h
  constructor
  · obtain ⟨l, l1, l2, l3⟩ := fw_some dX C (Nat.le_refl _) a b ha hb
    have i1 := fw_all dM l a ha l1
    rw [l2] at i1
    have i2 := dwk_dn hR l a (by rw [l3]; exact h)
    have e : dwk (wsX A B Y w S).2 a l = wyX C S A B Y w a b := l3
    have i3 : wyM C S A B Y w a b ≤ dwk (wsM A B Y w (bas 100000) S) a l := i1
    omega
  · obtain ⟨l, l1, l2, l3⟩ := fw_some dM C (Nat.le_refl _) a b ha hb
    obtain ⟨k, k1, k2, k3, k4⟩ := dw_sim (D := wsM A B Y w (bas 100000) S) l a l1
    have e : dwk (wsM A B Y w (bas 100000) S) a l = wyM C S A B Y w a b := l3
    have i0 := dwk_up hR k a (by omega)
    have i1 := fw_all dX k a ha k4
    rw [k1, l2] at i1
    have i3 : wyX C S A B Y w a b ≤ dwk (wsX A B Y w S).2 a k := i1
    have i4 := nod_len C (a :: k) k3 (fun x hx => by
      rcases List.mem_cons.mp hx with e2 | e2
      · rw [e2]; exact ha
      · exact k4 x e2)
    rw [List.length_cons] at i4
    omega
theorem wy_16 {C S w : Nat} {A B Y : Nat → Nat} (hC : C ≤ 8) (hS : ∀ s, s < S → A s ≠ B s ∧ 1 ≤ Y s ∧ Y s ≤ 40) {a b : Nat} (ha : a < C) (hb : b < C) (h : wyX C S A B Y w a b < 1000000) : wyX C S A B Y w a b / 16 = wyM C S A B Y w a b := by
  have := wy_E (w := w) hC hS ha hb h
  omega
