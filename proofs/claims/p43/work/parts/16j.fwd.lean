/-! the small machine comes to one end: what a walk says holds of its one outcome -/
def dK (kk : (Option Value → xM → Prop) → Prop) : Prop := ∀ Q, kk Q → ∃ rv m', Q rv m' ∧ ∀ Q' : Option Value → xM → Prop, Q' rv m' → kk Q'
theorem dK_false : dK (fun _ => False) := fun _ h => h.elim
theorem dK_end (rv : Option Value) (m : xM) : dK (fun Q => Q rv m) := fun _ h => ⟨rv, m, h, fun _ h => h⟩
theorem dK_and {A : Prop} {f : (Option Value → xM → Prop) → Prop} (h : dK f) : dK (fun Q => A ∧ f Q) := fun Q h1 => by
  obtain ⟨rv, m', h2, h3⟩ := h Q h1.2
  exact ⟨rv, m', h2, fun Q' h4 => ⟨h1.1, h3 Q' h4⟩⟩
theorem dK_ite {c : Prop} {f g : (Option Value → xM → Prop) → Prop} (h1 : dK f) (h2 : dK g) : dK (fun Q => (c → f Q) ∧ (¬ c → g Q)) := fun Q h => by
  by_cases hc : c
  · obtain ⟨rv, m', h3, h4⟩ := h1 Q (h.1 hc)
    exact ⟨rv, m', h3, fun Q' h5 => ⟨fun _ => h4 Q' h5, fun n => absurd hc n⟩⟩
  · obtain ⟨rv, m', h3, h4⟩ := h2 Q (h.2 hc)
    exact ⟨rv, m', h3, fun Q' h5 => ⟨fun n => absurd n hc, fun _ => h4 Q' h5⟩⟩
theorem dK_iten {c : Prop} {f g : (Option Value → xM → Prop) → Prop} (h1 : dK f) (h2 : dK g) : dK (fun Q => (¬ c → f Q) ∧ (c → g Q)) := fun Q h => by
  obtain ⟨rv, m', h3, h4⟩ := dK_ite (c := c) h2 h1 Q ⟨h.2, h.1⟩
  exact ⟨rv, m', h3, fun Q' h5 => ⟨(h4 Q' h5).2, (h4 Q' h5).1⟩⟩
theorem dK_pI {st : List Value} {f : (Option Value → xM → Prop) → Int32 → List Value → Prop} (h : ∀ x r, dK (fun Q => f Q x r)) : dK (fun Q => pI st (f Q)) := by
  unfold pI
  rcases st with _ | ⟨v, r⟩
  · exact dK_false
  · cases v <;> first | exact dK_false | exact h _ _
theorem dK_pL {st : List Value} {f : (Option Value → xM → Prop) → Int64 → List Value → Prop} (h : ∀ x r, dK (fun Q => f Q x r)) : dK (fun Q => pL st (f Q)) := by
  unfold pL
  rcases st with _ | ⟨v, r⟩
  · exact dK_false
  · cases v <;> first | exact dK_false | exact h _ _
theorem dK_pR {st : List Value} {f : (Option Value → xM → Prop) → Nat → List Value → Prop} (h : ∀ x r, dK (fun Q => f Q x r)) : dK (fun Q => pR st (f Q)) := by
  unfold pR
  rcases st with _ | ⟨v, r⟩
  · exact dK_false
  · cases v <;> first | exact dK_false | exact h _ _
theorem dK_pV {st : List Value} {f : (Option Value → xM → Prop) → Value → List Value → Prop} (h : ∀ x r, dK (fun Q => f Q x r)) : dK (fun Q => pV st (f Q)) := by
  unfold pV
  rcases st with _ | ⟨v, r⟩
  · exact dK_false
  · exact h _ _
theorem dK_ca {g : (Option Value → xM → Prop) → Prop} {f : (Option Value → xM → Prop) → Option Value → xM → Prop} (hg : dK g) (h : ∀ rv m, dK (fun Q => f Q rv m)) : dK (fun Q => g (f Q)) := fun Q h1 => by
  obtain ⟨rv, m', h2, h3⟩ := hg _ h1
  obtain ⟨rv2, m2, h4, h5⟩ := h rv m' Q h2
  exact ⟨rv2, m2, h4, fun Q' h6 => h3 _ (h5 Q' h6)⟩
theorem dK_sw {a b : Prop} {α : Type} {z : Option α} {f : (Option Value → xM → Prop) → Prop} {g : (Option Value → xM → Prop) → α → Prop} (h1 : dK f) (h2 : ∀ o, dK (fun Q => g Q o)) : dK (fun Q => (a ∨ b → f Q) ∧ (¬ a → ¬ b → ∃ o, z = some o ∧ g Q o)) := fun Q h => by
  by_cases hc : a ∨ b
  · obtain ⟨rv, m', h3, h4⟩ := h1 Q (h.1 hc)
    exact ⟨rv, m', h3, fun Q' h5 => ⟨fun _ => h4 Q' h5, fun n1 n2 => absurd hc (fun z => z.elim n1 n2)⟩⟩
  · obtain ⟨o, e, h3⟩ := h.2 (fun n => hc (Or.inl n)) (fun n => hc (Or.inr n))
    obtain ⟨rv, m', h4, h5⟩ := h2 o Q h3
    exact ⟨rv, m', h4, fun Q' h6 => ⟨fun n => absurd n hc, fun _ _ => ⟨o, e, h5 Q' h6⟩⟩⟩
section DET
variable {k : Nat} {ca : Nat → List Value → xM → (Option Value → xM → Prop) → Prop} {kk : (Option Value → xM → Prop) → Nat → List (Nat × Value) → List Value → xM → Prop}
set_option maxHeartbeats 8000000 in
theorem xi_det (hca : ∀ j as m, dK (fun Q => ca j as m Q)) (hk : ∀ pc l st m, dK (fun Q => kk Q pc l st m)) (i : Instr) (pc : Nat) (l : List (Nat × Value)) (st : List Value) (m : xM) : dK (fun Q => xi k ca (kk Q) Q i pc l st m) := by
  cases i
  case iload_n n => simp only [xi]; generalize lkl n l = z; rcases z with _ | v; exact dK_false; cases v <;> first | exact dK_false | exact hk _ _ _ _
  case iload n => simp only [xi]; generalize lkl n l = z; rcases z with _ | v; exact dK_false; cases v <;> first | exact dK_false | exact hk _ _ _ _
  case lload_n n => simp only [xi]; generalize lkl n l = z; rcases z with _ | v; exact dK_false; cases v <;> first | exact dK_false | exact hk _ _ _ _
  case lload n => simp only [xi]; generalize lkl n l = z; rcases z with _ | v; exact dK_false; cases v <;> first | exact dK_false | exact hk _ _ _ _
  case aload_n n => simp only [xi]; generalize lkl n l = z; rcases z with _ | v; exact dK_false; cases v <;> first | exact dK_false | exact hk _ _ _ _
  case aload n => simp only [xi]; generalize lkl n l = z; rcases z with _ | v; exact dK_false; cases v <;> first | exact dK_false | exact hk _ _ _ _
  case iinc n d => simp only [xi]; refine dK_and ?_; generalize lkl n l = z; rcases z with _ | v; exact dK_false; cases v <;> first | exact dK_false | exact hk _ _ _ _
  case ifCond c o => cases c <;> simp only [xi] <;> refine dK_pI (fun _ _ => ?_) <;> first | exact dK_ite (hk _ _ _ _) (hk _ _ _ _) | exact dK_iten (hk _ _ _ _) (hk _ _ _ _)
  case if_icmp c o => cases c <;> simp only [xi] <;> refine dK_pI (fun _ _ => dK_pI (fun _ _ => ?_)) <;> first | exact dK_ite (hk _ _ _ _) (hk _ _ _ _) | exact dK_iten (hk _ _ _ _) (hk _ _ _ _)
  case tableswitch d lo hi os => simp only [xi]; exact dK_pI (fun _ _ => dK_sw (hk _ _ _ _) (fun _ => hk _ _ _ _))
  case ldc n => simp only [xi]; generalize kLd (kcl k) n = z; rcases z with _ | v; exact dK_false; cases v <;> first | exact dK_false | exact hk _ _ _ _
  case ldc_w n => simp only [xi]; generalize kLd (kcl k) n = z; rcases z with _ | v; exact dK_false; cases v <;> first | exact dK_false | exact hk _ _ _ _
  case ldc2_w n => simp only [xi]; generalize kLd (kcl k) n = z; rcases z with _ | v; exact dK_false; cases v <;> first | exact dK_false | exact hk _ _ _ _
  case getstatic n => simp only [xi]; generalize kSt (kcl k) n = z; rcases z with _ | v; exact dK_false; exact hk _ _ _ _
  case getfield n =>
    simp only [xi]
    refine dK_pR (fun a r => ?_)
    generalize kFd (kcl k) n = z
    rcases z with _ | ⟨ci, f⟩
    · exact dK_false
    · exact dK_and (hk _ _ _ _)
  case putfield n =>
    simp only [xi]
    generalize kFd (kcl k) n = z
    rcases z with _ | ⟨ci, f⟩
    · exact dK_false
    · refine dK_and ?_
      generalize fk ci f = y
      match y with
      | 0 => exact dK_pI (fun _ _ => dK_pR (fun _ _ => dK_and (hk _ _ _ _)))
      | 1 => exact dK_pI (fun _ _ => dK_pR (fun _ _ => dK_and (dK_and (hk _ _ _ _))))
      | 2 => exact dK_pL (fun _ _ => dK_pR (fun _ _ => dK_and (hk _ _ _ _)))
      | 3 => exact dK_pR (fun _ _ => dK_pR (fun _ _ => dK_and (hk _ _ _ _)))
      | _ + 4 => exact dK_false
  case arraylength =>
    simp only [xi]
    refine dK_pR (fun a r => ?_)
    generalize lay a = z
    match z with
    | (0, _, n) => exact hk _ _ _ _
    | (4, _, n) => exact hk _ _ _ _
    | (1, _, n) | (2, _, n) | (3, _, n) => exact dK_false
    | (_ + 5, _, n) => exact dK_false
  case iaload =>
    simp only [xi]
    refine dK_pI (fun i r => dK_pR (fun a r => ?_))
    generalize lay a = z
    match z with
    | (0, 0, n) => exact dK_and (hk _ _ _ _)
    | (4, 0, n) => exact dK_and (hk _ _ _ _)
    | (0, _ + 1, n) | (4, _ + 1, n) | (1, _, n) | (2, _, n) | (3, _, n) => exact dK_false
    | (_ + 5, _, n) => exact dK_false
  case baload =>
    simp only [xi]
    refine dK_pI (fun i r => dK_pR (fun a r => ?_))
    generalize lay a = z
    match z with
    | (0, 1, n) => exact dK_and (hk _ _ _ _)
    | (0, 2, n) => exact dK_and (hk _ _ _ _)
    | (0, 0, n) | (0, _ + 3, n) | (4, _, n) | (1, _, n) | (2, _, n) | (3, _, n) => exact dK_false
    | (_ + 5, _, n) => exact dK_false
  case caload =>
    simp only [xi]
    refine dK_pI (fun i r => dK_pR (fun a r => ?_))
    generalize lay a = z
    match z with
    | (4, 3, n) => exact dK_and (hk _ _ _ _)
    | (4, 0, n) | (4, 1, n) | (4, 2, n) | (4, _ + 4, n) | (0, _, n) | (1, _, n) | (2, _, n) | (3, _, n) => exact dK_false
    | (_ + 5, _, n) => exact dK_false
  case laload =>
    simp only [xi]
    refine dK_pI (fun i r => dK_pR (fun a r => ?_))
    generalize lay a = z
    match z with
    | (1, _, n) => exact dK_and (hk _ _ _ _)
    | (0, _, n) => exact dK_false
    | (_ + 2, _, n) => exact dK_false
  case aaload =>
    simp only [xi]
    refine dK_pI (fun i r => dK_pR (fun a r => ?_))
    generalize lay a = z
    match z with
    | (2, _, n) => exact dK_and (hk _ _ _ _)
    | (0, _, n) | (1, _, n) => exact dK_false
    | (_ + 3, _, n) => exact dK_false
  case iastore =>
    simp only [xi]
    refine dK_pI (fun x r => dK_pI (fun i r => dK_pR (fun a r => ?_)))
    generalize lay a = z
    match z with
    | (0, 0, n) => exact dK_and (hk _ _ _ _)
    | (0, _ + 1, n) => exact dK_false
    | (_ + 1, _, n) => exact dK_false
  case bastore =>
    simp only [xi]
    refine dK_pI (fun x r => dK_pI (fun i r => dK_pR (fun a r => ?_)))
    generalize lay a = z
    match z with
    | (0, 1, n) => exact dK_and (hk _ _ _ _)
    | (0, 2, n) => exact dK_and (hk _ _ _ _)
    | (0, 0, n) | (0, _ + 3, n) => exact dK_false
    | (_ + 1, _, n) => exact dK_false
  case lastore =>
    simp only [xi]
    refine dK_pL (fun x r => dK_pI (fun i r => dK_pR (fun a r => ?_)))
    generalize lay a = z
    match z with
    | (1, _, n) => exact dK_and (hk _ _ _ _)
    | (0, _, n) => exact dK_false
    | (_ + 2, _, n) => exact dK_false
  case invokevirtual n =>
    simp only [xi]
    generalize kCl (kcl k) n = z
    match z with
    | some (1, j) =>
      show dK (fun Q => match pops (knp j) st with
        | some (as, .ref b :: r) => lay b = (3, kcl j, kNf (kcl j)) ∧ (r.map fun v => v.category).sum ≤ 8 ∧ kmc j = 0 ∧ kms j = 0 ∧ ca j (.ref b :: as) m (fun rv m' => kk Q (pc + 3) l (rv.toList ++ r) m')
        | _ => False)
      generalize pops (knp j) st = y
      rcases y with _ | ⟨as, r⟩
      · exact dK_false
      · rcases r with _ | ⟨v, r⟩
        · exact dK_false
        · cases v <;> first | exact dK_false | exact dK_and (dK_and (dK_and (dK_and (dK_ca (hca _ _ _) (fun _ _ => hk _ _ _ _)))))
    | some (3, j) =>
      show dK (fun Q => match pops (knp j) st with
        | some (as, .ref b :: r) => (lay b).1 = 5 ∧ (r.map fun v => v.category).sum ≤ 8 ∧ ca j (.ref b :: as) m (fun rv m' => kk Q (pc + 3) l (rv.toList ++ r) m')
        | _ => False)
      generalize pops (knp j) st = y
      rcases y with _ | ⟨as, r⟩
      · exact dK_false
      · rcases r with _ | ⟨v, r⟩
        · exact dK_false
        · cases v <;> first | exact dK_false | exact dK_and (dK_and (dK_ca (hca _ _ _) (fun _ _ => hk _ _ _ _)))
    | none => exact dK_false
    | some (0, _) | some (2, _) => exact dK_false
    | some (_ + 4, _) => exact dK_false
  case invokestatic n =>
    simp only [xi]
    generalize kCl (kcl k) n = z
    match z with
    | some (2, j) =>
      show dK (fun Q => match pops (knp j) st with
        | some (as, r) => (r.map fun v => v.category).sum ≤ 8 ∧ kmc j = 0 ∧ kms j = 0 ∧ ca j as m (fun rv m' => kk Q (pc + 3) l (rv.toList ++ r) m')
        | none => False)
      generalize pops (knp j) st = y
      rcases y with _ | ⟨as, r⟩
      · exact dK_false
      · exact dK_and (dK_and (dK_and (dK_ca (hca _ _ _) (fun _ _ => hk _ _ _ _))))
    | some (5, _) =>
      try dsimp only
      refine dK_pI (fun n r => dK_pI (fun dp r => dK_pR (fun b r => dK_pI (fun sp r => dK_pR (fun a r => dK_and (dK_and (dK_and (dK_and ?_))))))))
      generalize lay b = z
      match z with
      | (0, 0, nb) =>
        refine dK_and ?_
        generalize lay a = y
        match y with
        | (0, 0, na) => exact dK_and (hk _ _ _ _)
        | (4, 0, na) => exact dK_and (hk _ _ _ _)
        | (0, _ + 1, na) | (4, _ + 1, na) | (1, _, na) | (2, _, na) | (3, _, na) => exact dK_false
        | (_ + 5, _, na) => exact dK_false
      | (0, _ + 1, nb) => exact dK_false
      | (_ + 1, _, nb) => exact dK_false
    | none => exact dK_false
    | some (0, _) | some (1, _) | some (3, _) | some (4, _) => exact dK_false
    | some (_ + 6, _) => exact dK_false
  all_goals simp only [xi]
  all_goals repeat' first
    | exact dK_false
    | exact hk _ _ _ _
    | exact dK_end _ _
    | refine dK_pI (fun _ _ => ?_)
    | refine dK_pL (fun _ _ => ?_)
    | refine dK_pR (fun _ _ => ?_)
    | refine dK_pV (fun _ _ => ?_)
    | refine dK_and ?_
theorem xe_det (hca : ∀ j as m, dK (fun Q => ca j as m Q)) : ∀ n pc l st m, dK (fun Q => xe k ca Q n pc l st m) := by
  intro n
  induction n with
  | zero => exact fun _ _ _ _ => dK_false
  | succ n ih =>
    intro pc l st m
    simp only [xe]
    generalize lkc pc (kcode k) = z
    rcases z with _ | i
    · exact dK_false
    · exact xi_det (kk := fun Q => xe k ca Q n) hca ih i pc l st m
end DET
theorem xw_det : ∀ d j as m, dK (fun Q => xw d j as m Q) := by
  intro d
  induction d with
  | zero => exact fun _ _ _ => dK_false
  | succ d ih =>
    intro j as m Q h
    unfold xw at h ⊢
    cases e : Nat.ble 271 j with
    | true =>
      rw [e] at h
      replace h : xstr j as m Q := h
      show ∃ rv m', Q rv m' ∧ ∀ Q' : Option Value → xM → Prop, Q' rv m' → xstr j as m Q'
      unfold xstr at h ⊢
      split at h
      · rename_i a
        obtain ⟨e1, h⟩ := h
        split at h
        · rename_i x n e2
          exact ⟨_, _, h, fun Q' h => ⟨e1, h⟩⟩
        · exact h.elim
      · rename_i a i9
        obtain ⟨e1, h⟩ := h
        split at h
        · rename_i x n e2
          exact ⟨_, _, h.2, fun Q' h3 => ⟨e1, h.1, h3⟩⟩
        · exact h.elim
      · exact h.elim
    | false =>
      rw [e] at h
      obtain ⟨a1, a2, a3, n, h⟩ : kmc j = 0 ∧ kms j = 0 ∧ (lg_sl as).length ≤ knl j ∧ ∃ n, xe j (xw d) Q n 0 (lv_args 0 as) [] m := h
      obtain ⟨rv, m', h1, h2⟩ := xe_det ih n 0 (lv_args 0 as) [] m Q h
      exact ⟨rv, m', h1, fun Q' h3 => ⟨a1, a2, a3, n, h2 Q' h3⟩⟩
/-- two sayings of one call hold together -/
theorem xw_and {d j : Nat} {as : List Value} {m : xM} {P : Option Value → xM → Prop} {F : Option Value → xM → Prop} (h : xw d j as m P) (hf : ∀ P' : Option Value → xM → Prop, xw d j as m P' → ∃ rv m', P' rv m' ∧ F rv m') : xw d j as m (fun rv m' => P rv m' ∧ F rv m') := by
  obtain ⟨rv, m', h1, h2⟩ := xw_det d j as m P h
  obtain ⟨rv2, m2, h3, h4⟩ := hf (fun a b => a = rv ∧ b = m') (h2 _ ⟨rfl, rfl⟩)
  obtain ⟨rfl, rfl⟩ := h3
  exact h2 _ ⟨h1, h4⟩
/-! forward: from a call that is known to come to its end, what its end is -/
def xF (k : Nat) (ca : Nat → List Value → xM → (Option Value → xM → Prop) → Prop) (P : Option Value → xM → Prop) (n : Nat) (pc : Nat) (l : List (Nat × Value)) (st : List Value) (m : xM) : Prop := ∃ n', n' < n ∧ xe k ca P n' pc l st m
/-- what a call's end is, whatever it was said to be -/
def fC (j : Nat) (as : List Value) (m : xM) (F : Option Value → xM → Prop) : Prop := ∀ d (P : Option Value → xM → Prop), xw d j as m P → ∃ rv m', P rv m' ∧ F rv m'
theorem fC_and {d j : Nat} {as : List Value} {m : xM} {P F : Option Value → xM → Prop} (h : xw d j as m P) (hf : fC j as m F) : xw d j as m (fun rv m' => P rv m' ∧ F rv m') := xw_and h (hf d)
theorem fC_of {j : Nat} {as : List Value} {m : xM} {F : Option Value → xM → Prop} (hj : Nat.ble 271 j = false) (h : ∀ d n (P : Option Value → xM → Prop), xF j (xw d) P n 0 (lv_args 0 as) [] m → ∃ rv m', P rv m' ∧ F rv m') : fC j as m F := by
  intro d P hw
  cases d with
  | zero => exact hw.elim
  | succ d =>
    unfold xw at hw
    rw [hj] at hw
    obtain ⟨-, -, -, n, hw⟩ : kmc j = 0 ∧ kms j = 0 ∧ (lg_sl as).length ≤ knl j ∧ ∃ n, xe j (xw d) P n 0 (lv_args 0 as) [] m := hw
    exact h d (n + 1) P ⟨n, Nat.lt_succ_self n, hw⟩
section FWD
variable {k : Nat} {ca : Nat → List Value → xM → (Option Value → xM → Prop) → Prop} {P : Option Value → xM → Prop} {n pc : Nat} {l : List (Nat × Value)} {st : List Value} {m : xM}
theorem f_xi {i : Instr} (h : xF k ca P n pc l st m) (hi : lkc pc (kcode k) = some i) : ∃ n2, n2 < n ∧ xi k ca (xe k ca P n2) P i pc l st m := by
  obtain ⟨n', hn, h⟩ := h
  cases n' with
  | zero => exact h.elim
  | succ n2 =>
    unfold xe at h
    rw [hi] at h
    exact ⟨n2, by omega, h⟩
theorem f_up {n2 : Nat} (h : xF k ca P n pc l st m) (hn : n ≤ n2) : xF k ca P n2 pc l st m := by
  obtain ⟨n', h1, h2⟩ := h
  exact ⟨n', Nat.lt_of_lt_of_le h1 hn, h2⟩
theorem f_iconst {a : Int} {v : Int32} {r : List Value} (h : xF k ca P n pc l r m) (hi : lkc pc (kcode k) = some (.iconst a)) (hv : Int32.ofInt a = v) : xF k ca P n (pc + 1) l (.int v :: r) m := by
  obtain ⟨n2, hn, h⟩ := f_xi h hi
  subst hv
  exact ⟨n2, hn, h⟩
theorem f_bipush {a : Int} {v : Int32} {r : List Value} (h : xF k ca P n pc l r m) (hi : lkc pc (kcode k) = some (.bipush a)) (hv : (Int8.ofInt a).toInt32 = v) : xF k ca P n (pc + 2) l (.int v :: r) m := by
  obtain ⟨n2, hn, h⟩ := f_xi h hi
  subst hv
  exact ⟨n2, hn, h⟩
theorem f_sipush {a : Int} {v : Int32} {r : List Value} (h : xF k ca P n pc l r m) (hi : lkc pc (kcode k) = some (.sipush a)) (hv : (Int16.ofInt a).toInt32 = v) : xF k ca P n (pc + 3) l (.int v :: r) m := by
  obtain ⟨n2, hn, h⟩ := f_xi h hi
  subst hv
  exact ⟨n2, hn, h⟩
theorem f_lconst {a : Fin 2} {v : Int64} {r : List Value} (h : xF k ca P n pc l r m) (hi : lkc pc (kcode k) = some (.lconst a)) (hv : Int64.ofNat (a : Nat) = v) : xF k ca P n (pc + 1) l (.long v :: r) m := by
  obtain ⟨n2, hn, h⟩ := f_xi h hi
  subst hv
  exact ⟨n2, hn, h⟩
theorem f_iload_n {a : Fin 4} {x : Int32} {r : List Value} (h : xF k ca P n pc l r m) (hi : lkc pc (kcode k) = some (.iload_n a)) (hl : lkl (a : Nat) l = some (.int x)) : xF k ca P n (pc + 1) l (.int x :: r) m := by
  obtain ⟨n2, hn, h⟩ := f_xi h hi
  simp only [xi] at h
  rw [hl] at h
  exact ⟨n2, hn, h⟩
theorem f_iload {a : Nat} {x : Int32} {r : List Value} (h : xF k ca P n pc l r m) (hi : lkc pc (kcode k) = some (.iload a)) (hl : lkl (a : Nat) l = some (.int x)) : xF k ca P n (pc + 2) l (.int x :: r) m := by
  obtain ⟨n2, hn, h⟩ := f_xi h hi
  simp only [xi] at h
  rw [hl] at h
  exact ⟨n2, hn, h⟩
theorem f_aload_n {a : Fin 4} {x : Nat} {r : List Value} (h : xF k ca P n pc l r m) (hi : lkc pc (kcode k) = some (.aload_n a)) (hl : lkl (a : Nat) l = some (.ref x)) : xF k ca P n (pc + 1) l (.ref x :: r) m := by
  obtain ⟨n2, hn, h⟩ := f_xi h hi
  simp only [xi] at h
  rw [hl] at h
  exact ⟨n2, hn, h⟩
theorem f_aload {a : Nat} {x : Nat} {r : List Value} (h : xF k ca P n pc l r m) (hi : lkc pc (kcode k) = some (.aload a)) (hl : lkl (a : Nat) l = some (.ref x)) : xF k ca P n (pc + 2) l (.ref x :: r) m := by
  obtain ⟨n2, hn, h⟩ := f_xi h hi
  simp only [xi] at h
  rw [hl] at h
  exact ⟨n2, hn, h⟩
theorem f_lload_n {a : Fin 4} {x : Int64} {r : List Value} (h : xF k ca P n pc l r m) (hi : lkc pc (kcode k) = some (.lload_n a)) (hl : lkl (a : Nat) l = some (.long x)) : xF k ca P n (pc + 1) l (.long x :: r) m := by
  obtain ⟨n2, hn, h⟩ := f_xi h hi
  simp only [xi] at h
  rw [hl] at h
  exact ⟨n2, hn, h⟩
theorem f_lload {a : Nat} {x : Int64} {r : List Value} (h : xF k ca P n pc l r m) (hi : lkc pc (kcode k) = some (.lload a)) (hl : lkl (a : Nat) l = some (.long x)) : xF k ca P n (pc + 2) l (.long x :: r) m := by
  obtain ⟨n2, hn, h⟩ := f_xi h hi
  simp only [xi] at h
  rw [hl] at h
  exact ⟨n2, hn, h⟩
theorem f_istore_n {a : Fin 4} {x : Int32} {l2 : List (Nat × Value)} {r : List Value} (h : xF k ca P n pc l (.int x :: r) m) (hi : lkc pc (kcode k) = some (.istore_n a)) (hl : sv1 (a : Nat) (.int x) l = l2) : xF k ca P n (pc + 1) l2 r m := by
  obtain ⟨n2, hn, h⟩ := f_xi h hi
  subst hl
  exact ⟨n2, hn, h.2⟩
theorem f_istore {a : Nat} {x : Int32} {l2 : List (Nat × Value)} {r : List Value} (h : xF k ca P n pc l (.int x :: r) m) (hi : lkc pc (kcode k) = some (.istore a)) (hl : sv1 (a : Nat) (.int x) l = l2) : xF k ca P n (pc + 2) l2 r m := by
  obtain ⟨n2, hn, h⟩ := f_xi h hi
  subst hl
  exact ⟨n2, hn, h.2⟩
theorem f_astore_n {a : Fin 4} {x : Nat} {l2 : List (Nat × Value)} {r : List Value} (h : xF k ca P n pc l (.ref x :: r) m) (hi : lkc pc (kcode k) = some (.astore_n a)) (hl : sv1 (a : Nat) (.ref x) l = l2) : xF k ca P n (pc + 1) l2 r m := by
  obtain ⟨n2, hn, h⟩ := f_xi h hi
  subst hl
  exact ⟨n2, hn, h.2⟩
theorem f_astore {a : Nat} {x : Nat} {l2 : List (Nat × Value)} {r : List Value} (h : xF k ca P n pc l (.ref x :: r) m) (hi : lkc pc (kcode k) = some (.astore a)) (hl : sv1 (a : Nat) (.ref x) l = l2) : xF k ca P n (pc + 2) l2 r m := by
  obtain ⟨n2, hn, h⟩ := f_xi h hi
  subst hl
  exact ⟨n2, hn, h.2⟩
theorem f_iinc {a : Nat} {b : Int} {x : Int32} {l2 : List (Nat × Value)} {r : List Value} (h : xF k ca P n pc l r m) (hi : lkc pc (kcode k) = some (.iinc a b)) (hx : lkl a l = some (.int x)) (hl : sv1 a (.int (x + Int32.ofInt b)) l = l2) : xF k ca P n (pc + 3) l2 r m := by
  obtain ⟨n2, hn, h⟩ := f_xi h hi
  subst hl
  simp only [xi] at h
  rw [hx] at h
  exact ⟨n2, hn, h.2⟩
theorem f_iadd {x y : Int32} {r : List Value} (h : xF k ca P n pc l (.int y :: .int x :: r) m) (hi : lkc pc (kcode k) = some (.iadd))  : xF k ca P n (pc + 1) l (.int (x + y) :: r) m := by
  obtain ⟨n2, hn, h⟩ := f_xi h hi
  exact ⟨n2, hn, h⟩
theorem f_isub {x y : Int32} {r : List Value} (h : xF k ca P n pc l (.int y :: .int x :: r) m) (hi : lkc pc (kcode k) = some (.isub))  : xF k ca P n (pc + 1) l (.int (x - y) :: r) m := by
  obtain ⟨n2, hn, h⟩ := f_xi h hi
  exact ⟨n2, hn, h⟩
theorem f_imul {x y : Int32} {r : List Value} (h : xF k ca P n pc l (.int y :: .int x :: r) m) (hi : lkc pc (kcode k) = some (.imul))  : xF k ca P n (pc + 1) l (.int (x * y) :: r) m := by
  obtain ⟨n2, hn, h⟩ := f_xi h hi
  exact ⟨n2, hn, h⟩
theorem f_iand {x y : Int32} {r : List Value} (h : xF k ca P n pc l (.int y :: .int x :: r) m) (hi : lkc pc (kcode k) = some (.iand))  : xF k ca P n (pc + 1) l (.int (x &&& y) :: r) m := by
  obtain ⟨n2, hn, h⟩ := f_xi h hi
  exact ⟨n2, hn, h⟩
theorem f_ior {x y : Int32} {r : List Value} (h : xF k ca P n pc l (.int y :: .int x :: r) m) (hi : lkc pc (kcode k) = some (.ior))  : xF k ca P n (pc + 1) l (.int (x ||| y) :: r) m := by
  obtain ⟨n2, hn, h⟩ := f_xi h hi
  exact ⟨n2, hn, h⟩
theorem f_ixor {x y : Int32} {r : List Value} (h : xF k ca P n pc l (.int y :: .int x :: r) m) (hi : lkc pc (kcode k) = some (.ixor))  : xF k ca P n (pc + 1) l (.int (x ^^^ y) :: r) m := by
  obtain ⟨n2, hn, h⟩ := f_xi h hi
  exact ⟨n2, hn, h⟩
theorem f_ishl {x y : Int32} {r : List Value} (h : xF k ca P n pc l (.int y :: .int x :: r) m) (hi : lkc pc (kcode k) = some (.ishl))  : xF k ca P n (pc + 1) l (.int (x <<< (y &&& 31)) :: r) m := by
  obtain ⟨n2, hn, h⟩ := f_xi h hi
  exact ⟨n2, hn, h⟩
theorem f_ishr {x y : Int32} {r : List Value} (h : xF k ca P n pc l (.int y :: .int x :: r) m) (hi : lkc pc (kcode k) = some (.ishr))  : xF k ca P n (pc + 1) l (.int (x >>> (y &&& 31)) :: r) m := by
  obtain ⟨n2, hn, h⟩ := f_xi h hi
  exact ⟨n2, hn, h⟩
theorem f_iushr {x y : Int32} {r : List Value} (h : xF k ca P n pc l (.int y :: .int x :: r) m) (hi : lkc pc (kcode k) = some (.iushr))  : xF k ca P n (pc + 1) l (.int ((x.toUInt32 >>> (y.toUInt32 &&& Int32.toUInt32 31)).toInt32) :: r) m := by
  obtain ⟨n2, hn, h⟩ := f_xi h hi
  exact ⟨n2, hn, h⟩
theorem f_idiv {x y : Int32} {r : List Value} (h : xF k ca P n pc l (.int y :: .int x :: r) m) (hi : lkc pc (kcode k) = some (.idiv))  : xF k ca P n (pc + 1) l (.int (x / y) :: r) m := by
  obtain ⟨n2, hn, h⟩ := f_xi h hi
  exact ⟨n2, hn, h.2⟩
theorem f_irem {x y : Int32} {r : List Value} (h : xF k ca P n pc l (.int y :: .int x :: r) m) (hi : lkc pc (kcode k) = some (.irem))  : xF k ca P n (pc + 1) l (.int (x - x / y * y) :: r) m := by
  obtain ⟨n2, hn, h⟩ := f_xi h hi
  exact ⟨n2, hn, h.2⟩
theorem f_ineg {x : Int32} {r : List Value} (h : xF k ca P n pc l (.int x :: r) m) (hi : lkc pc (kcode k) = some (.ineg))  : xF k ca P n (pc + 1) l (.int (-x) :: r) m := by
  obtain ⟨n2, hn, h⟩ := f_xi h hi
  exact ⟨n2, hn, h⟩
theorem f_i2b {x : Int32} {r : List Value} (h : xF k ca P n pc l (.int x :: r) m) (hi : lkc pc (kcode k) = some (.i2b))  : xF k ca P n (pc + 1) l (.int x.toInt8.toInt32 :: r) m := by
  obtain ⟨n2, hn, h⟩ := f_xi h hi
  exact ⟨n2, hn, h⟩
theorem f_i2l {x : Int32} {r : List Value} (h : xF k ca P n pc l (.int x :: r) m) (hi : lkc pc (kcode k) = some (.i2l))  : xF k ca P n (pc + 1) l (.long x.toInt64 :: r) m := by
  obtain ⟨n2, hn, h⟩ := f_xi h hi
  exact ⟨n2, hn, h⟩
theorem f_l2i {x : Int64} {r : List Value} (h : xF k ca P n pc l (.long x :: r) m) (hi : lkc pc (kcode k) = some (.l2i))  : xF k ca P n (pc + 1) l (.int x.toInt32 :: r) m := by
  obtain ⟨n2, hn, h⟩ := f_xi h hi
  exact ⟨n2, hn, h⟩
theorem f_lcmp {x y : Int64} {r : List Value} (h : xF k ca P n pc l (.long y :: .long x :: r) m) (hi : lkc pc (kcode k) = some (.lcmp))  : xF k ca P n (pc + 1) l (.int (lg_cmp x y) :: r) m := by
  obtain ⟨n2, hn, h⟩ := f_xi h hi
  exact ⟨n2, hn, h⟩
theorem f_ladd {x y : Int64} {r : List Value} (h : xF k ca P n pc l (.long y :: .long x :: r) m) (hi : lkc pc (kcode k) = some (.ladd))  : xF k ca P n (pc + 1) l (.long (x + y) :: r) m := by
  obtain ⟨n2, hn, h⟩ := f_xi h hi
  exact ⟨n2, hn, h⟩
theorem f_lsub {x y : Int64} {r : List Value} (h : xF k ca P n pc l (.long y :: .long x :: r) m) (hi : lkc pc (kcode k) = some (.lsub))  : xF k ca P n (pc + 1) l (.long (x - y) :: r) m := by
  obtain ⟨n2, hn, h⟩ := f_xi h hi
  exact ⟨n2, hn, h⟩
theorem f_lmul {x y : Int64} {r : List Value} (h : xF k ca P n pc l (.long y :: .long x :: r) m) (hi : lkc pc (kcode k) = some (.lmul))  : xF k ca P n (pc + 1) l (.long (x * y) :: r) m := by
  obtain ⟨n2, hn, h⟩ := f_xi h hi
  exact ⟨n2, hn, h⟩
theorem f_dup {v : Value} {r : List Value} (h : xF k ca P n pc l (v :: r) m) (hi : lkc pc (kcode k) = some (.dup))  : xF k ca P n (pc + 1) l (v :: v :: r) m := by
  obtain ⟨n2, hn, h⟩ := f_xi h hi
  exact ⟨n2, hn, h.2⟩
theorem f_pop {v : Value} {r : List Value} (h : xF k ca P n pc l (v :: r) m) (hi : lkc pc (kcode k) = some (.pop))  : xF k ca P n (pc + 1) l r m := by
  obtain ⟨n2, hn, h⟩ := f_xi h hi
  exact ⟨n2, hn, h.2⟩
theorem f_dup2 {v w : Value} {r : List Value} (h : xF k ca P n pc l (v :: w :: r) m) (hi : lkc pc (kcode k) = some (.dup2))  : xF k ca P n (pc + 1) l (v :: w :: v :: w :: r) m := by
  obtain ⟨n2, hn, h⟩ := f_xi h hi
  exact ⟨n2, hn, h.2.2⟩
theorem f_goto {a : Int} {t : Nat} {r : List Value} (h : xF k ca P n pc l r m) (hi : lkc pc (kcode k) = some (.goto a)) (ht : tgt pc a = t) : xF k ca P n (t) l r m := by
  obtain ⟨n2, hn, h⟩ := f_xi h hi
  subst ht
  exact ⟨n2, hn, h⟩
theorem f_if_eq {x : Int32} {a : Int} {t : Nat} {r : List Value} (h : xF k ca P n pc l (.int x :: r) m) (hi : lkc pc (kcode k) = some (.ifCond .eq a)) (ht : tgt pc a = t) : (x = 0 ∧ xF k ca P n t l r m) ∨ (¬ x = 0 ∧ xF k ca P n (pc + 3) l r m) := by
  subst ht
  obtain ⟨n2, hn, h⟩ := f_xi h hi
  by_cases c : x = 0
  · exact Or.inl ⟨c, n2, hn, h.1 c⟩
  · exact Or.inr ⟨c, n2, hn, h.2 c⟩
theorem f_if_eq_t {x : Int32} {a : Int} {t : Nat} {r : List Value} (h : xF k ca P n pc l (.int x :: r) m) (hi : lkc pc (kcode k) = some (.ifCond .eq a)) (hc : x = 0) (ht : tgt pc a = t) : xF k ca P n t l r m := by
  rcases f_if_eq h hi ht with ⟨_, h⟩ | ⟨c, h⟩
  · exact h
  · exact absurd hc c
theorem f_if_eq_f {x : Int32} {a : Int} {r : List Value} (h : xF k ca P n pc l (.int x :: r) m) (hi : lkc pc (kcode k) = some (.ifCond .eq a)) (hc : ¬ x = 0) : xF k ca P n (pc + 3) l r m := by
  rcases f_if_eq h hi rfl with ⟨c, h⟩ | ⟨_, h⟩
  · exact absurd c hc
  · exact h
theorem f_if_ne {x : Int32} {a : Int} {t : Nat} {r : List Value} (h : xF k ca P n pc l (.int x :: r) m) (hi : lkc pc (kcode k) = some (.ifCond .ne a)) (ht : tgt pc a = t) : (¬ x = 0 ∧ xF k ca P n t l r m) ∨ (x = 0 ∧ xF k ca P n (pc + 3) l r m) := by
  subst ht
  obtain ⟨n2, hn, h⟩ := f_xi h hi
  by_cases c : x = 0
  · exact Or.inr ⟨c, n2, hn, h.2 c⟩
  · exact Or.inl ⟨c, n2, hn, h.1 c⟩
theorem f_if_ne_t {x : Int32} {a : Int} {t : Nat} {r : List Value} (h : xF k ca P n pc l (.int x :: r) m) (hi : lkc pc (kcode k) = some (.ifCond .ne a)) (hc : ¬ x = 0) (ht : tgt pc a = t) : xF k ca P n t l r m := by
  rcases f_if_ne h hi ht with ⟨_, h⟩ | ⟨c, h⟩
  · exact h
  · exact absurd c hc
theorem f_if_ne_f {x : Int32} {a : Int} {r : List Value} (h : xF k ca P n pc l (.int x :: r) m) (hi : lkc pc (kcode k) = some (.ifCond .ne a)) (hc : x = 0) : xF k ca P n (pc + 3) l r m := by
  rcases f_if_ne h hi rfl with ⟨c, h⟩ | ⟨_, h⟩
  · exact absurd hc c
  · exact h
theorem f_if_lt {x : Int32} {a : Int} {t : Nat} {r : List Value} (h : xF k ca P n pc l (.int x :: r) m) (hi : lkc pc (kcode k) = some (.ifCond .lt a)) (ht : tgt pc a = t) : (x < 0 ∧ xF k ca P n t l r m) ∨ (¬ x < 0 ∧ xF k ca P n (pc + 3) l r m) := by
  subst ht
  obtain ⟨n2, hn, h⟩ := f_xi h hi
  by_cases c : x < 0
  · exact Or.inl ⟨c, n2, hn, h.1 c⟩
  · exact Or.inr ⟨c, n2, hn, h.2 c⟩
theorem f_if_lt_t {x : Int32} {a : Int} {t : Nat} {r : List Value} (h : xF k ca P n pc l (.int x :: r) m) (hi : lkc pc (kcode k) = some (.ifCond .lt a)) (hc : x < 0) (ht : tgt pc a = t) : xF k ca P n t l r m := by
  rcases f_if_lt h hi ht with ⟨_, h⟩ | ⟨c, h⟩
  · exact h
  · exact absurd hc c
theorem f_if_lt_f {x : Int32} {a : Int} {r : List Value} (h : xF k ca P n pc l (.int x :: r) m) (hi : lkc pc (kcode k) = some (.ifCond .lt a)) (hc : ¬ x < 0) : xF k ca P n (pc + 3) l r m := by
  rcases f_if_lt h hi rfl with ⟨c, h⟩ | ⟨_, h⟩
  · exact absurd c hc
  · exact h
theorem f_if_ge {x : Int32} {a : Int} {t : Nat} {r : List Value} (h : xF k ca P n pc l (.int x :: r) m) (hi : lkc pc (kcode k) = some (.ifCond .ge a)) (ht : tgt pc a = t) : (0 ≤ x ∧ xF k ca P n t l r m) ∨ (¬ 0 ≤ x ∧ xF k ca P n (pc + 3) l r m) := by
  subst ht
  obtain ⟨n2, hn, h⟩ := f_xi h hi
  by_cases c : 0 ≤ x
  · exact Or.inl ⟨c, n2, hn, h.1 c⟩
  · exact Or.inr ⟨c, n2, hn, h.2 c⟩
theorem f_if_ge_t {x : Int32} {a : Int} {t : Nat} {r : List Value} (h : xF k ca P n pc l (.int x :: r) m) (hi : lkc pc (kcode k) = some (.ifCond .ge a)) (hc : 0 ≤ x) (ht : tgt pc a = t) : xF k ca P n t l r m := by
  rcases f_if_ge h hi ht with ⟨_, h⟩ | ⟨c, h⟩
  · exact h
  · exact absurd hc c
theorem f_if_ge_f {x : Int32} {a : Int} {r : List Value} (h : xF k ca P n pc l (.int x :: r) m) (hi : lkc pc (kcode k) = some (.ifCond .ge a)) (hc : ¬ 0 ≤ x) : xF k ca P n (pc + 3) l r m := by
  rcases f_if_ge h hi rfl with ⟨c, h⟩ | ⟨_, h⟩
  · exact absurd c hc
  · exact h
theorem f_if_gt {x : Int32} {a : Int} {t : Nat} {r : List Value} (h : xF k ca P n pc l (.int x :: r) m) (hi : lkc pc (kcode k) = some (.ifCond .gt a)) (ht : tgt pc a = t) : (0 < x ∧ xF k ca P n t l r m) ∨ (¬ 0 < x ∧ xF k ca P n (pc + 3) l r m) := by
  subst ht
  obtain ⟨n2, hn, h⟩ := f_xi h hi
  by_cases c : 0 < x
  · exact Or.inl ⟨c, n2, hn, h.1 c⟩
  · exact Or.inr ⟨c, n2, hn, h.2 c⟩
theorem f_if_gt_t {x : Int32} {a : Int} {t : Nat} {r : List Value} (h : xF k ca P n pc l (.int x :: r) m) (hi : lkc pc (kcode k) = some (.ifCond .gt a)) (hc : 0 < x) (ht : tgt pc a = t) : xF k ca P n t l r m := by
  rcases f_if_gt h hi ht with ⟨_, h⟩ | ⟨c, h⟩
  · exact h
  · exact absurd hc c
theorem f_if_gt_f {x : Int32} {a : Int} {r : List Value} (h : xF k ca P n pc l (.int x :: r) m) (hi : lkc pc (kcode k) = some (.ifCond .gt a)) (hc : ¬ 0 < x) : xF k ca P n (pc + 3) l r m := by
  rcases f_if_gt h hi rfl with ⟨c, h⟩ | ⟨_, h⟩
  · exact absurd c hc
  · exact h
theorem f_if_le {x : Int32} {a : Int} {t : Nat} {r : List Value} (h : xF k ca P n pc l (.int x :: r) m) (hi : lkc pc (kcode k) = some (.ifCond .le a)) (ht : tgt pc a = t) : (x ≤ 0 ∧ xF k ca P n t l r m) ∨ (¬ x ≤ 0 ∧ xF k ca P n (pc + 3) l r m) := by
  subst ht
  obtain ⟨n2, hn, h⟩ := f_xi h hi
  by_cases c : x ≤ 0
  · exact Or.inl ⟨c, n2, hn, h.1 c⟩
  · exact Or.inr ⟨c, n2, hn, h.2 c⟩
theorem f_if_le_t {x : Int32} {a : Int} {t : Nat} {r : List Value} (h : xF k ca P n pc l (.int x :: r) m) (hi : lkc pc (kcode k) = some (.ifCond .le a)) (hc : x ≤ 0) (ht : tgt pc a = t) : xF k ca P n t l r m := by
  rcases f_if_le h hi ht with ⟨_, h⟩ | ⟨c, h⟩
  · exact h
  · exact absurd hc c
theorem f_if_le_f {x : Int32} {a : Int} {r : List Value} (h : xF k ca P n pc l (.int x :: r) m) (hi : lkc pc (kcode k) = some (.ifCond .le a)) (hc : ¬ x ≤ 0) : xF k ca P n (pc + 3) l r m := by
  rcases f_if_le h hi rfl with ⟨c, h⟩ | ⟨_, h⟩
  · exact absurd c hc
  · exact h
theorem f_icmp_eq {x y : Int32} {a : Int} {t : Nat} {r : List Value} (h : xF k ca P n pc l (.int y :: .int x :: r) m) (hi : lkc pc (kcode k) = some (.if_icmp .eq a)) (ht : tgt pc a = t) : (x = y ∧ xF k ca P n t l r m) ∨ (¬ x = y ∧ xF k ca P n (pc + 3) l r m) := by
  subst ht
  obtain ⟨n2, hn, h⟩ := f_xi h hi
  by_cases c : x = y
  · exact Or.inl ⟨c, n2, hn, h.1 c⟩
  · exact Or.inr ⟨c, n2, hn, h.2 c⟩
theorem f_icmp_eq_t {x y : Int32} {a : Int} {t : Nat} {r : List Value} (h : xF k ca P n pc l (.int y :: .int x :: r) m) (hi : lkc pc (kcode k) = some (.if_icmp .eq a)) (hc : x = y) (ht : tgt pc a = t) : xF k ca P n t l r m := by
  rcases f_icmp_eq h hi ht with ⟨_, h⟩ | ⟨c, h⟩
  · exact h
  · exact absurd hc c
theorem f_icmp_eq_f {x y : Int32} {a : Int} {r : List Value} (h : xF k ca P n pc l (.int y :: .int x :: r) m) (hi : lkc pc (kcode k) = some (.if_icmp .eq a)) (hc : ¬ x = y) : xF k ca P n (pc + 3) l r m := by
  rcases f_icmp_eq h hi rfl with ⟨c, h⟩ | ⟨_, h⟩
  · exact absurd c hc
  · exact h
theorem f_icmp_ne {x y : Int32} {a : Int} {t : Nat} {r : List Value} (h : xF k ca P n pc l (.int y :: .int x :: r) m) (hi : lkc pc (kcode k) = some (.if_icmp .ne a)) (ht : tgt pc a = t) : (¬ x = y ∧ xF k ca P n t l r m) ∨ (x = y ∧ xF k ca P n (pc + 3) l r m) := by
  subst ht
  obtain ⟨n2, hn, h⟩ := f_xi h hi
  by_cases c : x = y
  · exact Or.inr ⟨c, n2, hn, h.2 c⟩
  · exact Or.inl ⟨c, n2, hn, h.1 c⟩
theorem f_icmp_ne_t {x y : Int32} {a : Int} {t : Nat} {r : List Value} (h : xF k ca P n pc l (.int y :: .int x :: r) m) (hi : lkc pc (kcode k) = some (.if_icmp .ne a)) (hc : ¬ x = y) (ht : tgt pc a = t) : xF k ca P n t l r m := by
  rcases f_icmp_ne h hi ht with ⟨_, h⟩ | ⟨c, h⟩
  · exact h
  · exact absurd c hc
theorem f_icmp_ne_f {x y : Int32} {a : Int} {r : List Value} (h : xF k ca P n pc l (.int y :: .int x :: r) m) (hi : lkc pc (kcode k) = some (.if_icmp .ne a)) (hc : x = y) : xF k ca P n (pc + 3) l r m := by
  rcases f_icmp_ne h hi rfl with ⟨c, h⟩ | ⟨_, h⟩
  · exact absurd hc c
  · exact h
theorem f_icmp_lt {x y : Int32} {a : Int} {t : Nat} {r : List Value} (h : xF k ca P n pc l (.int y :: .int x :: r) m) (hi : lkc pc (kcode k) = some (.if_icmp .lt a)) (ht : tgt pc a = t) : (x < y ∧ xF k ca P n t l r m) ∨ (¬ x < y ∧ xF k ca P n (pc + 3) l r m) := by
  subst ht
  obtain ⟨n2, hn, h⟩ := f_xi h hi
  by_cases c : x < y
  · exact Or.inl ⟨c, n2, hn, h.1 c⟩
  · exact Or.inr ⟨c, n2, hn, h.2 c⟩
theorem f_icmp_lt_t {x y : Int32} {a : Int} {t : Nat} {r : List Value} (h : xF k ca P n pc l (.int y :: .int x :: r) m) (hi : lkc pc (kcode k) = some (.if_icmp .lt a)) (hc : x < y) (ht : tgt pc a = t) : xF k ca P n t l r m := by
  rcases f_icmp_lt h hi ht with ⟨_, h⟩ | ⟨c, h⟩
  · exact h
  · exact absurd hc c
theorem f_icmp_lt_f {x y : Int32} {a : Int} {r : List Value} (h : xF k ca P n pc l (.int y :: .int x :: r) m) (hi : lkc pc (kcode k) = some (.if_icmp .lt a)) (hc : ¬ x < y) : xF k ca P n (pc + 3) l r m := by
  rcases f_icmp_lt h hi rfl with ⟨c, h⟩ | ⟨_, h⟩
  · exact absurd c hc
  · exact h
theorem f_icmp_ge {x y : Int32} {a : Int} {t : Nat} {r : List Value} (h : xF k ca P n pc l (.int y :: .int x :: r) m) (hi : lkc pc (kcode k) = some (.if_icmp .ge a)) (ht : tgt pc a = t) : (y ≤ x ∧ xF k ca P n t l r m) ∨ (¬ y ≤ x ∧ xF k ca P n (pc + 3) l r m) := by
  subst ht
  obtain ⟨n2, hn, h⟩ := f_xi h hi
  by_cases c : y ≤ x
  · exact Or.inl ⟨c, n2, hn, h.1 c⟩
  · exact Or.inr ⟨c, n2, hn, h.2 c⟩
theorem f_icmp_ge_t {x y : Int32} {a : Int} {t : Nat} {r : List Value} (h : xF k ca P n pc l (.int y :: .int x :: r) m) (hi : lkc pc (kcode k) = some (.if_icmp .ge a)) (hc : y ≤ x) (ht : tgt pc a = t) : xF k ca P n t l r m := by
  rcases f_icmp_ge h hi ht with ⟨_, h⟩ | ⟨c, h⟩
  · exact h
  · exact absurd hc c
theorem f_icmp_ge_f {x y : Int32} {a : Int} {r : List Value} (h : xF k ca P n pc l (.int y :: .int x :: r) m) (hi : lkc pc (kcode k) = some (.if_icmp .ge a)) (hc : ¬ y ≤ x) : xF k ca P n (pc + 3) l r m := by
  rcases f_icmp_ge h hi rfl with ⟨c, h⟩ | ⟨_, h⟩
  · exact absurd c hc
  · exact h
theorem f_icmp_gt {x y : Int32} {a : Int} {t : Nat} {r : List Value} (h : xF k ca P n pc l (.int y :: .int x :: r) m) (hi : lkc pc (kcode k) = some (.if_icmp .gt a)) (ht : tgt pc a = t) : (y < x ∧ xF k ca P n t l r m) ∨ (¬ y < x ∧ xF k ca P n (pc + 3) l r m) := by
  subst ht
  obtain ⟨n2, hn, h⟩ := f_xi h hi
  by_cases c : y < x
  · exact Or.inl ⟨c, n2, hn, h.1 c⟩
  · exact Or.inr ⟨c, n2, hn, h.2 c⟩
theorem f_icmp_gt_t {x y : Int32} {a : Int} {t : Nat} {r : List Value} (h : xF k ca P n pc l (.int y :: .int x :: r) m) (hi : lkc pc (kcode k) = some (.if_icmp .gt a)) (hc : y < x) (ht : tgt pc a = t) : xF k ca P n t l r m := by
  rcases f_icmp_gt h hi ht with ⟨_, h⟩ | ⟨c, h⟩
  · exact h
  · exact absurd hc c
theorem f_icmp_gt_f {x y : Int32} {a : Int} {r : List Value} (h : xF k ca P n pc l (.int y :: .int x :: r) m) (hi : lkc pc (kcode k) = some (.if_icmp .gt a)) (hc : ¬ y < x) : xF k ca P n (pc + 3) l r m := by
  rcases f_icmp_gt h hi rfl with ⟨c, h⟩ | ⟨_, h⟩
  · exact absurd c hc
  · exact h
theorem f_icmp_le {x y : Int32} {a : Int} {t : Nat} {r : List Value} (h : xF k ca P n pc l (.int y :: .int x :: r) m) (hi : lkc pc (kcode k) = some (.if_icmp .le a)) (ht : tgt pc a = t) : (x ≤ y ∧ xF k ca P n t l r m) ∨ (¬ x ≤ y ∧ xF k ca P n (pc + 3) l r m) := by
  subst ht
  obtain ⟨n2, hn, h⟩ := f_xi h hi
  by_cases c : x ≤ y
  · exact Or.inl ⟨c, n2, hn, h.1 c⟩
  · exact Or.inr ⟨c, n2, hn, h.2 c⟩
theorem f_icmp_le_t {x y : Int32} {a : Int} {t : Nat} {r : List Value} (h : xF k ca P n pc l (.int y :: .int x :: r) m) (hi : lkc pc (kcode k) = some (.if_icmp .le a)) (hc : x ≤ y) (ht : tgt pc a = t) : xF k ca P n t l r m := by
  rcases f_icmp_le h hi ht with ⟨_, h⟩ | ⟨c, h⟩
  · exact h
  · exact absurd hc c
theorem f_icmp_le_f {x y : Int32} {a : Int} {r : List Value} (h : xF k ca P n pc l (.int y :: .int x :: r) m) (hi : lkc pc (kcode k) = some (.if_icmp .le a)) (hc : ¬ x ≤ y) : xF k ca P n (pc + 3) l r m := by
  rcases f_icmp_le h hi rfl with ⟨c, h⟩ | ⟨_, h⟩
  · exact absurd c hc
  · exact h
theorem f_ldc_i {a : Nat} {v : Int32} {r : List Value} (h : xF k ca P n pc l r m) (hi : lkc pc (kcode k) = some (.ldc a)) (hv : kLd (kcl k) a = some (.int v)) : xF k ca P n (pc + 2) l (.int v :: r) m := by
  obtain ⟨n2, hn, h⟩ := f_xi h hi
  simp only [xi] at h
  rw [hv] at h
  exact ⟨n2, hn, h⟩
theorem f_ldc_r {a : Nat} {v : Nat} {r : List Value} (h : xF k ca P n pc l r m) (hi : lkc pc (kcode k) = some (.ldc a)) (hv : kLd (kcl k) a = some (.ref v)) : xF k ca P n (pc + 2) l (.ref v :: r) m := by
  obtain ⟨n2, hn, h⟩ := f_xi h hi
  simp only [xi] at h
  rw [hv] at h
  exact ⟨n2, hn, h⟩
theorem f_ldc_w {a : Nat} {v : Int32} {r : List Value} (h : xF k ca P n pc l r m) (hi : lkc pc (kcode k) = some (.ldc_w a)) (hv : kLd (kcl k) a = some (.int v)) : xF k ca P n (pc + 3) l (.int v :: r) m := by
  obtain ⟨n2, hn, h⟩ := f_xi h hi
  simp only [xi] at h
  rw [hv] at h
  exact ⟨n2, hn, h⟩
theorem f_getstatic {a : Nat} {v : Nat} {r : List Value} (h : xF k ca P n pc l r m) (hi : lkc pc (kcode k) = some (.getstatic a)) (hv : kSt (kcl k) a = some v) : xF k ca P n (pc + 3) l (.ref v :: r) m := by
  obtain ⟨n2, hn, h⟩ := f_xi h hi
  simp only [xi] at h
  rw [hv] at h
  exact ⟨n2, hn, h⟩
theorem f_getfield {a b ci f : Nat} {v : Value} {r : List Value} (h : xF k ca P n pc l (.ref b :: r) m) (hi : lkc pc (kcode k) = some (.getfield a)) (hf : kFd (kcl k) a = some (ci, f)) (hv : fvl m b ci f = v) : xF k ca P n (pc + 3) l (v :: r) m := by
  obtain ⟨n2, hn, h⟩ := f_xi h hi
  subst hv
  have h : (match kFd (kcl k) a with | some (ci, f) => lay b = (3, ci, kNf ci) ∧ xe k ca P n2 (pc + 3) l (fvl m b ci f :: r) m | none => False) := h
  rw [hf] at h
  exact ⟨n2, hn, h.2⟩
theorem f_put_i {a b ci f : Nat} {x : Int32} {r : List Value} (h : xF k ca P n pc l (.int x :: .ref b :: r) m) (hi : lkc pc (kcode k) = some (.putfield a)) (hf : kFd (kcl k) a = some (ci, f)) (hk : fk ci f = 0) : xF k ca P n (pc + 3) l r (mI m b f x) := by
  obtain ⟨n2, hn, h⟩ := f_xi h hi
  simp only [xi] at h
  rw [hf] at h
  simp only [hk] at h
  exact ⟨n2, hn, h.2.2⟩
theorem f_put_b {a b ci f : Nat} {x : Int32} {r : List Value} (h : xF k ca P n pc l (.int x :: .ref b :: r) m) (hi : lkc pc (kcode k) = some (.putfield a)) (hf : kFd (kcl k) a = some (ci, f)) (hk : fk ci f = 1) : xF k ca P n (pc + 3) l r (mI m b f x) := by
  obtain ⟨n2, hn, h⟩ := f_xi h hi
  simp only [xi] at h
  rw [hf] at h
  simp only [hk] at h
  exact ⟨n2, hn, h.2.2.2⟩
theorem f_put_r {a b ci f : Nat} {x : Nat} {r : List Value} (h : xF k ca P n pc l (.ref x :: .ref b :: r) m) (hi : lkc pc (kcode k) = some (.putfield a)) (hf : kFd (kcl k) a = some (ci, f)) (hk : fk ci f = 3) : xF k ca P n (pc + 3) l r (mR m b f (some x)) := by
  obtain ⟨n2, hn, h⟩ := f_xi h hi
  simp only [xi] at h
  rw [hf] at h
  simp only [hk] at h
  exact ⟨n2, hn, h.2.2⟩
theorem f_alen {b x c : Nat} {r : List Value} (h : xF k ca P n pc l (.ref b :: r) m) (hi : lkc pc (kcode k) = some (.arraylength)) (hl : lay b = (0, x, c) ∨ lay b = (4, x, c)) : xF k ca P n (pc + 1) l (.int (Int32.ofNat c) :: r) m := by
  obtain ⟨n2, hn, h⟩ := f_xi h hi
  have h : (match lay b with | (0, _, c) => xe k ca P n2 (pc + 1) l (.int (Int32.ofNat c) :: r) m | (4, _, c) => xe k ca P n2 (pc + 1) l (.int (Int32.ofNat c) :: r) m | _ => False) := h
  rcases hl with hl | hl <;> rw [hl] at h <;> exact ⟨n2, hn, h⟩
theorem f_iald {b c : Nat} {i : Int32} {r : List Value} (h : xF k ca P n pc l (.int i :: .ref b :: r) m) (hi : lkc pc (kcode k) = some (.iaload)) (hl : lay b = (0, 0, c)) : vp_in i c ∧ xF k ca P n (pc + 1) l (.int (m.1 b i.toNatClampNeg) :: r) m := by
  obtain ⟨n2, hn, h⟩ := f_xi h hi
  simp only [xi, pI, pR] at h
  rw [hl] at h
  exact ⟨h.1, n2, hn, h.2⟩
theorem f_bald {b c : Nat} {i : Int32} {r : List Value} (h : xF k ca P n pc l (.int i :: .ref b :: r) m) (hi : lkc pc (kcode k) = some (.baload)) (hl : lay b = (0, 1, c)) : vp_in i c ∧ xF k ca P n (pc + 1) l (.int (m.1 b i.toNatClampNeg) :: r) m := by
  obtain ⟨n2, hn, h⟩ := f_xi h hi
  simp only [xi, pI, pR] at h
  rw [hl] at h
  exact ⟨h.1, n2, hn, h.2⟩
theorem f_bald2 {b c : Nat} {i : Int32} {r : List Value} (h : xF k ca P n pc l (.int i :: .ref b :: r) m) (hi : lkc pc (kcode k) = some (.baload)) (hl : lay b = (0, 2, c)) : vp_in i c ∧ xF k ca P n (pc + 1) l (.int (m.1 b i.toNatClampNeg) :: r) m := by
  obtain ⟨n2, hn, h⟩ := f_xi h hi
  simp only [xi, pI, pR] at h
  rw [hl] at h
  exact ⟨h.1, n2, hn, h.2⟩
theorem f_iald4 {b c : Nat} {i : Int32} {r : List Value} (h : xF k ca P n pc l (.int i :: .ref b :: r) m) (hi : lkc pc (kcode k) = some (.iaload)) (hl : lay b = (4, 0, c)) : vp_in i c ∧ xF k ca P n (pc + 1) l (.int (cst b i.toNatClampNeg) :: r) m := by
  obtain ⟨n2, hn, h⟩ := f_xi h hi
  simp only [xi, pI, pR] at h
  rw [hl] at h
  exact ⟨h.1, n2, hn, h.2⟩
theorem f_cald {b c : Nat} {i : Int32} {r : List Value} (h : xF k ca P n pc l (.int i :: .ref b :: r) m) (hi : lkc pc (kcode k) = some (.caload)) (hl : lay b = (4, 3, c)) : vp_in i c ∧ xF k ca P n (pc + 1) l (.int (cst b i.toNatClampNeg) :: r) m := by
  obtain ⟨n2, hn, h⟩ := f_xi h hi
  simp only [xi, pI, pR] at h
  rw [hl] at h
  exact ⟨h.1, n2, hn, h.2⟩
theorem f_aald {b x c : Nat} {i : Int32} {v : Value} {r : List Value} (h : xF k ca P n pc l (.int i :: .ref b :: r) m) (hi : lkc pc (kcode k) = some (.aaload)) (hl : lay b = (2, x, c)) (hv : rvl (m.2.2 b i.toNatClampNeg) = v) : vp_in i c ∧ xF k ca P n (pc + 1) l (v :: r) m := by
  subst hv
  obtain ⟨n2, hn, h⟩ := f_xi h hi
  simp only [xi, pI, pR] at h
  rw [hl] at h
  exact ⟨h.1, n2, hn, h.2⟩
theorem f_iast {b c : Nat} {i x : Int32} {r : List Value} (h : xF k ca P n pc l (.int x :: .int i :: .ref b :: r) m) (hi : lkc pc (kcode k) = some (.iastore)) (hl : lay b = (0, 0, c)) : vp_in i c ∧ xF k ca P n (pc + 1) l r (mI m b i.toNatClampNeg x) := by
  obtain ⟨n2, hn, h⟩ := f_xi h hi
  simp only [xi, pI, pR] at h
  rw [hl] at h
  exact ⟨h.1, n2, hn, h.2⟩
theorem f_bast {b c : Nat} {i x : Int32} {r : List Value} (h : xF k ca P n pc l (.int x :: .int i :: .ref b :: r) m) (hi : lkc pc (kcode k) = some (.bastore)) (hl : lay b = (0, 1, c)) : vp_in i c ∧ xF k ca P n (pc + 1) l r (mI m b i.toNatClampNeg (vp_nar .byte x)) := by
  obtain ⟨n2, hn, h⟩ := f_xi h hi
  simp only [xi, pI, pR] at h
  rw [hl] at h
  exact ⟨h.1, n2, hn, h.2⟩
theorem f_bast2 {b c : Nat} {i x : Int32} {r : List Value} (h : xF k ca P n pc l (.int x :: .int i :: .ref b :: r) m) (hi : lkc pc (kcode k) = some (.bastore)) (hl : lay b = (0, 2, c)) : vp_in i c ∧ xF k ca P n (pc + 1) l r (mI m b i.toNatClampNeg (vp_nar .boolean x)) := by
  obtain ⟨n2, hn, h⟩ := f_xi h hi
  simp only [xi, pI, pR] at h
  rw [hl] at h
  exact ⟨h.1, n2, hn, h.2⟩
theorem f_lushr {x : Int64} {y : Int32} {r : List Value} (h : xF k ca P n pc l (.int y :: .long x :: r) m) (hi : lkc pc (kcode k) = some (.lushr))  : xF k ca P n (pc + 1) l (.long ((x.toUInt64 >>> (y.toInt64.toUInt64 &&& Int64.toUInt64 63)).toInt64) :: r) m := by
  obtain ⟨n2, hn, h⟩ := f_xi h hi
  exact ⟨n2, hn, h⟩
theorem f_ldiv {x y : Int64} {r : List Value} (h : xF k ca P n pc l (.long y :: .long x :: r) m) (hi : lkc pc (kcode k) = some (.ldiv))  : xF k ca P n (pc + 1) l (.long (x / y) :: r) m := by
  obtain ⟨n2, hn, h⟩ := f_xi h hi
  exact ⟨n2, hn, h.2⟩
theorem f_lrem {x y : Int64} {r : List Value} (h : xF k ca P n pc l (.long y :: .long x :: r) m) (hi : lkc pc (kcode k) = some (.lrem))  : xF k ca P n (pc + 1) l (.long (x - x / y * y) :: r) m := by
  obtain ⟨n2, hn, h⟩ := f_xi h hi
  exact ⟨n2, hn, h.2⟩
theorem f_lstore_n {a : Fin 4} {x : Int64} {l2 : List (Nat × Value)} {r : List Value} (h : xF k ca P n pc l (.long x :: r) m) (hi : lkc pc (kcode k) = some (.lstore_n a)) (hl : sv2 (a : Nat) (.long x) l = l2) : xF k ca P n (pc + 1) l2 r m := by
  obtain ⟨n2, hn, h⟩ := f_xi h hi
  subst hl
  exact ⟨n2, hn, h.2⟩
theorem f_lstore {a : Nat} {x : Int64} {l2 : List (Nat × Value)} {r : List Value} (h : xF k ca P n pc l (.long x :: r) m) (hi : lkc pc (kcode k) = some (.lstore a)) (hl : sv2 (a : Nat) (.long x) l = l2) : xF k ca P n (pc + 2) l2 r m := by
  obtain ⟨n2, hn, h⟩ := f_xi h hi
  subst hl
  exact ⟨n2, hn, h.2⟩
theorem f_ldc2 {a : Nat} {v : Int64} {r : List Value} (h : xF k ca P n pc l r m) (hi : lkc pc (kcode k) = some (.ldc2_w a)) (hv : kLd (kcl k) a = some (.long v)) : xF k ca P n (pc + 3) l (.long v :: r) m := by
  obtain ⟨n2, hn, h⟩ := f_xi h hi
  simp only [xi] at h
  rw [hv] at h
  exact ⟨n2, hn, h⟩
theorem f_gi {a b ci f : Nat} {r : List Value} (h : xF k ca P n pc l (.ref b :: r) m) (hi : lkc pc (kcode k) = some (.getfield a)) (hf : kFd (kcl k) a = some (ci, f)) (hk : Nat.blt (fk ci f) 2 = true) : xF k ca P n (pc + 3) l (.int (m.1 b f) :: r) m := by
  obtain ⟨n2, hn, h⟩ := f_xi h hi
  have h : (match kFd (kcl k) a with | some (ci, f) => lay b = (3, ci, kNf ci) ∧ xe k ca P n2 (pc + 3) l (fvl m b ci f :: r) m | none => False) := h
  rw [hf] at h
  have h := h.2
  refine ⟨n2, hn, ?_⟩
  have e : fvl m b ci f = .int (m.1 b f) := by
    unfold fvl
    generalize fk ci f = q at hk ⊢
    match q, hk with
    | 0, _ => rfl
    | 1, _ => rfl
  rwa [e] at h
theorem f_gl {a b ci f : Nat} {r : List Value} (h : xF k ca P n pc l (.ref b :: r) m) (hi : lkc pc (kcode k) = some (.getfield a)) (hf : kFd (kcl k) a = some (ci, f)) (hk : fk ci f = 2) : xF k ca P n (pc + 3) l (.long (m.2.1 b f) :: r) m := by
  obtain ⟨n2, hn, h⟩ := f_xi h hi
  have h : (match kFd (kcl k) a with | some (ci, f) => lay b = (3, ci, kNf ci) ∧ xe k ca P n2 (pc + 3) l (fvl m b ci f :: r) m | none => False) := h
  rw [hf] at h
  have h := h.2
  refine ⟨n2, hn, ?_⟩
  have e : fvl m b ci f = .long (m.2.1 b f) := by
    unfold fvl
    rw [hk]
    rfl
  rwa [e] at h
theorem f_gr {a b ci f x : Nat} {r : List Value} (h : xF k ca P n pc l (.ref b :: r) m) (hi : lkc pc (kcode k) = some (.getfield a)) (hf : kFd (kcl k) a = some (ci, f)) (hk : fk ci f = 3) (hx : m.2.2 b f = some x) : xF k ca P n (pc + 3) l (.ref x :: r) m := by
  obtain ⟨n2, hn, h⟩ := f_xi h hi
  have h : (match kFd (kcl k) a with | some (ci, f) => lay b = (3, ci, kNf ci) ∧ xe k ca P n2 (pc + 3) l (fvl m b ci f :: r) m | none => False) := h
  rw [hf] at h
  have h := h.2
  refine ⟨n2, hn, ?_⟩
  have e : fvl m b ci f = .ref x := by
    unfold fvl
    rw [hk]
    show rvl (m.2.2 b f) = _
    rw [hx]
    rfl
  rwa [e] at h
theorem f_put_l {a b ci f : Nat} {x : Int64} {r : List Value} (h : xF k ca P n pc l (.long x :: .ref b :: r) m) (hi : lkc pc (kcode k) = some (.putfield a)) (hf : kFd (kcl k) a = some (ci, f)) (hk : fk ci f = 2) : xF k ca P n (pc + 3) l r (mJ m b f x) := by
  obtain ⟨n2, hn, h⟩ := f_xi h hi
  simp only [xi] at h
  rw [hf] at h
  simp only [hk] at h
  exact ⟨n2, hn, h.2.2⟩
theorem f_lald {b x c : Nat} {i : Int32} {r : List Value} (h : xF k ca P n pc l (.int i :: .ref b :: r) m) (hi : lkc pc (kcode k) = some (.laload)) (hl : lay b = (1, x, c)) : vp_in i c ∧ xF k ca P n (pc + 1) l (.long (m.2.1 b i.toNatClampNeg) :: r) m := by
  obtain ⟨n2, hn, h⟩ := f_xi h hi
  simp only [xi, pI, pR] at h
  rw [hl] at h
  exact ⟨h.1, n2, hn, h.2⟩
theorem f_last {b y c : Nat} {i : Int32} {x : Int64} {r : List Value} (h : xF k ca P n pc l (.long x :: .int i :: .ref b :: r) m) (hi : lkc pc (kcode k) = some (.lastore)) (hl : lay b = (1, y, c)) : vp_in i c ∧ xF k ca P n (pc + 1) l r (mJ m b i.toNatClampNeg x) := by
  obtain ⟨n2, hn, h⟩ := f_xi h hi
  simp only [xi, pI, pR, pL] at h
  rw [hl] at h
  exact ⟨h.1, n2, hn, h.2⟩
theorem f_slen {d idx b x c : Nat} {r : List Value} (h : xF k (xw d) P n pc l (.ref b :: r) m) (hi : lkc pc (kcode k) = some (.invokevirtual idx)) (hc : kCl (kcl k) idx = some (3, 271)) (hl : lay b = (5, x, c)) : xF k (xw d) P n (pc + 3) l (.int (nI c) :: r) m := by
  obtain ⟨n2, hn, h⟩ := f_xi h hi
  simp only [xi] at h
  rw [hc] at h
  have h : (lay b).1 = 5 ∧ (r.map fun v => v.category).sum ≤ 8 ∧ xw d 271 [.ref b] m (fun rv m' => xe k (xw d) P n2 (pc + 3) l (rv.toList ++ r) m') := h
  cases d with
  | zero => exact h.2.2.elim
  | succ d =>
    obtain ⟨-, h⟩ : 271 = 271 ∧ (match lay b with | (5, _, c) => xe k (xw (d + 1)) P n2 (pc + 3) l (.int (Int32.ofNat c) :: r) m | _ => False) := h.2.2
    rw [hl] at h
    exact ⟨n2, hn, h⟩
theorem f_sch {d idx b x c : Nat} {i : Int32} {r : List Value} (h : xF k (xw d) P n pc l (.int i :: .ref b :: r) m) (hi : lkc pc (kcode k) = some (.invokevirtual idx)) (hc : kCl (kcl k) idx = some (3, 272)) (hl : lay b = (5, x, c)) : vp_in i c ∧ xF k (xw d) P n (pc + 3) l (.int (cst b i.toNatClampNeg) :: r) m := by
  obtain ⟨n2, hn, h⟩ := f_xi h hi
  simp only [xi] at h
  rw [hc] at h
  have h : (lay b).1 = 5 ∧ (r.map fun v => v.category).sum ≤ 8 ∧ xw d 272 [.ref b, .int i] m (fun rv m' => xe k (xw d) P n2 (pc + 3) l (rv.toList ++ r) m') := h
  cases d with
  | zero => exact h.2.2.elim
  | succ d =>
    obtain ⟨-, h⟩ : 272 = 272 ∧ (match lay b with | (5, _, c) => vp_in i c ∧ xe k (xw (d + 1)) P n2 (pc + 3) l (.int (cst b i.toNatClampNeg) :: r) m | _ => False) := h.2.2
    rw [hl] at h
    exact ⟨h.1, n2, hn, h.2⟩
theorem f_cpy {idx z b a nb na : Nat} {n3 dp sp : Int32} {r : List Value} (h : xF k ca P n pc l (.int n3 :: .int dp :: .ref b :: .int sp :: .ref a :: r) m) (hi : lkc pc (kcode k) = some (.invokestatic idx)) (hc : kCl (kcl k) idx = some (5, z)) (hb : lay b = (0, 0, nb)) (ha : lay a = (0, 0, na)) : (¬ sp < 0 ∧ ¬ dp < 0 ∧ ¬ n3 < 0 ∧ dp.toNatClampNeg + n3.toNatClampNeg ≤ nb ∧ sp.toNatClampNeg + n3.toNatClampNeg ≤ na) ∧ xF k ca P n (pc + 3) l r (mC m b (va_cpy (m.1 a) (m.1 b) sp.toNatClampNeg dp.toNatClampNeg n3.toNatClampNeg)) := by
  obtain ⟨n2, hn, h⟩ := f_xi h hi
  simp only [xi] at h
  rw [hc] at h
  simp only [pI, pR] at h
  rw [hb, ha] at h
  obtain ⟨_, h1, h2, h3, h4, h5, h⟩ := h
  exact ⟨⟨h1, h2, h3, h4, h5⟩, n2, hn, h⟩
theorem f_cpy4 {idx z b a nb na : Nat} {n3 dp sp : Int32} {r : List Value} (h : xF k ca P n pc l (.int n3 :: .int dp :: .ref b :: .int sp :: .ref a :: r) m) (hi : lkc pc (kcode k) = some (.invokestatic idx)) (hc : kCl (kcl k) idx = some (5, z)) (hb : lay b = (0, 0, nb)) (ha : lay a = (4, 0, na)) : (¬ sp < 0 ∧ ¬ dp < 0 ∧ ¬ n3 < 0 ∧ dp.toNatClampNeg + n3.toNatClampNeg ≤ nb ∧ sp.toNatClampNeg + n3.toNatClampNeg ≤ na) ∧ xF k ca P n (pc + 3) l r (mC m b (va_cpy (cst a) (m.1 b) sp.toNatClampNeg dp.toNatClampNeg n3.toNatClampNeg)) := by
  obtain ⟨n2, hn, h⟩ := f_xi h hi
  simp only [xi] at h
  rw [hc] at h
  simp only [pI, pR] at h
  rw [hb, ha] at h
  obtain ⟨_, h1, h2, h3, h4, h5, h⟩ := h
  exact ⟨⟨h1, h2, h3, h4, h5⟩, n2, hn, h⟩
theorem f_lret {x : Int64} {r : List Value} (h : xF k ca P n pc l (.long x :: r) m) (hi : lkc pc (kcode k) = some (.lreturn)) : P (some (.long x)) m := by
  obtain ⟨n2, hn, h⟩ := f_xi h hi
  exact h.2.2
theorem f_tsw {d lo hi2 : Int} {os : Array Int} {x : Int32} {r : List Value} (h : xF k ca P n pc l (.int x :: r) m) (hi : lkc pc (kcode k) = some (.tableswitch d lo hi2 os)) : ((x.toInt < lo ∨ hi2 < x.toInt) ∧ xF k ca P n (tgt pc d) l r m) ∨ (¬ x.toInt < lo ∧ ¬ hi2 < x.toInt ∧ ∃ o, os[(x.toInt - lo).toNat]? = some o ∧ xF k ca P n (tgt pc o) l r m) := by
  obtain ⟨n2, hn, h⟩ := f_xi h hi
  simp only [xi, pI] at h
  by_cases c : x.toInt < lo ∨ hi2 < x.toInt
  · exact Or.inl ⟨c, n2, hn, h.1 c⟩
  · obtain ⟨o, h1, h2⟩ := h.2 (fun z => c (Or.inl z)) (fun z => c (Or.inr z))
    exact Or.inr ⟨fun z => c (Or.inl z), fun z => c (Or.inr z), o, h1, n2, hn, h2⟩
theorem f_lsw {d : Int} {ps : Array (Int × Int)} {x : Int32} {t : Nat} {r : List Value} (h : xF k ca P n pc l (.int x :: r) m) (hi : lkc pc (kcode k) = some (.lookupswitch d ps)) (ht : tgt pc (osw ps.toList d x.toInt) = t) : xF k ca P n t l r m := by
  subst ht
  obtain ⟨n2, hn, h⟩ := f_xi h hi
  exact ⟨n2, hn, h⟩
theorem f_iret {x : Int32} {r : List Value} (h : xF k ca P n pc l (.int x :: r) m) (hi : lkc pc (kcode k) = some (.ireturn)) : P (some (.int x)) m := by
  obtain ⟨n2, hn, h⟩ := f_xi h hi
  exact h.2.2
theorem f_ret (h : xF k ca P n pc l st m) (hi : lkc pc (kcode k) = some (.return_)) : P none m := by
  obtain ⟨n2, hn, h⟩ := f_xi h hi
  exact h.2.2
theorem f_inv {d j idx b : Nat} {as r : List Value} {F : Option Value → xM → Prop} (h : xF k (xw d) P n pc l st m) (hi : lkc pc (kcode k) = some (.invokevirtual idx)) (hc : kCl (kcl k) idx = some (1, j)) (hp : pops (knp j) st = some (as, .ref b :: r)) (hf : fC j (.ref b :: as) m F) : ∃ rv m', F rv m' ∧ xF k (xw d) P n (pc + 3) l (rv.toList ++ r) m' := by
  obtain ⟨n2, hn, h⟩ := f_xi h hi
  simp only [xi] at h
  rw [hc] at h
  have h : (match pops (knp j) st with | some (as, .ref b :: r) => lay b = (3, kcl j, kNf (kcl j)) ∧ (r.map fun v => v.category).sum ≤ 8 ∧ kmc j = 0 ∧ kms j = 0 ∧ xw d j (.ref b :: as) m (fun rv m' => xe k (xw d) P n2 (pc + 3) l (rv.toList ++ r) m') | _ => False) := h
  rw [hp] at h
  obtain ⟨rv, m', h1, h2⟩ := hf d _ h.2.2.2.2
  exact ⟨rv, m', h2, n2, hn, h1⟩
theorem f_ins {d j idx : Nat} {as r : List Value} {F : Option Value → xM → Prop} (h : xF k (xw d) P n pc l st m) (hi : lkc pc (kcode k) = some (.invokestatic idx)) (hc : kCl (kcl k) idx = some (2, j)) (hp : pops (knp j) st = some (as, r)) (hf : fC j as m F) : ∃ rv m', F rv m' ∧ xF k (xw d) P n (pc + 3) l (rv.toList ++ r) m' := by
  obtain ⟨n2, hn, h⟩ := f_xi h hi
  simp only [xi] at h
  rw [hc] at h
  have h : (match pops (knp j) st with | some (as, r) => (r.map fun v => v.category).sum ≤ 8 ∧ kmc j = 0 ∧ kms j = 0 ∧ xw d j as m (fun rv m' => xe k (xw d) P n2 (pc + 3) l (rv.toList ++ r) m') | none => False) := h
  rw [hp] at h
  obtain ⟨rv, m', h1, h2⟩ := hf d _ h.2.2.2
  exact ⟨rv, m', h2, n2, hn, h1⟩

theorem xF_0 (h : xF k ca P 0 pc l st m) : False := by
  obtain ⟨n', hn, -⟩ := h
  omega
theorem f_xi1 {i : Instr} (h : xF k ca P (n + 1) pc l st m) (hi : lkc pc (kcode k) = some i) : ∃ n2, n2 < n ∧ xi k ca (xe k ca P n2) P i pc l st m := by
  obtain ⟨n', hn, h⟩ := h
  cases n' with
  | zero => exact h.elim
  | succ n2 =>
    unfold xe at h
    rw [hi] at h
    exact ⟨n2, by omega, h⟩
theorem f1_iconst {a : Int} {v : Int32} {r : List Value} (h : xF k ca P (n + 1) pc l r m) (hi : lkc pc (kcode k) = some (.iconst a)) (hv : Int32.ofInt a = v) : xF k ca P n (pc + 1) l (.int v :: r) m := by
  obtain ⟨n2, hn, h⟩ := f_xi1 h hi
  subst hv
  exact ⟨n2, hn, h⟩
theorem f1_iload_n {a : Fin 4} {x : Int32} {r : List Value} (h : xF k ca P (n + 1) pc l r m) (hi : lkc pc (kcode k) = some (.iload_n a)) (hl : lkl (a : Nat) l = some (.int x)) : xF k ca P n (pc + 1) l (.int x :: r) m := by
  obtain ⟨n2, hn, h⟩ := f_xi1 h hi
  simp only [xi] at h
  rw [hl] at h
  exact ⟨n2, hn, h⟩
theorem f1_iload {a : Nat} {x : Int32} {r : List Value} (h : xF k ca P (n + 1) pc l r m) (hi : lkc pc (kcode k) = some (.iload a)) (hl : lkl (a : Nat) l = some (.int x)) : xF k ca P n (pc + 2) l (.int x :: r) m := by
  obtain ⟨n2, hn, h⟩ := f_xi1 h hi
  simp only [xi] at h
  rw [hl] at h
  exact ⟨n2, hn, h⟩
theorem f1_aload_n {a : Fin 4} {x : Nat} {r : List Value} (h : xF k ca P (n + 1) pc l r m) (hi : lkc pc (kcode k) = some (.aload_n a)) (hl : lkl (a : Nat) l = some (.ref x)) : xF k ca P n (pc + 1) l (.ref x :: r) m := by
  obtain ⟨n2, hn, h⟩ := f_xi1 h hi
  simp only [xi] at h
  rw [hl] at h
  exact ⟨n2, hn, h⟩
theorem f1_aload {a : Nat} {x : Nat} {r : List Value} (h : xF k ca P (n + 1) pc l r m) (hi : lkc pc (kcode k) = some (.aload a)) (hl : lkl (a : Nat) l = some (.ref x)) : xF k ca P n (pc + 2) l (.ref x :: r) m := by
  obtain ⟨n2, hn, h⟩ := f_xi1 h hi
  simp only [xi] at h
  rw [hl] at h
  exact ⟨n2, hn, h⟩
end FWD
theorem mI_self {m : xM} {a i : Nat} {v : Int32} (h : m.1 a i = v) : mI m a i v = m := by
  subst h
  refine Prod.ext (funext fun b => funext fun j => ?_) rfl
  show (if b = a then (if j = i then m.1 a i else m.1 b j) else m.1 b j) = m.1 b j
  by_cases h1 : b = a
  · by_cases h2 : j = i
    · rw [if_pos h1, if_pos h2, h1, h2]
    · rw [if_pos h1, if_neg h2]
  · rw [if_neg h1]
theorem mI_two {m : xM} {a i : Nat} {v w : Int32} : mI (mI m a i v) a i w = mI m a i w := by
  refine Prod.ext (funext fun b => funext fun j => ?_) rfl
  show (if b = a then (if j = i then w else (if b = a then (if j = i then v else m.1 b j) else m.1 b j)) else (if b = a then (if j = i then v else m.1 b j) else m.1 b j)) = (if b = a then (if j = i then w else m.1 b j) else m.1 b j)
  by_cases h1 : b = a
  · by_cases h2 : j = i
    · simp [h1, h2]
    · simp [h1, h2]
  · simp [h1]
theorem mI_at {m : xM} {a i : Nat} {v : Int32} : (mI m a i v).1 a i = v := by show (if a = a then (if i = i then v else _) else _) = v; rw [if_pos rfl, if_pos rfl]
theorem mI_ne {m : xM} {a i b j : Nat} {v : Int32} (h : ¬ (b = a ∧ j = i)) : (mI m a i v).1 b j = m.1 b j := by
  show (if b = a then (if j = i then v else m.1 b j) else m.1 b j) = m.1 b j
  by_cases h1 : b = a
  · rw [if_pos h1, if_neg (fun h2 => h ⟨h1, h2⟩)]
  · rw [if_neg h1]
/-- the class's tape: its head stands at h, of N bytes -/
def tpS (m : xM) (N h : Nat) : Prop := m.1 1 1 = nI N ∧ m.1 1 2 = nI h ∧ N ≤ 240 ∧ h ≤ N ∧ m.2.2 1 0 = some 2
def atv (N : Nat) (t : Nat → Int32) (h : Nat) : Int32 := if h < N then t h else -1
def skp (N : Nat) (t : Nat → Int32) : Nat → Nat → Nat
  | 0, h => h
  | f + 1, h => if h < N ∧ t h = 32 then skp N t f (h + 1) else h
def sk (N : Nat) (t : Nat → Int32) (h : Nat) : Nat := skp N t (N - h) h
theorem sk_le {N : Nat} {t : Nat → Int32} {h : Nat} (hh : h ≤ N) : sk N t h ≤ N := by
  have key : ∀ f h, h + f ≤ N → skp N t f h ≤ N := by
    intro f
    induction f with
    | zero => exact fun h hh => hh
    | succ f ih =>
      intro h hh
      unfold skp
      split
      · exact ih (h + 1) (by omega)
      · omega
  exact key (N - h) h (by omega)
theorem sk_go {N : Nat} {t : Nat → Int32} {h : Nat} (h1 : h < N) (h2 : t h = 32) : sk N t h = sk N t (h + 1) := by
  unfold sk
  rw [show N - h = (N - (h + 1)) + 1 by omega]
  show (if h < N ∧ t h = 32 then _ else _) = _
  rw [if_pos ⟨h1, h2⟩]
theorem sk_no {N : Nat} {t : Nat → Int32} {h : Nat} (h2 : ¬ (h < N ∧ t h = 32)) : sk N t h = h := by
  unfold sk
  cases e : N - h with
  | zero => rfl
  | succ f =>
    show (if h < N ∧ t h = 32 then _ else _) = _
    rw [if_neg h2]
theorem k71_0 : lkc 0 (kcode 71) = some (.aload_n 0) := by decide +kernel
theorem k71_1 : lkc 1 (kcode 71) = some (.getfield 19) := by decide +kernel
theorem k71_4 : lkc 4 (kcode 71) = some (.aload_n 0) := by decide +kernel
theorem k71_5 : lkc 5 (kcode 71) = some (.getfield 15) := by decide +kernel
theorem k71_8 : lkc 8 (kcode 71) = some (.if_icmp .ge 25) := by decide +kernel
theorem k71_11 : lkc 11 (kcode 71) = some (.aload_n 0) := by decide +kernel
theorem k71_12 : lkc 12 (kcode 71) = some (.getfield 19) := by decide +kernel
theorem k71_15 : lkc 15 (kcode 71) = some (.sipush 240) := by decide +kernel
theorem k71_18 : lkc 18 (kcode 71) = some (.if_icmp .ge 15) := by decide +kernel
theorem k71_21 : lkc 21 (kcode 71) = some (.aload_n 0) := by decide +kernel
theorem k71_22 : lkc 22 (kcode 71) = some (.getfield 9) := by decide +kernel
theorem k71_25 : lkc 25 (kcode 71) = some (.aload_n 0) := by decide +kernel
theorem k71_26 : lkc 26 (kcode 71) = some (.getfield 19) := by decide +kernel
theorem k71_29 : lkc 29 (kcode 71) = some (.iaload) := by decide +kernel
theorem k71_30 : lkc 30 (kcode 71) = some (.goto 4) := by decide +kernel
theorem k71_33 : lkc 33 (kcode 71) = some (.iconst (-1)) := by decide +kernel
theorem k71_34 : lkc 34 (kcode 71) = some (.ireturn) := by decide +kernel
theorem kf8_19 : kFd 8 19 = some (8, 2) := by decide +kernel
theorem kf8_15 : kFd 8 15 = some (8, 1) := by decide +kernel
theorem kf8_9 : kFd 8 9 = some (8, 0) := by decide +kernel
theorem kf8_22 : kFd 8 22 = some (8, 3) := by decide +kernel
theorem kf_19 : kFd (kcl 71) 19 = some (8, 2) := by decide +kernel
theorem nI_lt2 {a b : Nat} (ha : a < 2 ^ 31) (hb : b < 2 ^ 31) : nI a ≤ nI b ↔ a ≤ b := by
  rw [Int32.le_iff_toInt_le, nI_toInt ha, nI_toInt hb]
  omega
theorem c_byteAtHead {m : xM} {N h : Nat} (hm : tpS m N h) : fC 71 [.ref 1] m (fun rv m' => rv = some (.int (atv N (m.1 2) h)) ∧ m' = m) := by
  obtain ⟨e1, e2, hN, hh, e3⟩ := hm
  refine fC_of (by decide) (fun d n P H => ?_)
  have H := f_aload_n H k71_0 (x := 1) rfl
  have H := f_getfield H k71_1 (ci := 8) (f := 2) (v := .int (nI h)) (by decide +kernel) (by rw [← e2]; rfl)
  have H := f_aload_n H k71_4 (x := 1) rfl
  have H := f_getfield H k71_5 (ci := 8) (f := 1) (v := .int (nI N)) (by decide +kernel) (by rw [← e1]; rfl)
  rcases f_icmp_ge H k71_8 (t := 33) (by decide) with ⟨c, H⟩ | ⟨c, H⟩
  · have H := f_iconst H k71_33 (v := -1) (by decide)
    have H := f_iret H k71_34
    rw [nI_lt2 (by omega) (by omega)] at c
    exact ⟨_, _, H, by unfold atv; rw [if_neg (by omega)], rfl⟩
  · rw [nI_lt2 (by omega) (by omega)] at c
    have H := f_aload_n H k71_11 (x := 1) rfl
    have H := f_getfield H k71_12 (ci := 8) (f := 2) (v := .int (nI h)) (by decide +kernel) (by rw [← e2]; rfl)
    have H := f_sipush H k71_15 (v := nI 240) (by decide)
    rcases f_icmp_ge H k71_18 (t := 33) (by decide) with ⟨c2, H⟩ | ⟨c2, H⟩
    · rw [nI_lt2 (by omega) (by omega)] at c2
      omega
    have H := f_aload_n H k71_21 (x := 1) rfl
    have H := f_getfield H k71_22 (ci := 8) (f := 0) (v := .ref 2) (by decide +kernel) (show rvl (m.2.2 1 0) = _ by rw [e3]; rfl)
    have H := f_aload_n H k71_25 (x := 1) rfl
    have H := f_getfield H k71_26 (ci := 8) (f := 2) (v := .int (nI h)) (by decide +kernel) (by rw [← e2]; rfl)
    obtain ⟨-, H⟩ := f_iald H k71_29 (c := 240) (by decide)
    have H := f_goto H k71_30 (t := 34) (by decide)
    have H := f_iret H k71_34
    rw [nI_clamp (by omega)] at H
    exact ⟨_, _, H, by unfold atv; rw [if_pos (by omega)], rfl⟩
theorem k72_0 : lkc 0 (kcode 72) = some (.aload_n 0) := by decide +kernel
theorem k72_1 : lkc 1 (kcode 72) = some (.getfield 19) := by decide +kernel
theorem k72_4 : lkc 4 (kcode 72) = some (.aload_n 0) := by decide +kernel
theorem k72_5 : lkc 5 (kcode 72) = some (.getfield 15) := by decide +kernel
theorem k72_8 : lkc 8 (kcode 72) = some (.if_icmp .ge 25) := by decide +kernel
theorem k72_11 : lkc 11 (kcode 72) = some (.aload_n 0) := by decide +kernel
theorem k72_12 : lkc 12 (kcode 72) = some (.invokevirtual 25) := by decide +kernel
theorem k72_15 : lkc 15 (kcode 72) = some (.bipush 32) := by decide +kernel
theorem k72_17 : lkc 17 (kcode 72) = some (.if_icmp .ne 16) := by decide +kernel
theorem k72_20 : lkc 20 (kcode 72) = some (.aload_n 0) := by decide +kernel
theorem k72_21 : lkc 21 (kcode 72) = some (.dup) := by decide +kernel
theorem k72_22 : lkc 22 (kcode 72) = some (.getfield 19) := by decide +kernel
theorem k72_25 : lkc 25 (kcode 72) = some (.iconst 1) := by decide +kernel
theorem k72_26 : lkc 26 (kcode 72) = some (.iadd) := by decide +kernel
theorem k72_27 : lkc 27 (kcode 72) = some (.putfield 19) := by decide +kernel
theorem k72_30 : lkc 30 (kcode 72) = some (.goto (-30)) := by decide +kernel
theorem k72_33 : lkc 33 (kcode 72) = some (.aload_n 0) := by decide +kernel
theorem k72_34 : lkc 34 (kcode 72) = some (.invokevirtual 25) := by decide +kernel
theorem k72_37 : lkc 37 (kcode 72) = some (.ireturn) := by decide +kernel
theorem k73_0 : lkc 0 (kcode 73) = some (.aload_n 0) := by decide +kernel
theorem k73_1 : lkc 1 (kcode 73) = some (.dup) := by decide +kernel
theorem k73_2 : lkc 2 (kcode 73) = some (.getfield 19) := by decide +kernel
theorem k73_5 : lkc 5 (kcode 73) = some (.iconst 1) := by decide +kernel
theorem k73_6 : lkc 6 (kcode 73) = some (.iadd) := by decide +kernel
theorem k73_7 : lkc 7 (kcode 73) = some (.putfield 19) := by decide +kernel
theorem k73_10 : lkc 10 (kcode 73) = some (.return_) := by decide +kernel
theorem k74_0 : lkc 0 (kcode 74) = some (.aload_n 0) := by decide +kernel
theorem k74_1 : lkc 1 (kcode 74) = some (.aload_n 0) := by decide +kernel
theorem k74_2 : lkc 2 (kcode 74) = some (.getfield 19) := by decide +kernel
theorem k74_5 : lkc 5 (kcode 74) = some (.putfield 22) := by decide +kernel
theorem k74_8 : lkc 8 (kcode 74) = some (.iconst 0) := by decide +kernel
theorem k74_9 : lkc 9 (kcode 74) = some (.ireturn) := by decide +kernel
theorem k75_0 : lkc 0 (kcode 75) = some (.aload_n 0) := by decide +kernel
theorem k75_1 : lkc 1 (kcode 75) = some (.invokevirtual 29) := by decide +kernel
theorem k75_4 : lkc 4 (kcode 75) = some (.iload_n 1) := by decide +kernel
theorem k75_5 : lkc 5 (kcode 75) = some (.if_icmp .eq 8) := by decide +kernel
theorem k75_8 : lkc 8 (kcode 75) = some (.aload_n 0) := by decide +kernel
theorem k75_9 : lkc 9 (kcode 75) = some (.invokevirtual 32) := by decide +kernel
theorem k75_12 : lkc 12 (kcode 75) = some (.ireturn) := by decide +kernel
theorem k75_13 : lkc 13 (kcode 75) = some (.aload_n 0) := by decide +kernel
theorem k75_14 : lkc 14 (kcode 75) = some (.invokevirtual 36) := by decide +kernel
theorem k75_17 : lkc 17 (kcode 75) = some (.iconst 1) := by decide +kernel
theorem k75_18 : lkc 18 (kcode 75) = some (.ireturn) := by decide +kernel
theorem k69_0 : lkc 0 (kcode 69) = some (.aload_n 0) := by decide +kernel
theorem k69_1 : lkc 1 (kcode 69) = some (.iconst 0) := by decide +kernel
theorem k69_2 : lkc 2 (kcode 69) = some (.putfield 19) := by decide +kernel
theorem k69_5 : lkc 5 (kcode 69) = some (.aload_n 0) := by decide +kernel
theorem k69_6 : lkc 6 (kcode 69) = some (.iconst (-1)) := by decide +kernel
theorem k69_7 : lkc 7 (kcode 69) = some (.putfield 22) := by decide +kernel
theorem k69_10 : lkc 10 (kcode 69) = some (.return_) := by decide +kernel
theorem k70_0 : lkc 0 (kcode 70) = some (.iload_n 0) := by decide +kernel
theorem k70_1 : lkc 1 (kcode 70) = some (.bipush 48) := by decide +kernel
theorem k70_3 : lkc 3 (kcode 70) = some (.if_icmp .lt 13) := by decide +kernel
theorem k70_6 : lkc 6 (kcode 70) = some (.iload_n 0) := by decide +kernel
theorem k70_7 : lkc 7 (kcode 70) = some (.bipush 57) := by decide +kernel
theorem k70_9 : lkc 9 (kcode 70) = some (.if_icmp .gt 7) := by decide +kernel
theorem k70_12 : lkc 12 (kcode 70) = some (.iconst 1) := by decide +kernel
theorem k70_13 : lkc 13 (kcode 70) = some (.goto 4) := by decide +kernel
theorem k70_16 : lkc 16 (kcode 70) = some (.iconst 0) := by decide +kernel
theorem k70_17 : lkc 17 (kcode 70) = some (.ireturn) := by decide +kernel
theorem k76_0 : lkc 0 (kcode 76) = some (.aload_n 0) := by decide +kernel
theorem k76_1 : lkc 1 (kcode 76) = some (.invokevirtual 29) := by decide +kernel
theorem k76_4 : lkc 4 (kcode 76) = some (.pop) := by decide +kernel
theorem k76_5 : lkc 5 (kcode 76) = some (.iconst 0) := by decide +kernel
theorem k76_6 : lkc 6 (kcode 76) = some (.istore 4) := by decide +kernel
theorem k76_8 : lkc 8 (kcode 76) = some (.iconst 0) := by decide +kernel
theorem k76_9 : lkc 9 (kcode 76) = some (.istore 5) := by decide +kernel
theorem k76_11 : lkc 11 (kcode 76) = some (.iload 5) := by decide +kernel
theorem k76_13 : lkc 13 (kcode 76) = some (.iload_n 1) := by decide +kernel
theorem k76_14 : lkc 14 (kcode 76) = some (.if_icmp .ge 44) := by decide +kernel
theorem k76_17 : lkc 17 (kcode 76) = some (.aload_n 0) := by decide +kernel
theorem k76_18 : lkc 18 (kcode 76) = some (.invokevirtual 25) := by decide +kernel
theorem k76_21 : lkc 21 (kcode 76) = some (.invokestatic 39) := by decide +kernel
theorem k76_24 : lkc 24 (kcode 76) = some (.ifCond .eq 34) := by decide +kernel
theorem k76_27 : lkc 27 (kcode 76) = some (.iload 4) := by decide +kernel
theorem k76_29 : lkc 29 (kcode 76) = some (.bipush 10) := by decide +kernel
theorem k76_31 : lkc 31 (kcode 76) = some (.imul) := by decide +kernel
theorem k76_32 : lkc 32 (kcode 76) = some (.aload_n 0) := by decide +kernel
theorem k76_33 : lkc 33 (kcode 76) = some (.invokevirtual 25) := by decide +kernel
theorem k76_36 : lkc 36 (kcode 76) = some (.iadd) := by decide +kernel
theorem k76_37 : lkc 37 (kcode 76) = some (.bipush 48) := by decide +kernel
theorem k76_39 : lkc 39 (kcode 76) = some (.isub) := by decide +kernel
theorem k76_40 : lkc 40 (kcode 76) = some (.istore 4) := by decide +kernel
theorem k76_42 : lkc 42 (kcode 76) = some (.iinc 5 1) := by decide +kernel
theorem k76_45 : lkc 45 (kcode 76) = some (.aload_n 0) := by decide +kernel
theorem k76_46 : lkc 46 (kcode 76) = some (.dup) := by decide +kernel
theorem k76_47 : lkc 47 (kcode 76) = some (.getfield 19) := by decide +kernel
theorem k76_50 : lkc 50 (kcode 76) = some (.iconst 1) := by decide +kernel
theorem k76_51 : lkc 51 (kcode 76) = some (.iadd) := by decide +kernel
theorem k76_52 : lkc 52 (kcode 76) = some (.putfield 19) := by decide +kernel
theorem k76_55 : lkc 55 (kcode 76) = some (.goto (-44)) := by decide +kernel
theorem k76_58 : lkc 58 (kcode 76) = some (.iload 5) := by decide +kernel
theorem k76_60 : lkc 60 (kcode 76) = some (.ifCond .eq 13) := by decide +kernel
theorem k76_63 : lkc 63 (kcode 76) = some (.aload_n 0) := by decide +kernel
theorem k76_64 : lkc 64 (kcode 76) = some (.invokevirtual 25) := by decide +kernel
theorem k76_67 : lkc 67 (kcode 76) = some (.invokestatic 39) := by decide +kernel
theorem k76_70 : lkc 70 (kcode 76) = some (.ifCond .eq 13) := by decide +kernel
theorem k76_73 : lkc 73 (kcode 76) = some (.aload_n 0) := by decide +kernel
theorem k76_74 : lkc 74 (kcode 76) = some (.aload_n 0) := by decide +kernel
theorem k76_75 : lkc 75 (kcode 76) = some (.getfield 19) := by decide +kernel
theorem k76_78 : lkc 78 (kcode 76) = some (.putfield 22) := by decide +kernel
theorem k76_81 : lkc 81 (kcode 76) = some (.iconst (-1)) := by decide +kernel
theorem k76_82 : lkc 82 (kcode 76) = some (.ireturn) := by decide +kernel
theorem k76_83 : lkc 83 (kcode 76) = some (.iload 4) := by decide +kernel
theorem k76_85 : lkc 85 (kcode 76) = some (.iload_n 2) := by decide +kernel
theorem k76_86 : lkc 86 (kcode 76) = some (.if_icmp .lt 9) := by decide +kernel
theorem k76_89 : lkc 89 (kcode 76) = some (.iload 4) := by decide +kernel
theorem k76_91 : lkc 91 (kcode 76) = some (.iload_n 3) := by decide +kernel
theorem k76_92 : lkc 92 (kcode 76) = some (.if_icmp .le 15) := by decide +kernel
theorem k76_95 : lkc 95 (kcode 76) = some (.aload_n 0) := by decide +kernel
theorem k76_96 : lkc 96 (kcode 76) = some (.aload_n 0) := by decide +kernel
theorem k76_97 : lkc 97 (kcode 76) = some (.getfield 19) := by decide +kernel
theorem k76_100 : lkc 100 (kcode 76) = some (.iconst 1) := by decide +kernel
theorem k76_101 : lkc 101 (kcode 76) = some (.isub) := by decide +kernel
theorem k76_102 : lkc 102 (kcode 76) = some (.putfield 22) := by decide +kernel
theorem k76_105 : lkc 105 (kcode 76) = some (.iconst (-1)) := by decide +kernel
theorem k76_106 : lkc 106 (kcode 76) = some (.ireturn) := by decide +kernel
theorem k76_107 : lkc 107 (kcode 76) = some (.iload 4) := by decide +kernel
theorem k76_109 : lkc 109 (kcode 76) = some (.ireturn) := by decide +kernel
theorem tpS_h {m : xM} {N h h2 : Nat} (hm : tpS m N h) (hh : h2 ≤ N) : tpS (mI m 1 2 (nI h2)) N h2 := by
  obtain ⟨e1, e2, hN, -, e3⟩ := hm
  exact ⟨by rw [mI_ne (by omega)]; exact e1, mI_at, hN, hh, e3⟩
theorem tpS_w {m : xM} {N h : Nat} {v : Int32} (hm : tpS m N h) : tpS (mI m 1 3 v) N h := by
  obtain ⟨e1, e2, hN, hh, e3⟩ := hm
  exact ⟨by rw [mI_ne (by omega)]; exact e1, by rw [mI_ne (by omega)]; exact e2, hN, hh, e3⟩
theorem mI_row {m : xM} {i : Nat} {v : Int32} : (mI m 1 i v).1 2 = m.1 2 := funext fun j => mI_ne (by omega)
theorem c_step {m : xM} {N h : Nat} (hm : tpS m N h) : fC 73 [.ref 1] m (fun rv m' => rv = none ∧ m' = mI m 1 2 (nI (h + 1))) := by
  obtain ⟨e1, e2, hN, hh, e3⟩ := hm
  refine fC_of (by decide) (fun d n P H => ?_)
  have H := f_aload_n H k73_0 (x := 1) rfl
  have H := f_dup H k73_1
  have H := f_getfield H k73_2 (ci := 8) (f := 2) (v := .int (nI h)) (by decide +kernel) (by rw [← e2]; rfl)
  have H := f_iconst H k73_5 (v := nI 1) (by decide)
  have H := f_iadd H k73_6
  have H := f_put_i H k73_7 (ci := 8) (f := 2) (by decide +kernel) (by decide)
  have H := f_ret H k73_10
  rw [r_ad] at H
  exact ⟨_, _, H, rfl, rfl⟩
theorem c_refuseHere {m : xM} {N h : Nat} (hm : tpS m N h) : fC 74 [.ref 1] m (fun rv m' => rv = some (.int 0) ∧ m' = mI m 1 3 (nI h)) := by
  obtain ⟨e1, e2, hN, hh, e3⟩ := hm
  refine fC_of (by decide) (fun d n P H => ?_)
  have H := f_aload_n H k74_0 (x := 1) rfl
  have H := f_aload_n H k74_1 (x := 1) rfl
  have H := f_getfield H k74_2 (ci := 8) (f := 2) (v := .int (nI h)) (by decide +kernel) (by rw [← e2]; rfl)
  have H := f_put_i H k74_5 (ci := 8) (f := 3) (by decide +kernel) (by decide)
  have H := f_iconst H k74_8 (v := 0) (by decide)
  have H := f_iret H k74_9
  exact ⟨_, _, H, rfl, rfl⟩
theorem c_ahead {m : xM} {N h : Nat} (hm : tpS m N h) : fC 72 [.ref 1] m (fun rv m' => rv = some (.int (atv N (m.1 2) (sk N (m.1 2) h))) ∧ m' = mI m 1 2 (nI (sk N (m.1 2) h))) := by
  refine fC_of (by decide) (fun d n P H => ?_)
  have key : ∀ n h, h ≤ N → xF 72 (xw d) P (n + 1) 0 [(0, .ref 1)] [] (mI m 1 2 (nI h)) → ∃ rv m', P rv m' ∧ rv = some (.int (atv N (m.1 2) (sk N (m.1 2) h))) ∧ m' = mI m 1 2 (nI (sk N (m.1 2) h)) := by
    intro n
    induction n with
    | zero => exact fun h hh H => (xF_0 (f1_aload_n H k72_0 (x := 1) rfl)).elim
    | succ n ih =>
      intro h hh H
      have hm' := tpS_h hm hh
      obtain ⟨e1, e2, hN, -, e3⟩ := id hm'
      have H := f1_aload_n H k72_0 (x := 1) rfl
      have H := f_getfield H k72_1 (ci := 8) (f := 2) (v := .int (nI h)) (by decide +kernel) (by rw [← e2]; rfl)
      have H := f_aload_n H k72_4 (x := 1) rfl
      have H := f_getfield H k72_5 (ci := 8) (f := 1) (v := .int (nI N)) (by decide +kernel) (by rw [← e1]; rfl)
      have fin : ¬ (h < N ∧ m.1 2 h = 32) → xF 72 (xw d) P (n + 1) 33 [(0, .ref 1)] [] (mI m 1 2 (nI h)) → ∃ rv m', P rv m' ∧ rv = some (.int (atv N (m.1 2) (sk N (m.1 2) h))) ∧ m' = mI m 1 2 (nI (sk N (m.1 2) h)) := by
        intro hc H
        have H := f_aload_n H k72_33 (x := 1) rfl
        obtain ⟨rv, m', ⟨rfl, rfl⟩, H⟩ := f_inv H k72_34 (by decide +kernel) (as := []) (b := 1) (r := []) (by rfl) (c_byteAtHead hm')
        have H := f_iret H k72_37
        rw [mI_row] at H
        exact ⟨_, _, H, by rw [sk_no hc], by rw [sk_no hc]⟩
      rcases f_icmp_ge H k72_8 (t := 33) (by decide) with ⟨c, H⟩ | ⟨c, H⟩
      · rw [nI_lt2 (by omega) (by omega)] at c
        exact fin (fun z => by omega) H
      · rw [nI_lt2 (by omega) (by omega)] at c
        have H := f_aload_n H k72_11 (x := 1) rfl
        obtain ⟨rv, m', ⟨rfl, rfl⟩, H⟩ := f_inv H k72_12 (by decide +kernel) (as := []) (b := 1) (r := []) (by rfl) (c_byteAtHead hm')
        have H := f_bipush H k72_15 (v := 32) (by decide)
        rcases f_icmp_ne H k72_17 (t := 33) (by decide) with ⟨c2, H⟩ | ⟨c2, H⟩
        · rw [mI_row, atv, if_pos (by omega)] at c2
          exact fin (fun z => c2 z.2) H
        · rw [mI_row, atv, if_pos (by omega)] at c2
          have H := f_aload_n H k72_20 (x := 1) rfl
          have H := f_dup H k72_21
          have H := f_getfield H k72_22 (ci := 8) (f := 2) (v := .int (nI h)) (by decide +kernel) (by rw [← e2]; rfl)
          have H := f_iconst H k72_25 (v := nI 1) (by decide)
          have H := f_iadd H k72_26
          have H := f_put_i H k72_27 (ci := 8) (f := 2) (by decide +kernel) (by decide)
          have H := f_goto H k72_30 (t := 0) (by decide)
          rw [r_ad, mI_two] at H
          rw [sk_go (by omega) c2]
          exact ih (h + 1) (by omega) H
  have e : m = mI m 1 2 (nI h) := (mI_self hm.2.1).symm
  rw [e] at H
  exact key n h hm.2.2.2.1 (f_up H (Nat.le_succ _))
theorem c_take {m : xM} {N h : Nat} {s : Int32} (hm : tpS m N h) (hs : s ≠ -1) : fC 75 [.ref 1, .int s] m (fun rv m' => (atv N (m.1 2) (sk N (m.1 2) h) = s ∧ rv = some (.int 1) ∧ m' = mI m 1 2 (nI (sk N (m.1 2) h + 1)) ∧ sk N (m.1 2) h < N) ∨ (atv N (m.1 2) (sk N (m.1 2) h) ≠ s ∧ rv = some (.int 0) ∧ m' = mI (mI m 1 2 (nI (sk N (m.1 2) h))) 1 3 (nI (sk N (m.1 2) h)))) := by
  refine fC_of (by decide) (fun d n P H => ?_)
  have hm' := tpS_h hm (sk_le (t := m.1 2) hm.2.2.2.1)
  have H := f_aload_n H k75_0 (x := 1) rfl
  obtain ⟨rv, m', ⟨rfl, rfl⟩, H⟩ := f_inv H k75_1 (by decide +kernel) (as := []) (b := 1) (r := []) (by rfl) (c_ahead hm)
  have H := f_iload_n H k75_4 (x := s) rfl
  rcases f_icmp_eq H k75_5 (t := 13) (by decide) with ⟨c, H⟩ | ⟨c, H⟩
  · have H := f_aload_n H k75_13 (x := 1) rfl
    obtain ⟨rv, m', ⟨rfl, rfl⟩, H⟩ := f_inv H k75_14 (by decide +kernel) (as := []) (b := 1) (r := []) (by rfl) (c_step hm')
    have H := f_iconst H k75_17 (v := 1) (by decide)
    have H := f_iret H k75_18
    rw [mI_two] at H
    refine ⟨_, _, H, Or.inl ⟨c, rfl, rfl, ?_⟩⟩
    by_cases h2 : sk N (m.1 2) h < N
    · exact h2
    · rw [atv, if_neg h2] at c
      exact absurd c.symm hs
  · have H := f_aload_n H k75_8 (x := 1) rfl
    obtain ⟨rv, m', ⟨rfl, rfl⟩, H⟩ := f_inv H k75_9 (by decide +kernel) (as := []) (b := 1) (r := []) (by rfl) (c_refuseHere hm')
    have H := f_iret H k75_12
    exact ⟨_, _, H, Or.inr ⟨c, rfl, rfl⟩⟩
theorem c_rewind0 {m : xM} : fC 69 [.ref 1] m (fun rv m' => rv = none ∧ m' = mI (mI m 1 2 (nI 0)) 1 3 (-1)) := by
  refine fC_of (by decide) (fun d n P H => ?_)
  have H := f_aload_n H k69_0 (x := 1) rfl
  have H := f_iconst H k69_1 (v := nI 0) (by decide)
  have H := f_put_i H k69_2 (ci := 8) (f := 2) (by decide +kernel) (by decide)
  have H := f_aload_n H k69_5 (x := 1) rfl
  have H := f_iconst H k69_6 (v := -1) (by decide)
  have H := f_put_i H k69_7 (ci := 8) (f := 3) (by decide +kernel) (by decide)
  have H := f_ret H k69_10
  exact ⟨_, _, H, rfl, rfl⟩
theorem c_rewind {m : xM} {N h : Nat} (hm : tpS m N h) : fC 69 [.ref 1] m (fun rv m' => rv = none ∧ m' = mI (mI m 1 2 (nI 0)) 1 3 (-1)) := c_rewind0
theorem tpS_r {m : xM} {N : Nat} (e1 : m.1 1 1 = nI N) (hN : N ≤ 240) (e3 : m.2.2 1 0 = some 2) : tpS (mI m 1 2 (nI 0)) N 0 := ⟨by rw [mI_ne (by omega)]; exact e1, mI_at, hN, Nat.zero_le _, e3⟩
abbrev isDg (s : Int32) : Prop := 48 ≤ s.toInt ∧ s.toInt ≤ 57
theorem c_isDigit {m : xM} {s : Int32} : fC 70 [.int s] m (fun rv m' => ((isDg s ∧ rv = some (.int 1)) ∨ (¬ isDg s ∧ rv = some (.int 0))) ∧ m' = m) := by
  refine fC_of (by decide) (fun d n P H => ?_)
  have H := f_iload_n H k70_0 (x := s) rfl
  have H := f_bipush H k70_1 (v := 48) (by decide)
  rcases f_icmp_lt H k70_3 (t := 16) (by decide) with ⟨c, H⟩ | ⟨c, H⟩
  · have H := f_iconst H k70_16 (v := 0) (by decide)
    have H := f_iret H k70_17
    rw [Int32.lt_iff_toInt_lt] at c
    exact ⟨_, _, H, Or.inr ⟨fun z => by have := z.1; rw [show (48 : Int32).toInt = 48 by decide] at c; omega, rfl⟩, rfl⟩
  · rw [Int32.lt_iff_toInt_lt, show (48 : Int32).toInt = 48 by decide] at c
    have H := f_iload_n H k70_6 (x := s) rfl
    have H := f_bipush H k70_7 (v := 57) (by decide)
    rcases f_icmp_gt H k70_9 (t := 16) (by decide) with ⟨c2, H⟩ | ⟨c2, H⟩
    · rw [Int32.lt_iff_toInt_lt, show (57 : Int32).toInt = 57 by decide] at c2
      have H := f_iconst H k70_16 (v := 0) (by decide)
      have H := f_iret H k70_17
      exact ⟨_, _, H, Or.inr ⟨fun z => by have := z.2; omega, rfl⟩, rfl⟩
    · rw [Int32.lt_iff_toInt_lt, show (57 : Int32).toInt = 57 by decide] at c2
      have H := f_iconst H k70_12 (v := 1) (by decide)
      have H := f_goto H k70_13 (t := 17) (by decide)
      have H := f_iret H k70_17
      exact ⟨_, _, H, Or.inl ⟨⟨by omega, by omega⟩, rfl⟩, rfl⟩
/-- up to D digits from h on: where they end, what they say -/
def rdg (N : Nat) (t : Nat → Int32) : Nat → Nat → Int32 → Nat × Int32
  | 0, h, v => (h, v)
  | D + 1, h, v => if isDg (atv N t h) then rdg N t D (h + 1) (v * 10 + atv N t h - 48) else (h, v)
theorem dg_lt {N h : Nat} {t : Nat → Int32} (hd : isDg (atv N t h)) : h < N := by
  by_cases h1 : h < N
  · exact h1
  · unfold atv at hd
    rw [if_neg h1] at hd
    exact absurd hd (by decide)
def nuG (N : Nat) (least most : Int32) (m : xM) (rv : Option Value) (m' : xM) (p : Nat) (q : Nat × Int32) : Prop :=
  q.1 ≤ N ∧ p ≤ q.1 ∧ (((q.1 = p ∨ isDg (atv N (m.1 2) q.1)) ∧ rv = some (.int (-1)) ∧ m' = mI (mI m 1 2 (nI q.1)) 1 3 (nI q.1)) ∨ (¬ (q.1 = p ∨ isDg (atv N (m.1 2) q.1)) ∧ (q.2 < least ∨ most < q.2) ∧ rv = some (.int (-1)) ∧ m' = mI (mI m 1 2 (nI q.1)) 1 3 (nI (q.1 - 1))) ∨ (¬ (q.1 = p ∨ isDg (atv N (m.1 2) q.1)) ∧ ¬ (q.2 < least ∨ most < q.2) ∧ rv = some (.int q.2) ∧ m' = mI m 1 2 (nI q.1)))
def nuF (N : Nat) (D : Nat) (least most : Int32) (h : Nat) (m : xM) (rv : Option Value) (m' : xM) : Prop := nuG N least most m rv m' (sk N (m.1 2) h) (rdg N (m.1 2) D (sk N (m.1 2) h) 0)
set_option maxHeartbeats 4000000 in
theorem c_takeNumber {m : xM} {N h D : Nat} {least most : Int32} (hm : tpS m N h) (hD : D ≤ 4) : fC 76 [.ref 1, .int (nI D), .int least, .int most] m (nuF N D least most h m) := by
  refine fC_of (by decide) (fun d n P H => ?_)
  have hm0 := tpS_h hm (sk_le (t := m.1 2) hm.2.2.2.1)
  have hN := hm.2.2.1
  have H := f_aload_n H k76_0 (x := 1) rfl
  obtain ⟨rv, m', ⟨rfl, rfl⟩, H⟩ := f_inv H k76_1 (by decide +kernel) (as := []) (b := 1) (r := []) (by rfl) (c_ahead hm)
  have H := f_pop H k76_4
  have H := f_iconst H k76_5 (v := 0) (by decide)
  have H := f_istore H k76_6 (l2 := [(4, .int 0), (0, .ref 1), (1, .int (nI D)), (2, .int least), (3, .int most)]) rfl
  have H := f_iconst H k76_8 (v := nI 0) (by decide)
  have H := f_istore H k76_9 (l2 := [(5, .int (nI 0)), (4, .int 0), (0, .ref 1), (1, .int (nI D)), (2, .int least), (3, .int most)]) rfl
  generalize hp : sk N (m.1 2) h = p at *
  have key : ∀ n r h2 v, r ≤ D → p + r = h2 → h2 ≤ N → rdg N (m.1 2) D p 0 = rdg N (m.1 2) (D - r) h2 v → xF 76 (xw d) P (n + 1) 11 [(5, .int (nI r)), (4, .int v), (0, .ref 1), (1, .int (nI D)), (2, .int least), (3, .int most)] [] (mI m 1 2 (nI h2)) → ∃ rv m', P rv m' ∧ nuF N D least most h m rv m' := by
    intro n
    induction n with
    | zero => exact fun r h2 v _ _ _ _ H => (xF_0 (f1_iload H k76_11 (x := nI r) rfl)).elim
    | succ n ih =>
      intro r h2 v hr hpr hh hq H
      have hm' := tpS_h hm hh
      obtain ⟨e1, e2, -, -, e3⟩ := id hm'
      have H := f1_iload H k76_11 (x := nI r) rfl
      have H := f_iload_n H k76_13 (x := nI D) rfl
      -- the end of the reading
      have fin : rdg N (m.1 2) D p 0 = (h2, v) → xF 76 (xw d) P (n + 1) 58 [(5, .int (nI r)), (4, .int v), (0, .ref 1), (1, .int (nI D)), (2, .int least), (3, .int most)] [] (mI m 1 2 (nI h2)) → ∃ rv m', P rv m' ∧ nuF N D least most h m rv m' := by
        intro hq H
        have bad : (h2 = p ∨ isDg (atv N (m.1 2) h2)) → xF 76 (xw d) P (n + 1) 73 [(5, .int (nI r)), (4, .int v), (0, .ref 1), (1, .int (nI D)), (2, .int least), (3, .int most)] [] (mI m 1 2 (nI h2)) → ∃ rv m', P rv m' ∧ nuF N D least most h m rv m' := by
          intro hb H
          have H := f_aload_n H k76_73 (x := 1) rfl
          have H := f_aload_n H k76_74 (x := 1) rfl
          have H := f_getfield H k76_75 (ci := 8) (f := 2) (v := .int (nI h2)) (by decide +kernel) (by rw [← e2]; rfl)
          have H := f_put_i H k76_78 (ci := 8) (f := 3) (by decide +kernel) (by decide)
          have H := f_iconst H k76_81 (v := -1) (by decide)
          have H := f_iret H k76_82
          refine ⟨_, _, H, ?_⟩
          unfold nuF
          rw [hp, hq]
          exact ⟨hh, by omega, Or.inl ⟨hb, rfl, rfl⟩⟩
        have H := f_iload H k76_58 (x := nI r) rfl
        rcases f_if_eq H k76_60 (t := 73) (by decide) with ⟨c, H⟩ | ⟨c, H⟩
        · have c3 : r = 0 := by
            have := congrArg Int32.toInt c
            rw [nI_toInt (by omega)] at this
            simpa using this
          exact bad (Or.inl (by omega)) H
        · have c3 : r ≠ 0 := fun z => c (by rw [z]; decide)
          have H := f_aload_n H k76_63 (x := 1) rfl
          obtain ⟨rv, m', ⟨rfl, rfl⟩, H⟩ := f_inv H k76_64 (by decide +kernel) (as := []) (b := 1) (r := []) (by rfl) (c_byteAtHead hm')
          obtain ⟨rv, m', ⟨hz, rfl⟩, H⟩ := f_ins H k76_67 (by decide +kernel) (as := [.int _]) (r := []) (by rfl) c_isDigit
          rw [mI_row] at hz
          rcases hz with ⟨hz, rfl⟩ | ⟨hz, rfl⟩
          · rcases f_if_eq H k76_70 (t := 83) (by decide) with ⟨c4, H⟩ | ⟨c4, H⟩
            · exact absurd c4 (by decide)
            · exact bad (Or.inr hz) H
          · rcases f_if_eq H k76_70 (t := 83) (by decide) with ⟨c4, H⟩ | ⟨c4, H⟩
            · have hb : ¬ (h2 = p ∨ isDg (atv N (m.1 2) h2)) := fun z => z.elim (fun z => by omega) hz
              have out : (v < least ∨ most < v) → xF 76 (xw d) P (n + 1) 95 [(5, .int (nI r)), (4, .int v), (0, .ref 1), (1, .int (nI D)), (2, .int least), (3, .int most)] [] (mI m 1 2 (nI h2)) → ∃ rv m', P rv m' ∧ nuF N D least most h m rv m' := by
                intro ho H
                have H := f_aload_n H k76_95 (x := 1) rfl
                have H := f_aload_n H k76_96 (x := 1) rfl
                have H := f_getfield H k76_97 (ci := 8) (f := 2) (v := .int (nI h2)) (by decide +kernel) (by rw [← e2]; rfl)
                have H := f_iconst H k76_100 (v := 1) (by decide)
                have H := f_isub H k76_101
                have H := f_put_i H k76_102 (ci := 8) (f := 3) (by decide +kernel) (by decide)
                have H := f_iconst H k76_105 (v := -1) (by decide)
                have H := f_iret H k76_106
                refine ⟨_, _, H, ?_⟩
                unfold nuF
                rw [hp, hq]
                have e9 : nI h2 - 1 = nI (h2 - 1) := by
                  have h9 : h2 - 1 + 1 = h2 := by omega
                  rw [← h9, show nI (h2 - 1 + 1) = nI (h2 - 1) + nI 1 from (r_ad _ _).symm, Nat.add_sub_cancel]
                  show nI (h2 - 1) + 1 - 1 = _
                  exact Int32.add_sub_cancel _ _
                exact ⟨hh, by omega, Or.inr (Or.inl ⟨hb, ho, rfl, by rw [e9]⟩)⟩
              have H := f_iload H k76_83 (x := v) rfl
              have H := f_iload_n H k76_85 (x := least) rfl
              rcases f_icmp_lt H k76_86 (t := 95) (by decide) with ⟨c5, H⟩ | ⟨c5, H⟩
              · exact out (Or.inl c5) H
              · have H := f_iload H k76_89 (x := v) rfl
                have H := f_iload_n H k76_91 (x := most) rfl
                rcases f_icmp_le H k76_92 (t := 107) (by decide) with ⟨c6, H⟩ | ⟨c6, H⟩
                · have H := f_iload H k76_107 (x := v) rfl
                  have H := f_iret H k76_109
                  refine ⟨_, _, H, ?_⟩
                  unfold nuF
                  rw [hp, hq]
                  exact ⟨hh, by omega, Or.inr (Or.inr ⟨hb, fun z => z.elim c5 (fun z => Int32.not_lt.mpr c6 z), rfl, rfl⟩)⟩
                · exact out (Or.inr (Int32.not_le.mp c6)) H
            · exact absurd rfl c4
      rcases f_icmp_ge H k76_14 (t := 58) (by decide) with ⟨c, H⟩ | ⟨c, H⟩
      · rw [nI_lt2 (by omega) (by omega)] at c
        refine fin (by rw [hq, show D - r = 0 by omega]; rfl) H
      · rw [nI_lt2 (by omega) (by omega)] at c
        have hq' := hq
        rw [show D - r = (D - (r + 1)) + 1 by omega] at hq'
        have hq' : rdg N (m.1 2) D p 0 = (if isDg (atv N (m.1 2) h2) then rdg N (m.1 2) (D - (r + 1)) (h2 + 1) (v * 10 + atv N (m.1 2) h2 - 48) else (h2, v)) := hq'
        have H := f_aload_n H k76_17 (x := 1) rfl
        obtain ⟨rv, m', ⟨rfl, rfl⟩, H⟩ := f_inv H k76_18 (by decide +kernel) (as := []) (b := 1) (r := []) (by rfl) (c_byteAtHead hm')
        obtain ⟨rv, m', ⟨hz, rfl⟩, H⟩ := f_ins H k76_21 (by decide +kernel) (as := [.int _]) (r := []) (by rfl) c_isDigit
        rw [mI_row] at hz
        rcases hz with ⟨hz, rfl⟩ | ⟨hz, rfl⟩
        · rcases f_if_eq H k76_24 (t := 58) (by decide) with ⟨c4, H⟩ | ⟨c4, H⟩
          · exact absurd c4 (by decide)
          · have hlt := dg_lt hz
            rw [if_pos hz] at hq'
            have H := f_iload H k76_27 (x := v) rfl
            have H := f_bipush H k76_29 (v := 10) (by decide)
            have H := f_imul H k76_31
            have H := f_aload_n H k76_32 (x := 1) rfl
            obtain ⟨rv, m', ⟨rfl, rfl⟩, H⟩ := f_inv H k76_33 (by decide +kernel) (as := []) (b := 1) (r := [.int (v * 10)]) (by rfl) (c_byteAtHead hm')
            have H := f_iadd H k76_36
            have H := f_bipush H k76_37 (v := 48) (by decide)
            have H := f_isub H k76_39
            rw [mI_row] at H
            have H := f_istore H k76_40 (l2 := [(4, .int (v * 10 + atv N (m.1 2) h2 - 48)), (5, .int (nI r)), (0, .ref 1), (1, .int (nI D)), (2, .int least), (3, .int most)]) rfl
            have H := f_iinc H k76_42 (x := nI r) rfl (l2 := [(5, .int (nI r + nI 1)), (4, .int (v * 10 + atv N (m.1 2) h2 - 48)), (0, .ref 1), (1, .int (nI D)), (2, .int least), (3, .int most)]) rfl
            have H := f_aload_n H k76_45 (x := 1) rfl
            have H := f_dup H k76_46
            have H := f_getfield H k76_47 (ci := 8) (f := 2) (v := .int (nI h2)) (by decide +kernel) (by rw [← e2]; rfl)
            have H := f_iconst H k76_50 (v := nI 1) (by decide)
            have H := f_iadd H k76_51
            have H := f_put_i H k76_52 (ci := 8) (f := 2) (by decide +kernel) (by decide)
            have H := f_goto H k76_55 (t := 11) (by decide)
            rw [r_ad, r_ad, mI_two] at H
            exact ih (r + 1) (h2 + 1) _ (by omega) (by omega) (by omega) hq' H
        · rcases f_if_eq H k76_24 (t := 58) (by decide) with ⟨c4, H⟩ | ⟨c4, H⟩
          · rw [if_neg hz] at hq'
            exact fin hq' H
          · exact absurd rfl c4
  exact key n 0 p 0 (Nat.zero_le _) (by omega) hm0.2.2.2.1 (by rw [Nat.sub_zero]) (f_up H (Nat.le_succ _))
/-! the law's grammar as a machine of items: what is read next is a function of the item and the place, so its end is one -/
def It : Type := Nat × Nat × Int32
def It.atom (d : Nat) : It := (0, d, 0)
def It.term (d : Nat) : It := (1, d, 0)
def It.termL (d : Nat) : It := (2, d, 0)
def It.sum (d : Nat) : It := (3, d, 0)
def It.sumL (d : Nat) : It := (4, d, 0)
def It.rel (d : Nat) : It := (5, d, 0)
def It.unit (d : Nat) : It := (6, d, 0)
def It.truth (d : Nat) : It := (7, d, 0)
def It.truthB (d : Nat) : It := (8, d, 0)
def It.truthL (d : Nat) : It := (9, d, 0)
def It.cond (d : Nat) : It := (10, d, 0)
def It.condB (d : Nat) : It := (11, d, 0)
def It.condL (d : Nat) : It := (12, d, 0)
def It.tok (c : Int32) : It := (13, 0, c)
def It.clause : It := (14, 0, 0)
def It.clz : It := (15, 0, 0)
def It.clq : It := (16, 0, 0)
def It.law : It := (17, 0, 0)
def It.lawL : It := (18, 0, 0)
abbrev isLet (s : Int32) : Prop := s = 121 ∨ s = 119 ∨ s = 102 ∨ s = 108 ∨ s = 99 ∨ s = 100
abbrev isRel (s : Int32) : Prop := s = 61 ∨ s = 60 ∨ s = 62
/-- one item at the place h, where p is the next sign's place and s that sign: what is to be read then and from where, or where it fails -/
def stI (N : Nat) (t : Nat → Int32) (h p : Nat) (s : Int32) (i : It) : (List It × Nat) ⊕ Nat := match i with
  | (0, d, _) => if isDg s then (if isDg (atv N t (rdg N t 4 p 0).1) then .inr (rdg N t 4 p 0).1 else .inl ([], (rdg N t 4 p 0).1)) else if isLet s then .inl ([], p + 1) else if s = 91 ∧ d < 6 then .inl ([It.sum (d + 1), It.tok 93], p + 1) else .inr p
  | (1, d, _) => .inl ([It.atom d, It.termL d], h)
  | (2, d, _) => if s = 42 ∨ s = 47 then .inl ([It.atom d, It.termL d], p + 1) else .inl ([], p)
  | (3, d, _) => .inl ([It.term d, It.sumL d], h)
  | (4, d, _) => if s = 43 ∨ s = 45 then .inl ([It.term d, It.sumL d], p + 1) else .inl ([], p)
  | (5, d, _) => if isRel s then .inl ([It.sum d], p + 1) else .inr p
  | (6, d, _) => if s = 33 then (if d < 6 then .inl ([It.unit (d + 1)], p + 1) else .inr p) else if s = 40 then (if d < 6 then .inl ([It.cond (d + 1), It.tok 41], p + 1) else .inr p) else .inl ([It.sum d, It.rel d], p)
  | (7, d, _) => .inl ([It.unit d, It.truthL d], h)
  | (8, d, _) => .inl ([It.rel d, It.truthL d], h)
  | (9, d, _) => if s = 38 then .inl ([It.unit d, It.truthL d], p + 1) else .inl ([], p)
  | (10, d, _) => .inl ([It.truth d, It.condL d], h)
  | (11, d, _) => .inl ([It.truthB d, It.condL d], h)
  | (12, d, _) => if s = 124 then .inl ([It.truth d, It.condL d], p + 1) else .inl ([], p)
  | (13, _, c) => if s = c then .inl ([], p + 1) else .inr p
  | (14, _, _) => .inl ([It.tok 121, It.tok 58, It.clz], h)
  | (15, _, _) => if s = 33 ∨ s = 40 then .inl ([It.cond 0, It.tok 63, It.sum 0], p) else .inl ([It.sum 0, It.clq], p)
  | (16, _, _) => if isRel s then .inl ([It.condB 0, It.tok 63, It.sum 0], p) else .inl ([], p)
  | (17, _, _) => .inl ([It.clause, It.lawL], h)
  | (18, _, _) => if s = -1 then .inl ([], p) else if s = 59 then .inl ([It.clause, It.lawL], p + 1) else .inr p
  | _ => .inr h
def stP (N : Nat) (t : Nat → Int32) (i : It) (h : Nat) : (List It × Nat) ⊕ Nat := stI N t h (sk N t h) (atv N t (sk N t h)) i
def rnn (N : Nat) (t : Nat → Int32) : Nat → List It → Nat → Option (Nat ⊕ Nat)
  | 0, _, _ => none
  | _ + 1, [], h => some (.inl h)
  | f + 1, i :: rest, h => match stP N t i h with
    | .inl (is, h2) => rnn N t f (is ++ rest) h2
    | .inr w => some (.inr w)
def Rn (N : Nat) (t : Nat → Int32) (is : List It) (h : Nat) (r : Nat ⊕ Nat) : Prop := ∃ f, rnn N t f is h = some r
theorem Rn_nil {N : Nat} {t : Nat → Int32} (h : Nat) : Rn N t [] h (.inl h) := ⟨1, rfl⟩
theorem Rn_go {N : Nat} {t : Nat → Int32} {i : It} {is rest : List It} {h h2 : Nat} {r : Nat ⊕ Nat} (e : stP N t i h = .inl (is, h2)) (hk : Rn N t (is ++ rest) h2 r) : Rn N t (i :: rest) h r := by
  obtain ⟨f, hf⟩ := hk
  refine ⟨f + 1, ?_⟩
  unfold rnn
  rw [e]
  exact hf
theorem Rn_bad {N : Nat} {t : Nat → Int32} {i : It} {rest : List It} {h w : Nat} (e : stP N t i h = .inr w) : Rn N t (i :: rest) h (.inr w) := by
  refine ⟨1, ?_⟩
  unfold rnn
  rw [e]
theorem rnn_up {N : Nat} {t : Nat → Int32} {r : Nat ⊕ Nat} : ∀ f g is h, f ≤ g → rnn N t f is h = some r → rnn N t g is h = some r := by
  intro f
  induction f with
  | zero =>
    intro g is h _ e
    unfold rnn at e
    cases e
  | succ f ih =>
    intro g is h hg e
    obtain ⟨g, rfl⟩ : ∃ g', g = g' + 1 := ⟨g - 1, by omega⟩
    cases is with
    | nil => exact e
    | cons i rest =>
      unfold rnn at e ⊢
      split at e
      · exact ih g _ _ (by omega) e
      · exact e
theorem Rn_det {N : Nat} {t : Nat → Int32} {is : List It} {h : Nat} {r r2 : Nat ⊕ Nat} (h1 : Rn N t is h r) (h2 : Rn N t is h r2) : r = r2 := by
  obtain ⟨f, h1⟩ := h1
  obtain ⟨g, h2⟩ := h2
  have e1 := rnn_up f (f + g) is h (by omega) h1
  have e2 := rnn_up g (f + g) is h (by omega) h2
  rw [e1] at e2
  exact Option.some.inj e2
theorem Rn_inv {N : Nat} {t : Nat → Int32} {i : It} {rest : List It} {h : Nat} {r : Nat ⊕ Nat} (hr : Rn N t (i :: rest) h r) : (∃ is h2, stP N t i h = .inl (is, h2) ∧ Rn N t (is ++ rest) h2 r) ∨ ∃ w, stP N t i h = .inr w ∧ r = .inr w := by
  obtain ⟨f, e⟩ := hr
  cases f with
  | zero => cases e
  | succ f =>
    unfold rnn at e
    split at e
    · exact Or.inl ⟨_, _, ‹_›, f, e⟩
    · exact Or.inr ⟨_, ‹_›, (Option.some.inj e).symm⟩
/-- the items is, read from h, come to an end at h2 -/
def Rok (N : Nat) (t : Nat → Int32) (is : List It) (h h2 : Nat) : Prop := ∀ rest r, Rn N t rest h2 r → Rn N t (is ++ rest) h r
/-- they fail at w -/
def Rno (N : Nat) (t : Nat → Int32) (is : List It) (h w : Nat) : Prop := ∀ rest, Rn N t (is ++ rest) h (.inr w)
theorem Rok_nil {N : Nat} {t : Nat → Int32} {h : Nat} : Rok N t [] h h := fun _ _ h => h
theorem Rok_go {N : Nat} {t : Nat → Int32} {i : It} {is : List It} {h h2 h3 : Nat} (e : stP N t i h = .inl (is, h2)) (hk : Rok N t is h2 h3) : Rok N t [i] h h3 := fun rest r hr => Rn_go e (hk rest r hr)
theorem Rno_go {N : Nat} {t : Nat → Int32} {i : It} {is : List It} {h h2 w : Nat} (e : stP N t i h = .inl (is, h2)) (hk : Rno N t is h2 w) : Rno N t [i] h w := fun rest => Rn_go e (hk rest)
theorem Rno_bad {N : Nat} {t : Nat → Int32} {i : It} {h w : Nat} (e : stP N t i h = .inr w) : Rno N t [i] h w := fun _ => Rn_bad e
theorem Rok_app {N : Nat} {t : Nat → Int32} {is js : List It} {h h2 h3 : Nat} (h1 : Rok N t is h h2) (h4 : Rok N t js h2 h3) : Rok N t (is ++ js) h h3 := fun rest r hr => by
  rw [List.append_assoc]
  exact h1 _ _ (h4 _ _ hr)
theorem Rno_app1 {N : Nat} {t : Nat → Int32} {is js : List It} {h w : Nat} (h1 : Rno N t is h w) : Rno N t (is ++ js) h w := fun rest => by
  rw [List.append_assoc]
  exact h1 _
theorem Rno_app2 {N : Nat} {t : Nat → Int32} {is js : List It} {h h2 w : Nat} (h1 : Rok N t is h h2) (h4 : Rno N t js h2 w) : Rno N t (is ++ js) h w := fun rest => by
  rw [List.append_assoc]
  exact h1 _ _ (h4 _)
theorem sk_ge {N : Nat} {t : Nat → Int32} {h : Nat} : h ≤ sk N t h := by
  have key : ∀ f h, h ≤ skp N t f h := by
    intro f
    induction f with
    | zero => exact fun h => Nat.le_refl h
    | succ f ih =>
      intro h
      unfold skp
      split
      · exact Nat.le_trans (Nat.le_succ h) (ih (h + 1))
      · exact Nat.le_refl h
  exact key _ _
theorem sk_at {N : Nat} {t : Nat → Int32} {h : Nat} (hh : h ≤ N) : ¬ (sk N t h < N ∧ t (sk N t h) = 32) := by
  have key : ∀ f h, h + f = N → ¬ (skp N t f h < N ∧ t (skp N t f h) = 32) := by
    intro f
    induction f with
    | zero =>
      intro h hh
      show ¬ (h < N ∧ _)
      exact fun z => by omega
    | succ f ih =>
      intro h hh
      unfold skp
      split
      · exact ih (h + 1) (by omega)
      · assumption
  exact key (N - h) h (by omega)
theorem sk_sk {N : Nat} {t : Nat → Int32} {h : Nat} (hh : h ≤ N) : sk N t (sk N t h) = sk N t h := sk_no (sk_at hh)
theorem st_atom {N : Nat} {t : Nat → Int32} {h p d : Nat} {s : Int32} : stI N t h p s (.atom d) = if isDg s then (if isDg (atv N t (rdg N t 4 p 0).1) then .inr (rdg N t 4 p 0).1 else .inl ([], (rdg N t 4 p 0).1)) else if isLet s then .inl ([], p + 1) else if s = 91 ∧ d < 6 then .inl ([.sum (d + 1), .tok 93], p + 1) else .inr p := rfl
theorem st_tok {N : Nat} {t : Nat → Int32} {h p : Nat} {s c : Int32} : stI N t h p s (.tok c) = if s = c then .inl ([], p + 1) else .inr p := rfl
theorem st_termL {N : Nat} {t : Nat → Int32} {h p d : Nat} {s : Int32} : stI N t h p s (.termL d) = if s = 42 ∨ s = 47 then .inl ([.atom d, .termL d], p + 1) else .inl ([], p) := rfl
theorem st_sumL {N : Nat} {t : Nat → Int32} {h p d : Nat} {s : Int32} : stI N t h p s (.sumL d) = if s = 43 ∨ s = 45 then .inl ([.term d, .sumL d], p + 1) else .inl ([], p) := rfl
/-! a walk goes on alike with other locals that hold the same where it looks -/
def nd : List (Nat × Value) → Bool
  | [] => true
  | q :: t => t.all (fun r => !(Nat.beq r.1 q.1)) && nd t
def lE (l l' : List (Nat × Value)) : Prop := ∀ i v, lkl i l = some v → lkl i l' = some v
theorem lE_nil {l' : List (Nat × Value)} : lE [] l' := fun _ _ h => by cases h
theorem lE_cons {i : Nat} {v : Value} {t l' : List (Nat × Value)} (h : lkl i l' = some v) (ht : lE t l') : lE ((i, v) :: t) l' := fun j w e => by
  unfold lkl at e
  cases hb : Nat.beq i j with
  | true =>
    rw [hb] at e
    rw [← Nat.eq_of_beq_eq_true hb, h]
    exact e
  | false =>
    rw [hb] at e
    exact ht j w e
theorem nB {a b : Nat} : Nat.beq a b = decide (a = b) := by
  by_cases h : a = b
  · rw [h, Nat.beq_refl]; simp
  · rw [decide_eq_false h]
    cases hb : Nat.beq a b with
    | false => rfl
    | true => exact absurd (Nat.eq_of_beq_eq_true hb) h
theorem lk_in {i : Nat} {v : Value} : ∀ {l : List (Nat × Value)}, lkl i l = some v → (i, v) ∈ l
  | [], h => by cases h
  | (j, w) :: t, h => by
    unfold lkl at h
    cases hb : Nat.beq j i with
    | true =>
      rw [hb] at h
      rw [Nat.eq_of_beq_eq_true hb, Option.some.inj h]
      exact List.mem_cons_self
    | false =>
      rw [hb] at h
      exact List.mem_cons_of_mem _ (lk_in h)
theorem lk_of {i : Nat} {v : Value} : ∀ {l : List (Nat × Value)}, nd l = true → (i, v) ∈ l → lkl i l = some v
  | (j, w) :: t, hn, h => by
    unfold nd at hn
    rw [Bool.and_eq_true, List.all_eq_true] at hn
    unfold lkl
    rcases List.mem_cons.mp h with e | h
    · cases e
      rw [Nat.beq_refl]
      rfl
    · have := hn.1 _ h
      cases hb : Nat.beq j i with
      | true =>
        rw [← Nat.eq_of_beq_eq_true hb, Nat.beq_refl] at this
        cases this
      | false => exact lk_of hn.2 h
theorem nd_fil {p : Nat × Value → Bool} : ∀ {l : List (Nat × Value)}, nd l = true → nd (l.filter p) = true
  | [], _ => rfl
  | q :: t, hn => by
    unfold nd at hn
    rw [Bool.and_eq_true, List.all_eq_true] at hn
    rw [List.filter_cons]
    split
    · unfold nd
      rw [Bool.and_eq_true, List.all_eq_true]
      exact ⟨fun r hr => hn.1 r (List.mem_filter.mp hr).1, nd_fil hn.2⟩
    · exact nd_fil hn.2
theorem lE_fil {p : Nat × Value → Bool} {l l' : List (Nat × Value)} (hn : nd l = true) (hn' : nd l' = true) (h : lE l l') : lE (l.filter p) (l'.filter p) := fun i v e => by
  obtain ⟨h1, h2⟩ := List.mem_filter.mp (lk_in e)
  exact lk_of (nd_fil hn') (List.mem_filter.mpr ⟨lk_in (h i v (lk_of hn h1)), h2⟩)
theorem lE_cc {i : Nat} {v : Value} {l l' : List (Nat × Value)} (h : lE l l') : lE ((i, v) :: l) ((i, v) :: l') := fun j w e => by
  unfold lkl at e ⊢
  cases hb : Nat.beq i j with
  | true => rw [hb] at e; exact e
  | false => rw [hb] at e; exact h j w e
theorem sv1_E {i : Nat} {v : Value} {l l' : List (Nat × Value)} (hn : nd l = true) (hn' : nd l' = true) (h : lE l l') : lE (sv1 i v l) (sv1 i v l') := lE_cc (lE_fil hn hn' h)
theorem sv2_E {i : Nat} {v : Value} {l l' : List (Nat × Value)} (hn : nd l = true) (hn' : nd l' = true) (h : lE l l') : lE (sv2 i v l) (sv2 i v l') := lE_cc (lE_fil hn hn' h)
theorem nd_sv1 {i : Nat} {v : Value} {l : List (Nat × Value)} (hn : nd l = true) : nd (sv1 i v l) = true := by
  unfold sv1 nd
  rw [Bool.and_eq_true, List.all_eq_true]
  refine ⟨fun r hr => ?_, nd_fil hn⟩
  have := (List.mem_filter.mp hr).2
  rw [nB]
  simp at this ⊢
  exact this.1
theorem nd_sv2 {i : Nat} {v : Value} {l : List (Nat × Value)} (hn : nd l = true) : nd (sv2 i v l) = true := by
  unfold sv2 nd
  rw [Bool.and_eq_true, List.all_eq_true]
  refine ⟨fun r hr => ?_, nd_fil hn⟩
  have := (List.mem_filter.mp hr).2
  rw [nB]
  simp at this ⊢
  exact this.1
section EXT
variable {k : Nat} {ca : Nat → List Value → xM → (Option Value → xM → Prop) → Prop} {kk : Nat → List (Nat × Value) → List Value → xM → Prop} {Q : Option Value → xM → Prop}
theorem pI_i {st : List Value} {f g : Int32 → List Value → Prop} (hf : ∀ x r, f x r → g x r) (h : pI st f) : pI st g := by
  unfold pI at h ⊢
  split at h
  · exact hf _ _ h
  · exact h.elim
theorem pL_i {st : List Value} {f g : Int64 → List Value → Prop} (hf : ∀ x r, f x r → g x r) (h : pL st f) : pL st g := by
  unfold pL at h ⊢
  split at h
  · exact hf _ _ h
  · exact h.elim
theorem pR_i {st : List Value} {f g : Nat → List Value → Prop} (hf : ∀ x r, f x r → g x r) (h : pR st f) : pR st g := by
  unfold pR at h ⊢
  split at h
  · exact hf _ _ h
  · exact h.elim
def kE (kk : Nat → List (Nat × Value) → List Value → xM → Prop) (l l' : List (Nat × Value)) : Prop := (∀ pc st m, kk pc l st m → kk pc l' st m) ∧ (∀ pc st m i v, kk pc (sv1 i v l) st m → kk pc (sv1 i v l') st m) ∧ (∀ pc st m i v, kk pc (sv2 i v l) st m → kk pc (sv2 i v l') st m)
theorem pV_i {st : List Value} {f g : Value → List Value → Prop} (hf : ∀ x r, f x r → g x r) (h : pV st f) : pV st g := by
  unfold pV at h ⊢
  split at h
  · exact hf _ _ h
  · exact h.elim
theorem an_i {A B C : Prop} (hf : B → C) (h : A ∧ B) : A ∧ C := ⟨h.1, hf h.2⟩
theorem im_i {A B C : Prop} (hf : B → C) (h : A → B) : A → C := fun a => hf (h a)
theorem bo_i {A B C D : Prop} (h1 : A → B) (h2 : C → D) (h : A ∧ C) : B ∧ D := ⟨h1 h.1, h2 h.2⟩
theorem ca_i (hca : ∀ j as m, dK (fun Q => ca j as m Q)) {j : Nat} {as : List Value} {m : xM} {f g : Option Value → xM → Prop} (hf : ∀ rv m', f rv m' → g rv m') (h : ca j as m f) : ca j as m g := by
  obtain ⟨rv, m', h1, h2⟩ := hca j as m _ h
  exact h2 _ (hf _ _ h1)
set_option maxHeartbeats 8000000 in
theorem xi_ext (hca : ∀ j as m, dK (fun Q => ca j as m Q)) {l l' : List (Nat × Value)} (hk : kE kk l l') (hl : lE l l') (i : Instr) (pc : Nat) (st : List Value) (m : xM) (h : xi k ca kk Q i pc l st m) : xi k ca kk Q i pc l' st m := by
  cases i
  case iload_n n =>
    simp only [xi] at h ⊢
    generalize e : lkl n l = z at h
    rcases z with _ | v
    · exact h.elim
    · rw [hl _ _ e]
      cases v <;> first | exact h.elim | exact hk.1 _ _ _ h
  case iload n =>
    simp only [xi] at h ⊢
    generalize e : lkl n l = z at h
    rcases z with _ | v
    · exact h.elim
    · rw [hl _ _ e]
      cases v <;> first | exact h.elim | exact hk.1 _ _ _ h
  case aload_n n =>
    simp only [xi] at h ⊢
    generalize e : lkl n l = z at h
    rcases z with _ | v
    · exact h.elim
    · rw [hl _ _ e]
      cases v <;> first | exact h.elim | exact hk.1 _ _ _ h
  case aload n =>
    simp only [xi] at h ⊢
    generalize e : lkl n l = z at h
    rcases z with _ | v
    · exact h.elim
    · rw [hl _ _ e]
      cases v <;> first | exact h.elim | exact hk.1 _ _ _ h
  case lload_n n =>
    simp only [xi] at h ⊢
    generalize e : lkl n l = z at h
    rcases z with _ | v
    · exact h.elim
    · rw [hl _ _ e]
      cases v <;> first | exact h.elim | exact hk.1 _ _ _ h
  case lload n =>
    simp only [xi] at h ⊢
    generalize e : lkl n l = z at h
    rcases z with _ | v
    · exact h.elim
    · rw [hl _ _ e]
      cases v <;> first | exact h.elim | exact hk.1 _ _ _ h
  case istore_n n =>
    simp only [xi] at h ⊢
    exact ⟨h.1, pI_i (fun _ _ => hk.2.1 _ _ _ _ _) h.2⟩
  case istore n =>
    simp only [xi] at h ⊢
    exact ⟨h.1, pI_i (fun _ _ => hk.2.1 _ _ _ _ _) h.2⟩
  case astore_n n =>
    simp only [xi] at h ⊢
    exact ⟨h.1, pR_i (fun _ _ => hk.2.1 _ _ _ _ _) h.2⟩
  case astore n =>
    simp only [xi] at h ⊢
    exact ⟨h.1, pR_i (fun _ _ => hk.2.1 _ _ _ _ _) h.2⟩
  case lstore_n n =>
    simp only [xi] at h ⊢
    exact ⟨h.1, pL_i (fun _ _ => hk.2.2 _ _ _ _ _) h.2⟩
  case lstore n =>
    simp only [xi] at h ⊢
    exact ⟨h.1, pL_i (fun _ _ => hk.2.2 _ _ _ _ _) h.2⟩
  case iinc n d =>
    simp only [xi] at h ⊢
    refine ⟨h.1, ?_⟩
    replace h := h.2
    generalize e : lkl n l = z at h
    rcases z with _ | v
    · exact h.elim
    · rw [hl _ _ e]
      cases v <;> first | exact h.elim | exact hk.2.1 _ _ _ _ _ h
  case ifCond c o => cases c <;> simp only [xi] at h ⊢ <;> refine pI_i (fun _ _ => bo_i (im_i (hk.1 _ _ _)) (im_i (hk.1 _ _ _))) h
  case if_icmp c o => cases c <;> simp only [xi] at h ⊢ <;> refine pI_i (fun _ _ => pI_i (fun _ _ => bo_i (im_i (hk.1 _ _ _)) (im_i (hk.1 _ _ _)))) h
  case tableswitch d lo hi os =>
    simp only [xi] at h ⊢
    exact pI_i (fun _ _ => bo_i (im_i (hk.1 _ _ _)) (im_i (im_i (fun ⟨o, h1, h2⟩ => ⟨o, h1, hk.1 _ _ _ h2⟩)))) h
  case ldc n => simp only [xi] at h ⊢; generalize kLd (kcl k) n = z at h ⊢; rcases z with _ | v; exact h; cases v <;> first | exact h | exact hk.1 _ _ _ h
  case ldc_w n => simp only [xi] at h ⊢; generalize kLd (kcl k) n = z at h ⊢; rcases z with _ | v; exact h; cases v <;> first | exact h | exact hk.1 _ _ _ h
  case ldc2_w n => simp only [xi] at h ⊢; generalize kLd (kcl k) n = z at h ⊢; rcases z with _ | v; exact h; cases v <;> first | exact h | exact hk.1 _ _ _ h
  case getstatic n => simp only [xi] at h ⊢; generalize kSt (kcl k) n = z at h ⊢; rcases z with _ | v; exact h; exact hk.1 _ _ _ h
  case getfield n =>
    simp only [xi] at h ⊢
    refine pR_i (fun a r h => ?_) h
    generalize kFd (kcl k) n = z at h ⊢
    rcases z with _ | ⟨ci, f⟩
    · exact h
    · exact an_i (hk.1 _ _ _) h
  case putfield n =>
    simp only [xi] at h ⊢
    generalize kFd (kcl k) n = z at h ⊢
    rcases z with _ | ⟨ci, f⟩
    · exact h
    · refine an_i (fun h => ?_) h
      generalize fk ci f = y at h ⊢
      match y, h with
      | 0, h => exact pI_i (fun _ _ => pR_i (fun _ _ => an_i (hk.1 _ _ _))) h
      | 1, h => exact pI_i (fun _ _ => pR_i (fun _ _ => an_i (an_i (hk.1 _ _ _)))) h
      | 2, h => exact pL_i (fun _ _ => pR_i (fun _ _ => an_i (hk.1 _ _ _))) h
      | 3, h => exact pR_i (fun _ _ => pR_i (fun _ _ => an_i (hk.1 _ _ _))) h
  case arraylength =>
    simp only [xi] at h ⊢
    refine pR_i (fun a r h => ?_) h
    generalize lay a = z at h ⊢
    match z, h with
    | (0, _, n), h => exact hk.1 _ _ _ h
    | (4, _, n), h => exact hk.1 _ _ _ h
  case iaload =>
    simp only [xi] at h ⊢
    refine pI_i (fun i r => pR_i (fun a r h => ?_)) h
    generalize lay a = z at h ⊢
    match z, h with
    | (0, 0, n), h => exact an_i (hk.1 _ _ _) h
    | (4, 0, n), h => exact an_i (hk.1 _ _ _) h
  case baload =>
    simp only [xi] at h ⊢
    refine pI_i (fun i r => pR_i (fun a r h => ?_)) h
    generalize lay a = z at h ⊢
    match z, h with
    | (0, 1, n), h => exact an_i (hk.1 _ _ _) h
    | (0, 2, n), h => exact an_i (hk.1 _ _ _) h
  case caload =>
    simp only [xi] at h ⊢
    refine pI_i (fun i r => pR_i (fun a r h => ?_)) h
    generalize lay a = z at h ⊢
    match z, h with
    | (4, 3, n), h => exact an_i (hk.1 _ _ _) h
  case laload =>
    simp only [xi] at h ⊢
    refine pI_i (fun i r => pR_i (fun a r h => ?_)) h
    generalize lay a = z at h ⊢
    match z, h with
    | (1, _, n), h => exact an_i (hk.1 _ _ _) h
  case aaload =>
    simp only [xi] at h ⊢
    refine pI_i (fun i r => pR_i (fun a r h => ?_)) h
    generalize lay a = z at h ⊢
    match z, h with
    | (2, _, n), h => exact an_i (hk.1 _ _ _) h
  case iastore =>
    simp only [xi] at h ⊢
    refine pI_i (fun x r => pI_i (fun i r => pR_i (fun a r h => ?_))) h
    generalize lay a = z at h ⊢
    match z, h with
    | (0, 0, n), h => exact an_i (hk.1 _ _ _) h
  case bastore =>
    simp only [xi] at h ⊢
    refine pI_i (fun x r => pI_i (fun i r => pR_i (fun a r h => ?_))) h
    generalize lay a = z at h ⊢
    match z, h with
    | (0, 1, n), h => exact an_i (hk.1 _ _ _) h
    | (0, 2, n), h => exact an_i (hk.1 _ _ _) h
  case lastore =>
    simp only [xi] at h ⊢
    refine pL_i (fun x r => pI_i (fun i r => pR_i (fun a r h => ?_))) h
    generalize lay a = z at h ⊢
    match z, h with
    | (1, _, n), h => exact an_i (hk.1 _ _ _) h
  case invokevirtual n =>
    simp only [xi] at h ⊢
    generalize kCl (kcl k) n = z at h ⊢
    match z, h with
    | some (1, j), h =>
      replace h : (match pops (knp j) st with
        | some (as, .ref b :: r) => lay b = (3, kcl j, kNf (kcl j)) ∧ (r.map fun v => v.category).sum ≤ 8 ∧ kmc j = 0 ∧ kms j = 0 ∧ ca j (.ref b :: as) m (fun rv m' => kk (pc + 3) l (rv.toList ++ r) m')
        | _ => False) := h
      show (match pops (knp j) st with
        | some (as, .ref b :: r) => lay b = (3, kcl j, kNf (kcl j)) ∧ (r.map fun v => v.category).sum ≤ 8 ∧ kmc j = 0 ∧ kms j = 0 ∧ ca j (.ref b :: as) m (fun rv m' => kk (pc + 3) l' (rv.toList ++ r) m')
        | _ => False)
      generalize pops (knp j) st = y at h ⊢
      rcases y with _ | ⟨as, r⟩
      · exact h.elim
      · rcases r with _ | ⟨v, r⟩
        · exact h.elim
        · cases v <;> first | exact h.elim | exact an_i (an_i (an_i (an_i (ca_i hca (fun _ _ => hk.1 _ _ _))))) h
    | some (3, j), h =>
      replace h : (match pops (knp j) st with
        | some (as, .ref b :: r) => (lay b).1 = 5 ∧ (r.map fun v => v.category).sum ≤ 8 ∧ ca j (.ref b :: as) m (fun rv m' => kk (pc + 3) l (rv.toList ++ r) m')
        | _ => False) := h
      show (match pops (knp j) st with
        | some (as, .ref b :: r) => (lay b).1 = 5 ∧ (r.map fun v => v.category).sum ≤ 8 ∧ ca j (.ref b :: as) m (fun rv m' => kk (pc + 3) l' (rv.toList ++ r) m')
        | _ => False)
      generalize pops (knp j) st = y at h ⊢
      rcases y with _ | ⟨as, r⟩
      · exact h.elim
      · rcases r with _ | ⟨v, r⟩
        · exact h.elim
        · cases v <;> first | exact h.elim | exact an_i (an_i (ca_i hca (fun _ _ => hk.1 _ _ _))) h
  case invokestatic n =>
    simp only [xi] at h ⊢
    generalize kCl (kcl k) n = z at h ⊢
    match z, h with
    | some (2, j), h =>
      replace h : (match pops (knp j) st with
        | some (as, r) => (r.map fun v => v.category).sum ≤ 8 ∧ kmc j = 0 ∧ kms j = 0 ∧ ca j as m (fun rv m' => kk (pc + 3) l (rv.toList ++ r) m')
        | none => False) := h
      show (match pops (knp j) st with
        | some (as, r) => (r.map fun v => v.category).sum ≤ 8 ∧ kmc j = 0 ∧ kms j = 0 ∧ ca j as m (fun rv m' => kk (pc + 3) l' (rv.toList ++ r) m')
        | none => False)
      generalize pops (knp j) st = y at h ⊢
      rcases y with _ | ⟨as, r⟩
      · exact h.elim
      · exact an_i (an_i (an_i (ca_i hca (fun _ _ => hk.1 _ _ _)))) h
    | some (5, _), h =>
      try dsimp only at h ⊢
      refine pI_i (fun n r => pI_i (fun dp r => pR_i (fun b r => pI_i (fun sp r => pR_i (fun a r => an_i (an_i (an_i (an_i (fun h => ?_))))))))) h
      generalize lay b = z at h ⊢
      match z, h with
      | (0, 0, nb), h =>
        refine an_i (fun h => ?_) h
        generalize lay a = y at h ⊢
        match y, h with
        | (0, 0, na), h => exact an_i (hk.1 _ _ _) h
        | (4, 0, na), h => exact an_i (hk.1 _ _ _) h
  all_goals simp only [xi] at h ⊢
  all_goals first
    | exact h
    | exact hk.1 _ _ _ h
    | exact pI_i (fun _ _ => hk.1 _ _ _) h
    | exact pI_i (fun _ _ => pI_i (fun _ _ => hk.1 _ _ _)) h
    | exact pI_i (fun _ _ => pI_i (fun _ _ => an_i (hk.1 _ _ _))) h
    | exact pL_i (fun _ _ => hk.1 _ _ _) h
    | exact pL_i (fun _ _ => pL_i (fun _ _ => hk.1 _ _ _)) h
    | exact pL_i (fun _ _ => pL_i (fun _ _ => an_i (hk.1 _ _ _))) h
    | exact pI_i (fun _ _ => pL_i (fun _ _ => hk.1 _ _ _)) h
    | exact pV_i (fun _ _ => an_i (hk.1 _ _ _)) h
    | exact pV_i (fun _ _ => pV_i (fun _ _ => an_i (an_i (hk.1 _ _ _)))) h
    | exact pR_i (fun _ _ => hk.1 _ _ _) h
end EXT
theorem xe_ext {k : Nat} {ca : Nat → List Value → xM → (Option Value → xM → Prop) → Prop} {Q : Option Value → xM → Prop} (hca : ∀ j as m, dK (fun Q => ca j as m Q)) : ∀ n pc l l' st m, lE l l' → nd l = true → nd l' = true → xe k ca Q n pc l st m → xe k ca Q n pc l' st m := by
  intro n
  induction n with
  | zero => exact fun _ _ _ _ _ _ _ _ h => h
  | succ n ih =>
    intro pc l l' st m hl h1 h2 h
    unfold xe at h ⊢
    generalize lkc pc (kcode k) = z at h ⊢
    rcases z with _ | i
    · exact h
    · exact xi_ext hca ⟨fun _ _ _ => ih _ _ _ _ _ hl h1 h2, fun _ _ _ _ _ => ih _ _ _ _ _ (sv1_E h1 h2 hl) (nd_sv1 h1) (nd_sv1 h2), fun _ _ _ _ _ => ih _ _ _ _ _ (sv2_E h1 h2 hl) (nd_sv2 h1) (nd_sv2 h2)⟩ hl i pc st m h
theorem f_ext {k d n pc : Nat} {P : Option Value → xM → Prop} {l l' : List (Nat × Value)} {st : List Value} {m : xM} (h : xF k (xw d) P n pc l st m) (hl : lE l l') (h1 : nd l = true) (h2 : nd l' = true) : xF k (xw d) P n pc l' st m := by
  obtain ⟨n', hn, h⟩ := h
  exact ⟨n', hn, xe_ext (xw_det d) n' pc l l' st m hl h1 h2 h⟩
