/-! the reference's seed stays where no long is put into a field -/
noncomputable def lfB (K : List Nat) (k : Nat) (i : Instr) : Bool := match i with
  | .putfield n => match kFd (kcl k) n with
    | some (ci, f) => !(Nat.beq (fk ci f) 2)
    | none => true
  | .invokevirtual n => match kCl (kcl k) n with
    | some (1, j) => K.any (fun q => Nat.beq q j)
    | some (3, j) => Nat.ble 271 j
    | _ => true
  | .invokestatic n => match kCl (kcl k) n with
    | some (2, j) => K.any (fun q => Nat.beq q j)
    | _ => true
  | _ => true
def lfK (K : List Nat) (j : Nat) : Prop := K.any (fun q => Nat.beq q j) = true ∨ Nat.ble 271 j = true
section LF
variable {k : Nat} {ca : Nat → List Value → xM → (Option Value → xM → Prop) → Prop} {kk kk2 : Nat → List (Nat × Value) → List Value → xM → Prop} {Q : Option Value → xM → Prop} {v : Int64} {K : List Nat}
set_option maxHeartbeats 8000000 in
theorem xi_lf (hcc : ∀ (j : Nat) (as : List Value) (m : xM) (f g : Option Value → xM → Prop), lfK K j → m.2.1 314 43 = v → (∀ rv m', m'.2.1 314 43 = v → f rv m' → g rv m') → ca j as m f → ca j as m g) (hk : ∀ pc l st m, m.2.1 314 43 = v → kk pc l st m → kk2 pc l st m) (i : Instr) (hn : lfB K k i = true) (pc : Nat) (l : List (Nat × Value)) (st : List Value) (m : xM) (hm : m.2.1 314 43 = v) (h : xi k ca kk Q i pc l st m) : xi k ca kk2 (fun rv m => Q rv m ∧ m.2.1 314 43 = v) i pc l st m := by
  cases i
  case ireturn =>
    simp only [xi] at h ⊢
    exact pI_i (fun _ _ h => ⟨h.1, h.2.1, h.2.2, hm⟩) h
  case lreturn =>
    simp only [xi] at h ⊢
    exact pL_i (fun _ _ h => ⟨h.1, h.2.1, h.2.2, hm⟩) h
  case return_ =>
    simp only [xi] at h ⊢
    exact ⟨h.1, h.2.1, h.2.2, hm⟩
  case iload_n n =>
    simp only [xi] at h ⊢
    generalize lkl n l = z at h ⊢
    rcases z with _ | v
    · exact h.elim
    · cases v <;> first | exact h.elim | exact hk _ _ _ _ hm h
  case iload n =>
    simp only [xi] at h ⊢
    generalize lkl n l = z at h ⊢
    rcases z with _ | v
    · exact h.elim
    · cases v <;> first | exact h.elim | exact hk _ _ _ _ hm h
  case aload_n n =>
    simp only [xi] at h ⊢
    generalize lkl n l = z at h ⊢
    rcases z with _ | v
    · exact h.elim
    · cases v <;> first | exact h.elim | exact hk _ _ _ _ hm h
  case aload n =>
    simp only [xi] at h ⊢
    generalize lkl n l = z at h ⊢
    rcases z with _ | v
    · exact h.elim
    · cases v <;> first | exact h.elim | exact hk _ _ _ _ hm h
  case lload_n n =>
    simp only [xi] at h ⊢
    generalize lkl n l = z at h ⊢
    rcases z with _ | v
    · exact h.elim
    · cases v <;> first | exact h.elim | exact hk _ _ _ _ hm h
  case lload n =>
    simp only [xi] at h ⊢
    generalize lkl n l = z at h ⊢
    rcases z with _ | v
    · exact h.elim
    · cases v <;> first | exact h.elim | exact hk _ _ _ _ hm h
  case istore_n n =>
    simp only [xi] at h ⊢
    exact ⟨h.1, pI_i (fun _ _ => hk _ _ _ _ hm) h.2⟩
  case istore n =>
    simp only [xi] at h ⊢
    exact ⟨h.1, pI_i (fun _ _ => hk _ _ _ _ hm) h.2⟩
  case astore_n n =>
    simp only [xi] at h ⊢
    exact ⟨h.1, pR_i (fun _ _ => hk _ _ _ _ hm) h.2⟩
  case astore n =>
    simp only [xi] at h ⊢
    exact ⟨h.1, pR_i (fun _ _ => hk _ _ _ _ hm) h.2⟩
  case lstore_n n =>
    simp only [xi] at h ⊢
    exact ⟨h.1, pL_i (fun _ _ => hk _ _ _ _ hm) h.2⟩
  case lstore n =>
    simp only [xi] at h ⊢
    exact ⟨h.1, pL_i (fun _ _ => hk _ _ _ _ hm) h.2⟩
  case iinc n d =>
    simp only [xi] at h ⊢
    refine ⟨h.1, ?_⟩
    replace h := h.2
    generalize lkl n l = z at h ⊢
    rcases z with _ | v
    · exact h.elim
    · cases v <;> first | exact h.elim | exact hk _ _ _ _ hm h
  case ifCond c o => cases c <;> simp only [xi] at h ⊢ <;> refine pI_i (fun _ _ => bo_i (im_i (hk _ _ _ _ hm)) (im_i (hk _ _ _ _ hm))) h
  case if_icmp c o => cases c <;> simp only [xi] at h ⊢ <;> refine pI_i (fun _ _ => pI_i (fun _ _ => bo_i (im_i (hk _ _ _ _ hm)) (im_i (hk _ _ _ _ hm)))) h
  case tableswitch d lo hi os =>
    simp only [xi] at h ⊢
    exact pI_i (fun _ _ => bo_i (im_i (hk _ _ _ _ hm)) (im_i (im_i (fun ⟨o, h1, h2⟩ => ⟨o, h1, hk _ _ _ _ hm h2⟩)))) h
  case ldc n => simp only [xi] at h ⊢; generalize kLd (kcl k) n = z at h ⊢; rcases z with _ | v; exact h; cases v <;> first | exact h | exact hk _ _ _ _ hm h
  case ldc_w n => simp only [xi] at h ⊢; generalize kLd (kcl k) n = z at h ⊢; rcases z with _ | v; exact h; cases v <;> first | exact h | exact hk _ _ _ _ hm h
  case ldc2_w n => simp only [xi] at h ⊢; generalize kLd (kcl k) n = z at h ⊢; rcases z with _ | v; exact h; cases v <;> first | exact h | exact hk _ _ _ _ hm h
  case getstatic n => simp only [xi] at h ⊢; generalize kSt (kcl k) n = z at h ⊢; rcases z with _ | v; exact h; exact hk _ _ _ _ hm h
  case getfield n =>
    simp only [xi] at h ⊢
    refine pR_i (fun a r h => ?_) h
    generalize kFd (kcl k) n = z at h ⊢
    rcases z with _ | ⟨ci, f⟩
    · exact h
    · exact an_i (hk _ _ _ _ hm) h
  case putfield n =>
    simp only [xi] at h ⊢
    unfold lfB at hn
    dsimp only at hn
    generalize kFd (kcl k) n = z at h hn ⊢
    rcases z with _ | ⟨ci, f⟩
    · exact h
    · refine an_i (fun h => ?_) h
      dsimp only at hn
      generalize fk ci f = y at h hn ⊢
      match y, h, hn with
      | 0, h, _ => exact pI_i (fun _ _ => pR_i (fun _ _ => an_i (hk _ _ _ _ hm))) h
      | 1, h, _ => exact pI_i (fun _ _ => pR_i (fun _ _ => an_i (an_i (hk _ _ _ _ hm)))) h
      | 2, h, hn => exact absurd hn (by decide)
      | 3, h, _ => exact pR_i (fun _ _ => pR_i (fun _ _ => an_i (hk _ _ _ _ hm))) h
  case arraylength =>
    simp only [xi] at h ⊢
    refine pR_i (fun a r h => ?_) h
    generalize lay a = z at h ⊢
    match z, h with
    | (0, _, n), h => exact hk _ _ _ _ hm h
    | (4, _, n), h => exact hk _ _ _ _ hm h
  case iaload =>
    simp only [xi] at h ⊢
    refine pI_i (fun i r => pR_i (fun a r h => ?_)) h
    generalize lay a = z at h ⊢
    match z, h with
    | (0, 0, n), h => exact an_i (hk _ _ _ _ hm) h
    | (4, 0, n), h => exact an_i (hk _ _ _ _ hm) h
  case baload =>
    simp only [xi] at h ⊢
    refine pI_i (fun i r => pR_i (fun a r h => ?_)) h
    generalize lay a = z at h ⊢
    match z, h with
    | (0, 1, n), h => exact an_i (hk _ _ _ _ hm) h
    | (0, 2, n), h => exact an_i (hk _ _ _ _ hm) h
  case caload =>
    simp only [xi] at h ⊢
    refine pI_i (fun i r => pR_i (fun a r h => ?_)) h
    generalize lay a = z at h ⊢
    match z, h with
    | (4, 3, n), h => exact an_i (hk _ _ _ _ hm) h
  case laload =>
    simp only [xi] at h ⊢
    refine pI_i (fun i r => pR_i (fun a r h => ?_)) h
    generalize lay a = z at h ⊢
    match z, h with
    | (1, _, n), h => exact an_i (hk _ _ _ _ hm) h
  case aaload =>
    simp only [xi] at h ⊢
    refine pI_i (fun i r => pR_i (fun a r h => ?_)) h
    generalize lay a = z at h ⊢
    match z, h with
    | (2, _, n), h => exact an_i (hk _ _ _ _ hm) h
  case iastore =>
    simp only [xi] at h ⊢
    refine pI_i (fun x r => pI_i (fun i r => pR_i (fun a r h => ?_))) h
    generalize lay a = z at h ⊢
    match z, h with
    | (0, 0, n), h => exact an_i (hk _ _ _ _ hm) h
  case bastore =>
    simp only [xi] at h ⊢
    refine pI_i (fun x r => pI_i (fun i r => pR_i (fun a r h => ?_))) h
    generalize lay a = z at h ⊢
    match z, h with
    | (0, 1, n), h => exact an_i (hk _ _ _ _ hm) h
    | (0, 2, n), h => exact an_i (hk _ _ _ _ hm) h
  case lastore =>
    simp only [xi] at h ⊢
    refine pL_i (fun x r => pI_i (fun i r => pR_i (fun a r h => ?_))) h
    have ha : ∀ y n, lay a = (1, y, n) → 314 ≠ a := fun y n e q => by
      rw [← q] at e
      have e1 : (lay 314).1 = 1 := congrArg (fun q => q.1) e
      exact absurd e1 (by decide)
    generalize lay a = z at h ha ⊢
    match z, h, ha with
    | (1, _, n), h, ha =>
      refine an_i (hk _ _ _ _ ?_) h
      show u2 m.2.1 a _ _ 314 43 = v
      unfold u2
      rw [if_neg (ha _ _ rfl)]
      exact hm
  case invokevirtual n =>
    simp only [xi] at h ⊢
    unfold lfB at hn
    dsimp only at hn
    generalize kCl (kcl k) n = z at h hn ⊢
    match z, h, hn with
    | some (1, j), h, hn =>
      replace h : (match pops (knp j) st with
        | some (as, .ref b :: r) => lay b = (3, kcl j, kNf (kcl j)) ∧ (r.map fun v => v.category).sum ≤ 8 ∧ kmc j = 0 ∧ kms j = 0 ∧ ca j (.ref b :: as) m (fun rv m' => kk (pc + 3) l (rv.toList ++ r) m')
        | _ => False) := h
      show (match pops (knp j) st with
        | some (as, .ref b :: r) => lay b = (3, kcl j, kNf (kcl j)) ∧ (r.map fun v => v.category).sum ≤ 8 ∧ kmc j = 0 ∧ kms j = 0 ∧ ca j (.ref b :: as) m (fun rv m' => kk2 (pc + 3) l (rv.toList ++ r) m')
        | _ => False)
      generalize pops (knp j) st = y at h ⊢
      rcases y with _ | ⟨as, r⟩
      · exact h.elim
      · rcases r with _ | ⟨v, r⟩
        · exact h.elim
        · cases v <;> first | exact h.elim | exact an_i (an_i (an_i (an_i (hcc _ _ _ _ _ (Or.inl hn) hm (fun _ _ hm => hk _ _ _ _ hm))))) h
    | some (3, j), h, hn =>
      replace h : (match pops (knp j) st with
        | some (as, .ref b :: r) => (lay b).1 = 5 ∧ (r.map fun v => v.category).sum ≤ 8 ∧ ca j (.ref b :: as) m (fun rv m' => kk (pc + 3) l (rv.toList ++ r) m')
        | _ => False) := h
      show (match pops (knp j) st with
        | some (as, .ref b :: r) => (lay b).1 = 5 ∧ (r.map fun v => v.category).sum ≤ 8 ∧ ca j (.ref b :: as) m (fun rv m' => kk2 (pc + 3) l (rv.toList ++ r) m')
        | _ => False)
      generalize pops (knp j) st = y at h ⊢
      rcases y with _ | ⟨as, r⟩
      · exact h.elim
      · rcases r with _ | ⟨v, r⟩
        · exact h.elim
        · cases v <;> first | exact h.elim | exact an_i (an_i (hcc _ _ _ _ _ (Or.inr hn) hm (fun _ _ hm => hk _ _ _ _ hm))) h
  case invokestatic n =>
    simp only [xi] at h ⊢
    unfold lfB at hn
    dsimp only at hn
    generalize kCl (kcl k) n = z at h hn ⊢
    match z, h, hn with
    | some (2, j), h, hn =>
      replace h : (match pops (knp j) st with
        | some (as, r) => (r.map fun v => v.category).sum ≤ 8 ∧ kmc j = 0 ∧ kms j = 0 ∧ ca j as m (fun rv m' => kk (pc + 3) l (rv.toList ++ r) m')
        | none => False) := h
      show (match pops (knp j) st with
        | some (as, r) => (r.map fun v => v.category).sum ≤ 8 ∧ kmc j = 0 ∧ kms j = 0 ∧ ca j as m (fun rv m' => kk2 (pc + 3) l (rv.toList ++ r) m')
        | none => False)
      generalize pops (knp j) st = y at h ⊢
      rcases y with _ | ⟨as, r⟩
      · exact h.elim
      · exact an_i (an_i (an_i (hcc _ _ _ _ _ (Or.inl hn) hm (fun _ _ hm => hk _ _ _ _ hm)))) h
    | some (5, _), h, hn =>
      try dsimp only at h ⊢
      refine pI_i (fun n r => pI_i (fun dp r => pR_i (fun b r => pI_i (fun sp r => pR_i (fun a r => an_i (an_i (an_i (an_i (fun h => ?_))))))))) h
      generalize lay b = z at h ⊢
      match z, h with
      | (0, 0, nb), h =>
        refine an_i (fun h => ?_) h
        generalize lay a = y at h ⊢
        match y, h with
        | (0, 0, na), h => exact an_i (hk _ _ _ _ hm) h
        | (4, 0, na), h => exact an_i (hk _ _ _ _ hm) h
  all_goals simp only [xi] at h ⊢
  all_goals first
    | exact h
    | exact hk _ _ _ _ hm h
    | exact pI_i (fun _ _ => hk _ _ _ _ hm) h
    | exact pI_i (fun _ _ => pI_i (fun _ _ => hk _ _ _ _ hm)) h
    | exact pI_i (fun _ _ => pI_i (fun _ _ => an_i (hk _ _ _ _ hm))) h
    | exact pL_i (fun _ _ => hk _ _ _ _ hm) h
    | exact pL_i (fun _ _ => pL_i (fun _ _ => hk _ _ _ _ hm)) h
    | exact pL_i (fun _ _ => pL_i (fun _ _ => an_i (hk _ _ _ _ hm))) h
    | exact pI_i (fun _ _ => pL_i (fun _ _ => hk _ _ _ _ hm)) h
    | exact pV_i (fun _ _ => an_i (hk _ _ _ _ hm)) h
    | exact pV_i (fun _ _ => pV_i (fun _ _ => an_i (an_i (hk _ _ _ _ hm)))) h
    | exact pR_i (fun _ _ => hk _ _ _ _ hm) h
end LF
noncomputable def lfA (K : List Nat) : Bool := K.all (fun k => (kcode k).all (fun e => lfB K k e.2))
theorem lkc_mem {pc : Nat} {i : Instr} : ∀ L : List (Nat × Instr), lkc pc L = some i → ∃ p, (p, i) ∈ L := by
  intro L
  induction L with
  | nil => exact fun h => by cases h
  | cons e t ih =>
    intro h
    obtain ⟨p, i'⟩ := e
    have h : (bif Nat.beq p pc then some i' else lkc pc t) = some i := h
    cases c : Nat.beq p pc
    · rw [c] at h
      obtain ⟨q, hq⟩ := ih h
      exact ⟨q, List.mem_cons_of_mem _ hq⟩
    · rw [c] at h
      cases h
      exact ⟨p, List.mem_cons_self⟩
theorem xe_lf {k : Nat} {v : Int64} {K : List Nat} {ca : Nat → List Value → xM → (Option Value → xM → Prop) → Prop} {Q : Option Value → xM → Prop} (hcc : ∀ (j : Nat) (as : List Value) (m : xM) (f g : Option Value → xM → Prop), lfK K j → m.2.1 314 43 = v → (∀ rv m', m'.2.1 314 43 = v → f rv m' → g rv m') → ca j as m f → ca j as m g) (hK : (kcode k).all (fun e => lfB K k e.2) = true) : ∀ n pc l st m, m.2.1 314 43 = v → xe k ca Q n pc l st m → xe k ca (fun rv m => Q rv m ∧ m.2.1 314 43 = v) n pc l st m := by
  intro n
  induction n with
  | zero => exact fun _ _ _ _ _ h => h
  | succ n ih =>
    intro pc l st m hm h
    unfold xe at h ⊢
    cases c : lkc pc (kcode k) with
    | none =>
      rw [c] at h
      exact h
    | some i =>
      rw [c] at h
      obtain ⟨p, hp⟩ := lkc_mem _ c
      exact xi_lf hcc ih i (List.all_eq_true.mp hK _ hp) pc l st m hm h
theorem xstr_lf {j : Nat} {as : List Value} {m : xM} {P : Option Value → xM → Prop} (h : xstr j as m P) : xstr j as m (fun rv m' => P rv m' ∧ m'.2.1 314 43 = m.2.1 314 43) := by
  unfold xstr at h ⊢
  match as, h with
  | [.ref a], h =>
    refine an_i (fun h => ?_) h
    generalize lay a = z at h ⊢
    match z, h with
    | (5, _, n), h => exact ⟨h, rfl⟩
  | [.ref a, .int i], h =>
    refine an_i (fun h => ?_) h
    generalize lay a = z at h ⊢
    match z, h with
    | (5, _, n), h => exact ⟨h.1, h.2, rfl⟩
theorem xw_lf {K : List Nat} (hA : lfA K = true) : ∀ d j as m (P : Option Value → xM → Prop), lfK K j → xw d j as m P → xw d j as m (fun rv m' => P rv m' ∧ m'.2.1 314 43 = m.2.1 314 43) := by
  intro d
  induction d with
  | zero => exact fun _ _ _ _ _ h => h
  | succ d ih =>
    intro j as m P hj h
    unfold xw at h ⊢
    cases c : Nat.ble 271 j
    · rw [c] at h
      have hj1 : K.any (fun q => Nat.beq q j) = true := by
        rcases hj with q | q
        · exact q
        · rw [c] at q; cases q
      obtain ⟨q, hq1, hq2⟩ := List.any_eq_true.mp hj1
      have := Nat.eq_of_beq_eq_true hq2
      subst this
      have hK := List.all_eq_true.mp hA _ hq1
      obtain ⟨h1, h2, h3, n, h⟩ : kmc q = 0 ∧ kms q = 0 ∧ (lg_sl as).length ≤ knl q ∧ ∃ n, xe q (xw d) P n 0 (lv_args 0 as) [] m := h
      refine ⟨h1, h2, h3, n, ?_⟩
      refine xe_lf (fun j as m f g hj hm hfg h => ?_) hK n 0 _ _ m rfl h
      obtain ⟨rv, m', ⟨p1, p2⟩, p3⟩ := xw_det d j as m _ (ih j as m f hj h)
      exact p3 g (hfg rv m' (p2.trans hm) p1)
    · rw [c] at h
      exact xstr_lf h
theorem fC_lf {K : List Nat} (hA : lfA K = true) {j : Nat} {as : List Value} {m : xM} (hj : K.any (fun q => Nat.beq q j) = true) : fC j as m (fun _ m' => m'.2.1 314 43 = m.2.1 314 43) := fun d P h => by
  obtain ⟨rv, m', ⟨h1, h2⟩, -⟩ := xw_det d j as m _ (xw_lf hA d j as m P (Or.inl hj) h)
  exact ⟨rv, m', h1, h2⟩
/-- the methods that a day reaches -/
def lfL : List Nat := [156, 157, 162, 163, 164, 165, 166, 167, 168, 169, 170, 171, 172, 173, 174, 175, 176, 177, 178, 196, 197, 198, 199, 200, 201, 202, 203, 204, 264, 267, 268, 269, 270]
theorem lfL_ok : lfA lfL = true := by decide +kernel
