/-! a method of ints answers an int -/
section RI
variable {k : Nat} {ca ca2 : Nat → List Value → xM → (Option Value → xM → Prop) → Prop} {kk kk2 : Nat → List (Nat × Value) → List Value → xM → Prop} {Q : Option Value → xM → Prop}
set_option maxHeartbeats 8000000 in
theorem xi_ri (hcc : ∀ (j : Nat) (as : List Value) (m : xM) (f g : Option Value → xM → Prop), (∀ rv m', f rv m' → g rv m') → ca j as m f → ca2 j as m g) (hk : ∀ pc l st m, kk pc l st m → kk2 pc l st m) (i : Instr) (hkr : kr k = 1 ∨ kr k = 2) (pc : Nat) (l : List (Nat × Value)) (st : List Value) (m : xM) (h : xi k ca kk Q i pc l st m) : xi k ca2 kk2 (fun rv m => Q rv m ∧ ∃ z : Int32, rv = some (.int z)) i pc l st m := by
  cases i
  case ireturn =>
    simp only [xi] at h ⊢
    unfold pI at h ⊢
    split at h
    · exact ⟨h.1, h.2.1, h.2.2, _, rfl⟩
    · exact h.elim
  case lreturn =>
    simp only [xi] at h
    unfold pL at h
    split at h
    · exact absurd h.2.1 (by omega)
    · exact h.elim
  case return_ =>
    simp only [xi] at h
    exact absurd h.2.1 (by omega)
  case iload_n n =>
    simp only [xi] at h ⊢
    generalize lkl n l = z at h ⊢
    rcases z with _ | v
    · exact h.elim
    · cases v <;> first | exact h.elim | exact hk _ _ _ _ h
  case iload n =>
    simp only [xi] at h ⊢
    generalize lkl n l = z at h ⊢
    rcases z with _ | v
    · exact h.elim
    · cases v <;> first | exact h.elim | exact hk _ _ _ _ h
  case aload_n n =>
    simp only [xi] at h ⊢
    generalize lkl n l = z at h ⊢
    rcases z with _ | v
    · exact h.elim
    · cases v <;> first | exact h.elim | exact hk _ _ _ _ h
  case aload n =>
    simp only [xi] at h ⊢
    generalize lkl n l = z at h ⊢
    rcases z with _ | v
    · exact h.elim
    · cases v <;> first | exact h.elim | exact hk _ _ _ _ h
  case lload_n n =>
    simp only [xi] at h ⊢
    generalize lkl n l = z at h ⊢
    rcases z with _ | v
    · exact h.elim
    · cases v <;> first | exact h.elim | exact hk _ _ _ _ h
  case lload n =>
    simp only [xi] at h ⊢
    generalize lkl n l = z at h ⊢
    rcases z with _ | v
    · exact h.elim
    · cases v <;> first | exact h.elim | exact hk _ _ _ _ h
  case istore_n n =>
    simp only [xi] at h ⊢
    exact ⟨h.1, pI_i (fun _ _ => hk _ _ _ _) h.2⟩
  case istore n =>
    simp only [xi] at h ⊢
    exact ⟨h.1, pI_i (fun _ _ => hk _ _ _ _) h.2⟩
  case astore_n n =>
    simp only [xi] at h ⊢
    exact ⟨h.1, pR_i (fun _ _ => hk _ _ _ _) h.2⟩
  case astore n =>
    simp only [xi] at h ⊢
    exact ⟨h.1, pR_i (fun _ _ => hk _ _ _ _) h.2⟩
  case lstore_n n =>
    simp only [xi] at h ⊢
    exact ⟨h.1, pL_i (fun _ _ => hk _ _ _ _) h.2⟩
  case lstore n =>
    simp only [xi] at h ⊢
    exact ⟨h.1, pL_i (fun _ _ => hk _ _ _ _) h.2⟩
  case iinc n d =>
    simp only [xi] at h ⊢
    refine ⟨h.1, ?_⟩
    replace h := h.2
    generalize lkl n l = z at h ⊢
    rcases z with _ | v
    · exact h.elim
    · cases v <;> first | exact h.elim | exact hk _ _ _ _ h
  case ifCond c o => cases c <;> simp only [xi] at h ⊢ <;> refine pI_i (fun _ _ => bo_i (im_i (hk _ _ _ _)) (im_i (hk _ _ _ _))) h
  case if_icmp c o => cases c <;> simp only [xi] at h ⊢ <;> refine pI_i (fun _ _ => pI_i (fun _ _ => bo_i (im_i (hk _ _ _ _)) (im_i (hk _ _ _ _)))) h
  case tableswitch d lo hi os =>
    simp only [xi] at h ⊢
    exact pI_i (fun _ _ => bo_i (im_i (hk _ _ _ _)) (im_i (im_i (fun ⟨o, h1, h2⟩ => ⟨o, h1, hk _ _ _ _ h2⟩)))) h
  case ldc n => simp only [xi] at h ⊢; generalize kLd (kcl k) n = z at h ⊢; rcases z with _ | v; exact h; cases v <;> first | exact h | exact hk _ _ _ _ h
  case ldc_w n => simp only [xi] at h ⊢; generalize kLd (kcl k) n = z at h ⊢; rcases z with _ | v; exact h; cases v <;> first | exact h | exact hk _ _ _ _ h
  case ldc2_w n => simp only [xi] at h ⊢; generalize kLd (kcl k) n = z at h ⊢; rcases z with _ | v; exact h; cases v <;> first | exact h | exact hk _ _ _ _ h
  case getstatic n => simp only [xi] at h ⊢; generalize kSt (kcl k) n = z at h ⊢; rcases z with _ | v; exact h; exact hk _ _ _ _ h
  case getfield n =>
    simp only [xi] at h ⊢
    refine pR_i (fun a r h => ?_) h
    generalize kFd (kcl k) n = z at h ⊢
    rcases z with _ | ⟨ci, f⟩
    · exact h
    · exact an_i (hk _ _ _ _) h
  case putfield n =>
    simp only [xi] at h ⊢
    generalize kFd (kcl k) n = z at h ⊢
    rcases z with _ | ⟨ci, f⟩
    · exact h
    · refine an_i (fun h => ?_) h
      generalize fk ci f = y at h ⊢
      match y, h with
      | 0, h => exact pI_i (fun _ _ => pR_i (fun _ _ => an_i (hk _ _ _ _))) h
      | 1, h => exact pI_i (fun _ _ => pR_i (fun _ _ => an_i (an_i (hk _ _ _ _)))) h
      | 2, h => exact pL_i (fun _ _ => pR_i (fun _ _ => an_i (hk _ _ _ _))) h
      | 3, h => exact pR_i (fun _ _ => pR_i (fun _ _ => an_i (hk _ _ _ _))) h
  case arraylength =>
    simp only [xi] at h ⊢
    refine pR_i (fun a r h => ?_) h
    generalize lay a = z at h ⊢
    match z, h with
    | (0, _, n), h => exact hk _ _ _ _ h
    | (4, _, n), h => exact hk _ _ _ _ h
  case iaload =>
    simp only [xi] at h ⊢
    refine pI_i (fun i r => pR_i (fun a r h => ?_)) h
    generalize lay a = z at h ⊢
    match z, h with
    | (0, 0, n), h => exact an_i (hk _ _ _ _) h
    | (4, 0, n), h => exact an_i (hk _ _ _ _) h
  case baload =>
    simp only [xi] at h ⊢
    refine pI_i (fun i r => pR_i (fun a r h => ?_)) h
    generalize lay a = z at h ⊢
    match z, h with
    | (0, 1, n), h => exact an_i (hk _ _ _ _) h
    | (0, 2, n), h => exact an_i (hk _ _ _ _) h
  case caload =>
    simp only [xi] at h ⊢
    refine pI_i (fun i r => pR_i (fun a r h => ?_)) h
    generalize lay a = z at h ⊢
    match z, h with
    | (4, 3, n), h => exact an_i (hk _ _ _ _) h
  case laload =>
    simp only [xi] at h ⊢
    refine pI_i (fun i r => pR_i (fun a r h => ?_)) h
    generalize lay a = z at h ⊢
    match z, h with
    | (1, _, n), h => exact an_i (hk _ _ _ _) h
  case aaload =>
    simp only [xi] at h ⊢
    refine pI_i (fun i r => pR_i (fun a r h => ?_)) h
    generalize lay a = z at h ⊢
    match z, h with
    | (2, _, n), h => exact an_i (hk _ _ _ _) h
  case iastore =>
    simp only [xi] at h ⊢
    refine pI_i (fun x r => pI_i (fun i r => pR_i (fun a r h => ?_))) h
    generalize lay a = z at h ⊢
    match z, h with
    | (0, 0, n), h => exact an_i (hk _ _ _ _) h
  case bastore =>
    simp only [xi] at h ⊢
    refine pI_i (fun x r => pI_i (fun i r => pR_i (fun a r h => ?_))) h
    generalize lay a = z at h ⊢
    match z, h with
    | (0, 1, n), h => exact an_i (hk _ _ _ _) h
    | (0, 2, n), h => exact an_i (hk _ _ _ _) h
  case lastore =>
    simp only [xi] at h ⊢
    refine pL_i (fun x r => pI_i (fun i r => pR_i (fun a r h => ?_))) h
    generalize lay a = z at h ⊢
    match z, h with
    | (1, _, n), h => exact an_i (hk _ _ _ _) h
  case invokevirtual n =>
    simp only [xi] at h ⊢
    generalize kCl (kcl k) n = z at h ⊢
    match z, h with
    | some (1, j), h =>
      replace h : (match pops (knp j) st with
        | some (as, .ref b :: r) => lay b = (3, kcl j, kNf (kcl j)) ∧ (r.map fun v => v.category).sum ≤ 8 ∧ kmc j = 0 ∧ kms j = 0 ∧ ca j (.ref b :: as) m (fun rv m' => kk (pc + 3) l (rv.toList ++ r) m')
        | _ => False) := h
      show (match pops (knp j) st with
        | some (as, .ref b :: r) => lay b = (3, kcl j, kNf (kcl j)) ∧ (r.map fun v => v.category).sum ≤ 8 ∧ kmc j = 0 ∧ kms j = 0 ∧ ca2 j (.ref b :: as) m (fun rv m' => kk2 (pc + 3) l (rv.toList ++ r) m')
        | _ => False)
      generalize pops (knp j) st = y at h ⊢
      rcases y with _ | ⟨as, r⟩
      · exact h.elim
      · rcases r with _ | ⟨v, r⟩
        · exact h.elim
        · cases v <;> first | exact h.elim | exact an_i (an_i (an_i (an_i (hcc _ _ _ _ _ (fun _ _ => hk _ _ _ _))))) h
    | some (3, j), h =>
      replace h : (match pops (knp j) st with
        | some (as, .ref b :: r) => (lay b).1 = 5 ∧ (r.map fun v => v.category).sum ≤ 8 ∧ ca j (.ref b :: as) m (fun rv m' => kk (pc + 3) l (rv.toList ++ r) m')
        | _ => False) := h
      show (match pops (knp j) st with
        | some (as, .ref b :: r) => (lay b).1 = 5 ∧ (r.map fun v => v.category).sum ≤ 8 ∧ ca2 j (.ref b :: as) m (fun rv m' => kk2 (pc + 3) l (rv.toList ++ r) m')
        | _ => False)
      generalize pops (knp j) st = y at h ⊢
      rcases y with _ | ⟨as, r⟩
      · exact h.elim
      · rcases r with _ | ⟨v, r⟩
        · exact h.elim
        · cases v <;> first | exact h.elim | exact an_i (an_i (hcc _ _ _ _ _ (fun _ _ => hk _ _ _ _))) h
  case invokestatic n =>
    simp only [xi] at h ⊢
    generalize kCl (kcl k) n = z at h ⊢
    match z, h with
    | some (2, j), h =>
      replace h : (match pops (knp j) st with
        | some (as, r) => (r.map fun v => v.category).sum ≤ 8 ∧ kmc j = 0 ∧ kms j = 0 ∧ ca j as m (fun rv m' => kk (pc + 3) l (rv.toList ++ r) m')
        | none => False) := h
      show (match pops (knp j) st with
        | some (as, r) => (r.map fun v => v.category).sum ≤ 8 ∧ kmc j = 0 ∧ kms j = 0 ∧ ca2 j as m (fun rv m' => kk2 (pc + 3) l (rv.toList ++ r) m')
        | none => False)
      generalize pops (knp j) st = y at h ⊢
      rcases y with _ | ⟨as, r⟩
      · exact h.elim
      · exact an_i (an_i (an_i (hcc _ _ _ _ _ (fun _ _ => hk _ _ _ _)))) h
    | some (5, _), h =>
      try dsimp only at h ⊢
      refine pI_i (fun n r => pI_i (fun dp r => pR_i (fun b r => pI_i (fun sp r => pR_i (fun a r => an_i (an_i (an_i (an_i (fun h => ?_))))))))) h
      generalize lay b = z at h ⊢
      match z, h with
      | (0, 0, nb), h =>
        refine an_i (fun h => ?_) h
        generalize lay a = y at h ⊢
        match y, h with
        | (0, 0, na), h => exact an_i (hk _ _ _ _) h
        | (4, 0, na), h => exact an_i (hk _ _ _ _) h
  all_goals simp only [xi] at h ⊢
  all_goals first
    | exact h
    | exact hk _ _ _ _ h
    | exact pI_i (fun _ _ => hk _ _ _ _) h
    | exact pI_i (fun _ _ => pI_i (fun _ _ => hk _ _ _ _)) h
    | exact pI_i (fun _ _ => pI_i (fun _ _ => an_i (hk _ _ _ _))) h
    | exact pL_i (fun _ _ => hk _ _ _ _) h
    | exact pL_i (fun _ _ => pL_i (fun _ _ => hk _ _ _ _)) h
    | exact pL_i (fun _ _ => pL_i (fun _ _ => an_i (hk _ _ _ _))) h
    | exact pI_i (fun _ _ => pL_i (fun _ _ => hk _ _ _ _)) h
    | exact pV_i (fun _ _ => an_i (hk _ _ _ _)) h
    | exact pV_i (fun _ _ => pV_i (fun _ _ => an_i (an_i (hk _ _ _ _)))) h
    | exact pR_i (fun _ _ => hk _ _ _ _) h
end RI
theorem xe_ri {k : Nat} {ca : Nat → List Value → xM → (Option Value → xM → Prop) → Prop} {Q : Option Value → xM → Prop} (hcd : ∀ j as m, dK (fun Q => ca j as m Q)) (hkr : kr k = 1 ∨ kr k = 2) : ∀ n pc l st m, xe k ca Q n pc l st m → xe k ca (fun rv m => Q rv m ∧ ∃ z : Int32, rv = some (.int z)) n pc l st m := by
  intro n
  induction n with
  | zero => exact fun _ _ _ _ h => h
  | succ n ih =>
    intro pc l st m h
    unfold xe at h ⊢
    generalize lkc pc (kcode k) = z at h ⊢
    rcases z with _ | i
    · exact h
    · exact xi_ri (ca := ca) (ca2 := ca) (fun j as m f g hfg h => ca_i hcd hfg h) ih i hkr pc l st m h
theorem fC_int {j : Nat} {as : List Value} {m : xM} (hj : Nat.ble 271 j = false) (hkr : kr j = 1 ∨ kr j = 2) : fC j as m (fun rv _ => ∃ z : Int32, rv = some (.int z)) := fun d P h => by
  cases d with
  | zero => exact h.elim
  | succ d =>
    unfold xw at h
    rw [hj] at h
    obtain ⟨-, -, -, n, h⟩ : kmc j = 0 ∧ kms j = 0 ∧ (lg_sl as).length ≤ knl j ∧ ∃ n, xe j (xw d) P n 0 (lv_args 0 as) [] m := h
    obtain ⟨rv, m', h1, -⟩ := xe_det (xw_det d) n 0 (lv_args 0 as) [] m _ (xe_ri (xw_det d) hkr n 0 _ _ _ h)
    exact ⟨rv, m', h1⟩
