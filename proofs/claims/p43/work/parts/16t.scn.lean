/-! a method of ints answers an int -/
section RI
variable {k : Nat} {ca ca2 : Nat → List Value → xM → (Option Value → xM → Prop) → Prop} {kk kk2 : Nat → List (Nat × Value) → List Value → xM → Prop} {Q : Option Value → xM → Prop}
set_option maxHeartbeats 8000000 in
theorem xi_ri (hcc : ∀ (j : Nat) (as : List Value) (m : xM) (f g : Option Value → xM → Prop), (∀ rv m', f rv m' → g rv m') → ca j as m f → ca2 j as m g) (hk : ∀ pc l st m, kk pc l st m → kk2 pc l st m) (i : Instr) (hkr : kr k = 1 ∨ kr k = 2) (pc : Nat) (l : List (Nat × Value)) (st : List Value) (m : xM) (h : xi k ca kk Q i pc l st m) : xi k ca2 kk2 (fun rv m => Q rv m ∧ ∃ z : Int32, rv = some (.int z)) i pc l st m := by
  cases i
  case ireturn =>
    simp only [xi] at h ⊢
    unfold pI at h ⊢
    split at h
    · exact ⟨h.1, h.2.1, h.2.2, _, rfl⟩
    · exact h.elim
  case lreturn =>
    simp only [xi] at h
    unfold pL at h
    split at h
    · exact absurd h.2.1 (by omega)
    · exact h.elim
  case return_ =>
    simp only [xi] at h
    exact absurd h.2.1 (by omega)
  case iload_n n =>
    simp only [xi] at h ⊢
    generalize lkl n l = z at h ⊢
    rcases z with _ | v
    · exact h.elim
    · cases v <;> first | exact h.elim | exact hk _ _ _ _ h
  case iload n =>
    simp only [xi] at h ⊢
    generalize lkl n l = z at h ⊢
    rcases z with _ | v
    · exact h.elim
    · cases v <;> first | exact h.elim | exact hk _ _ _ _ h
  case aload_n n =>
    simp only [xi] at h ⊢
    generalize lkl n l = z at h ⊢
    rcases z with _ | v
    · exact h.elim
    · cases v <;> first | exact h.elim | exact hk _ _ _ _ h
  case aload n =>
    simp only [xi] at h ⊢
    generalize lkl n l = z at h ⊢
    rcases z with _ | v
    · exact h.elim
    · cases v <;> first | exact h.elim | exact hk _ _ _ _ h
  case lload_n n =>
    simp only [xi] at h ⊢
    generalize lkl n l = z at h ⊢
    rcases z with _ | v
    · exact h.elim
    · cases v <;> first | exact h.elim | exact hk _ _ _ _ h
  case lload n =>
    simp only [xi] at h ⊢
    generalize lkl n l = z at h ⊢
    rcases z with _ | v
    · exact h.elim
    · cases v <;> first | exact h.elim | exact hk _ _ _ _ h
  case istore_n n =>
    simp only [xi] at h ⊢
    exact ⟨h.1, pI_i (fun _ _ => hk _ _ _ _) h.2⟩
  case istore n =>
    simp only [xi] at h ⊢
    exact ⟨h.1, pI_i (fun _ _ => hk _ _ _ _) h.2⟩
  case astore_n n =>
    simp only [xi] at h ⊢
    exact ⟨h.1, pR_i (fun _ _ => hk _ _ _ _) h.2⟩
  case astore n =>
    simp only [xi] at h ⊢
    exact ⟨h.1, pR_i (fun _ _ => hk _ _ _ _) h.2⟩
  case lstore_n n =>
    simp only [xi] at h ⊢
    exact ⟨h.1, pL_i (fun _ _ => hk _ _ _ _) h.2⟩
  case lstore n =>
    simp only [xi] at h ⊢
    exact ⟨h.1, pL_i (fun _ _ => hk _ _ _ _) h.2⟩
  case iinc n d =>
    simp only [xi] at h ⊢
    refine ⟨h.1, ?_⟩
    replace h := h.2
    generalize lkl n l = z at h ⊢
    rcases z with _ | v
    · exact h.elim
    · cases v <;> first | exact h.elim | exact hk _ _ _ _ h
  case ifCond c o => cases c <;> simp only [xi] at h ⊢ <;> refine pI_i (fun _ _ => bo_i (im_i (hk _ _ _ _)) (im_i (hk _ _ _ _))) h
  case if_icmp c o => cases c <;> simp only [xi] at h ⊢ <;> refine pI_i (fun _ _ => pI_i (fun _ _ => bo_i (im_i (hk _ _ _ _)) (im_i (hk _ _ _ _)))) h
  case tableswitch d lo hi os =>
    simp only [xi] at h ⊢
    exact pI_i (fun _ _ => bo_i (im_i (hk _ _ _ _)) (im_i (im_i (fun ⟨o, h1, h2⟩ => ⟨o, h1, hk _ _ _ _ h2⟩)))) h
  case ldc n => simp only [xi] at h ⊢; generalize kLd (kcl k) n = z at h ⊢; rcases z with _ | v; exact h; cases v <;> first | exact h | exact hk _ _ _ _ h
  case ldc_w n => simp only [xi] at h ⊢; generalize kLd (kcl k) n = z at h ⊢; rcases z with _ | v; exact h; cases v <;> first | exact h | exact hk _ _ _ _ h
  case ldc2_w n => simp only [xi] at h ⊢; generalize kLd (kcl k) n = z at h ⊢; rcases z with _ | v; exact h; cases v <;> first | exact h | exact hk _ _ _ _ h
  case getstatic n => simp only [xi] at h ⊢; generalize kSt (kcl k) n = z at h ⊢; rcases z with _ | v; exact h; exact hk _ _ _ _ h
  case getfield n =>
    simp only [xi] at h ⊢
    refine pR_i (fun a r h => ?_) h
    generalize kFd (kcl k) n = z at h ⊢
    rcases z with _ | ⟨ci, f⟩
    · exact h
    · exact an_i (hk _ _ _ _) h
  case putfield n =>
    simp only [xi] at h ⊢
    generalize kFd (kcl k) n = z at h ⊢
    rcases z with _ | ⟨ci, f⟩
    · exact h
    · refine an_i (fun h => ?_) h
      generalize fk ci f = y at h ⊢
      match y, h with
      | 0, h => exact pI_i (fun _ _ => pR_i (fun _ _ => an_i (hk _ _ _ _))) h
      | 1, h => exact pI_i (fun _ _ => pR_i (fun _ _ => an_i (an_i (hk _ _ _ _)))) h
      | 2, h => exact pL_i (fun _ _ => pR_i (fun _ _ => an_i (hk _ _ _ _))) h
      | 3, h => exact pR_i (fun _ _ => pR_i (fun _ _ => an_i (hk _ _ _ _))) h
  case arraylength =>
    simp only [xi] at h ⊢
    refine pR_i (fun a r h => ?_) h
    generalize lay a = z at h ⊢
    match z, h with
    | (0, _, n), h => exact hk _ _ _ _ h
    | (4, _, n), h => exact hk _ _ _ _ h
  case iaload =>
    simp only [xi] at h ⊢
    refine pI_i (fun i r => pR_i (fun a r h => ?_)) h
    generalize lay a = z at h ⊢
    match z, h with
    | (0, 0, n), h => exact an_i (hk _ _ _ _) h
    | (4, 0, n), h => exact an_i (hk _ _ _ _) h
  case baload =>
    simp only [xi] at h ⊢
    refine pI_i (fun i r => pR_i (fun a r h => ?_)) h
    generalize lay a = z at h ⊢
    match z, h with
    | (0, 1, n), h => exact an_i (hk _ _ _ _) h
    | (0, 2, n), h => exact an_i (hk _ _ _ _) h
  case caload =>
    simp only [xi] at h ⊢
    refine pI_i (fun i r => pR_i (fun a r h => ?_)) h
    generalize lay a = z at h ⊢
    match z, h with
    | (4, 3, n), h => exact an_i (hk _ _ _ _) h
  case laload =>
    simp only [xi] at h ⊢
    refine pI_i (fun i r => pR_i (fun a r h => ?_)) h
    generalize lay a = z at h ⊢
    match z, h with
    | (1, _, n), h => exact an_i (hk _ _ _ _) h
  case aaload =>
    simp only [xi] at h ⊢
    refine pI_i (fun i r => pR_i (fun a r h => ?_)) h
    generalize lay a = z at h ⊢
    match z, h with
    | (2, _, n), h => exact an_i (hk _ _ _ _) h
  case iastore =>
    simp only [xi] at h ⊢
    refine pI_i (fun x r => pI_i (fun i r => pR_i (fun a r h => ?_))) h
    generalize lay a = z at h ⊢
    match z, h with
    | (0, 0, n), h => exact an_i (hk _ _ _ _) h
  case bastore =>
    simp only [xi] at h ⊢
    refine pI_i (fun x r => pI_i (fun i r => pR_i (fun a r h => ?_))) h
    generalize lay a = z at h ⊢
    match z, h with
    | (0, 1, n), h => exact an_i (hk _ _ _ _) h
    | (0, 2, n), h => exact an_i (hk _ _ _ _) h
  case lastore =>
    simp only [xi] at h ⊢
    refine pL_i (fun x r => pI_i (fun i r => pR_i (fun a r h => ?_))) h
    generalize lay a = z at h ⊢
    match z, h with
    | (1, _, n), h => exact an_i (hk _ _ _ _) h
  case invokevirtual n =>
    simp only [xi] at h ⊢
    generalize kCl (kcl k) n = z at h ⊢
    match z, h with
    | some (1, j), h =>
      replace h : (match pops (knp j) st with
        | some (as, .ref b :: r) => lay b = (3, kcl j, kNf (kcl j)) ∧ (r.map fun v => v.category).sum ≤ 8 ∧ kmc j = 0 ∧ kms j = 0 ∧ ca j (.ref b :: as) m (fun rv m' => kk (pc + 3) l (rv.toList ++ r) m')
        | _ => False) := h
      show (match pops (knp j) st with
        | some (as, .ref b :: r) => lay b = (3, kcl j, kNf (kcl j)) ∧ (r.map fun v => v.category).sum ≤ 8 ∧ kmc j = 0 ∧ kms j = 0 ∧ ca2 j (.ref b :: as) m (fun rv m' => kk2 (pc + 3) l (rv.toList ++ r) m')
        | _ => False)
      generalize pops (knp j) st = y at h ⊢
      rcases y with _ | ⟨as, r⟩
      · exact h.elim
      · rcases r with _ | ⟨v, r⟩
        · exact h.elim
        · cases v <;> first | exact h.elim | exact an_i (an_i (an_i (an_i (hcc _ _ _ _ _ (fun _ _ => hk _ _ _ _))))) h
    | some (3, j), h =>
      replace h : (match pops (knp j) st with
        | some (as, .ref b :: r) => (lay b).1 = 5 ∧ (r.map fun v => v.category).sum ≤ 8 ∧ ca j (.ref b :: as) m (fun rv m' => kk (pc + 3) l (rv.toList ++ r) m')
        | _ => False) := h
      show (match pops (knp j) st with
        | some (as, .ref b :: r) => (lay b).1 = 5 ∧ (r.map fun v => v.category).sum ≤ 8 ∧ ca2 j (.ref b :: as) m (fun rv m' => kk2 (pc + 3) l (rv.toList ++ r) m')
        | _ => False)
      generalize pops (knp j) st = y at h ⊢
      rcases y with _ | ⟨as, r⟩
      · exact h.elim
      · rcases r with _ | ⟨v, r⟩
        · exact h.elim
        · cases v <;> first | exact h.elim | exact an_i (an_i (hcc _ _ _ _ _ (fun _ _ => hk _ _ _ _))) h
  case invokestatic n =>
    simp only [xi] at h ⊢
    generalize kCl (kcl k) n = z at h ⊢
    match z, h with
    | some (2, j), h =>
      replace h : (match pops (knp j) st with
        | some (as, r) => (r.map fun v => v.category).sum ≤ 8 ∧ kmc j = 0 ∧ kms j = 0 ∧ ca j as m (fun rv m' => kk (pc + 3) l (rv.toList ++ r) m')
        | none => False) := h
      show (match pops (knp j) st with
        | some (as, r) => (r.map fun v => v.category).sum ≤ 8 ∧ kmc j = 0 ∧ kms j = 0 ∧ ca2 j as m (fun rv m' => kk2 (pc + 3) l (rv.toList ++ r) m')
        | none => False)
      generalize pops (knp j) st = y at h ⊢
      rcases y with _ | ⟨as, r⟩
      · exact h.elim
      · exact an_i (an_i (an_i (hcc _ _ _ _ _ (fun _ _ => hk _ _ _ _)))) h
    | some (5, _), h =>
      try dsimp only at h ⊢
      refine pI_i (fun n r => pI_i (fun dp r => pR_i (fun b r => pI_i (fun sp r => pR_i (fun a r => an_i (an_i (an_i (an_i (fun h => ?_))))))))) h
      generalize lay b = z at h ⊢
      match z, h with
      | (0, 0, nb), h =>
        refine an_i (fun h => ?_) h
        generalize lay a = y at h ⊢
        match y, h with
        | (0, 0, na), h => exact an_i (hk _ _ _ _) h
        | (4, 0, na), h => exact an_i (hk _ _ _ _) h
  all_goals simp only [xi] at h ⊢
  all_goals first
    | exact h
    | exact hk _ _ _ _ h
    | exact pI_i (fun _ _ => hk _ _ _ _) h
    | exact pI_i (fun _ _ => pI_i (fun _ _ => hk _ _ _ _)) h
    | exact pI_i (fun _ _ => pI_i (fun _ _ => an_i (hk _ _ _ _))) h
    | exact pL_i (fun _ _ => hk _ _ _ _) h
    | exact pL_i (fun _ _ => pL_i (fun _ _ => hk _ _ _ _)) h
    | exact pL_i (fun _ _ => pL_i (fun _ _ => an_i (hk _ _ _ _))) h
    | exact pI_i (fun _ _ => pL_i (fun _ _ => hk _ _ _ _)) h
    | exact pV_i (fun _ _ => an_i (hk _ _ _ _)) h
    | exact pV_i (fun _ _ => pV_i (fun _ _ => an_i (an_i (hk _ _ _ _)))) h
    | exact pR_i (fun _ _ => hk _ _ _ _) h
end RI
theorem xe_ri {k : Nat} {ca : Nat → List Value → xM → (Option Value → xM → Prop) → Prop} {Q : Option Value → xM → Prop} (hcd : ∀ j as m, dK (fun Q => ca j as m Q)) (hkr : kr k = 1 ∨ kr k = 2) : ∀ n pc l st m, xe k ca Q n pc l st m → xe k ca (fun rv m => Q rv m ∧ ∃ z : Int32, rv = some (.int z)) n pc l st m := by
  intro n
  induction n with
  | zero => exact fun _ _ _ _ h => h
  | succ n ih =>
    intro pc l st m h
    unfold xe at h ⊢
    generalize lkc pc (kcode k) = z at h ⊢
    rcases z with _ | i
    · exact h
    · exact xi_ri (ca := ca) (ca2 := ca) (fun j as m f g hfg h => ca_i hcd hfg h) ih i hkr pc l st m h
theorem fC_int {j : Nat} {as : List Value} {m : xM} (hj : Nat.ble 271 j = false) (hkr : kr j = 1 ∨ kr j = 2) : fC j as m (fun rv _ => ∃ z : Int32, rv = some (.int z)) := fun d P h => by
  cases d with
  | zero => exact h.elim
  | succ d =>
    unfold xw at h
    rw [hj] at h
    obtain ⟨-, -, -, n, h⟩ : kmc j = 0 ∧ kms j = 0 ∧ (lg_sl as).length ≤ knl j ∧ ∃ n, xe j (xw d) P n 0 (lv_args 0 as) [] m := h
    obtain ⟨rv, m', h1, -⟩ := xe_det (xw_det d) n 0 (lv_args 0 as) [] m _ (xe_ri (xw_det d) hkr n 0 _ _ _ h)
    exact ⟨rv, m', h1⟩
/-! single bits of small numbers; what corners are chapels, as a function -/
theorem bt_nI {k i : Nat} (hi : i < 32) : bt (nI k) i = k.testBit i := by
  show (BitVec.ofNat 32 k).getLsbD i = _
  rw [BitVec.getLsbD_ofNat, decide_eq_true hi, Bool.true_and]
theorem b_1 (i : Nat) : bt 1 i = decide (i = 0) := by
  rcases Nat.lt_or_ge i 32 with h | h
  · exact (by decide +kernel : ∀ i, i < 32 → bt 1 i = decide (i = 0)) i h
  · rw [b_big h, decide_eq_false (by omega)]
theorem has_n {k j : Nat} (hj : j < 31) (hk : k < 2147483648) : nI k >>> (nI j &&& 31) &&& 1 = if k.testBit j then 1 else 0 := by
  refine b_ext (fun i hi => ?_)
  rw [b_and, b_1, b_sshr j (by omega) _ hi]
  by_cases e : i = 0
  · subst e
    rw [if_pos (by omega), bt_nI (by omega), Nat.add_zero]
    cases k.testBit j <;> decide
  · rw [decide_eq_false e, Bool.and_false]
    cases k.testBit j
    · exact (b_0 i).symm
    · rw [if_pos rfl, b_1, decide_eq_false e]
theorem nI_inj {a b : Nat} (ha : a < 2147483648) (hb : b < 2147483648) : nI a = nI b ↔ a = b := by
  refine ⟨fun h => ?_, fun h => by rw [h]⟩
  have := congrArg Int32.toInt h
  rw [nI_toInt ha, nI_toInt hb] at this
  omega
theorem nxlt {a b : Nat} (ha : a < 2147483648) (hb : b < 2147483648) : nI a < nI b ↔ a < b := by
  rw [Int32.lt_iff_toInt_lt, nI_toInt ha, nI_toInt hb]
  omega
theorem nxle {a b : Nat} (ha : a < 2147483648) (hb : b < 2147483648) : nI a ≤ nI b ↔ a ≤ b := by
  rw [Int32.le_iff_toInt_le, nI_toInt ha, nI_toInt hb]
  omega
theorem nI_mul (a b : Nat) : nI a * nI b = nI (a * b) := (Int32.ofNat_mul a b).symm
theorem shl_1 : ∀ k : Fin 16, (1 : Int32) <<< (nI k.val &&& 31) = nI (2 ^ k.val) := by decide +kernel
theorem shl_n {k : Nat} (hk : k < 16) : (1 : Int32) <<< (nI k &&& 31) = nI (2 ^ k) := shl_1 ⟨k, hk⟩
/-- the open streets at c among the first s -/
def opc (A B : Nat → Nat) (w c : Nat) : Nat → Nat
  | 0 => 0
  | s + 1 => opc A B w c s + (if w.testBit s = false ∧ (A s = c ∨ B s = c) then 1 else 0)
theorem opc_s {A B : Nat → Nat} {w c s : Nat} : opc A B w c (s + 1) = opc A B w c s + (if w.testBit s = false ∧ (A s = c ∨ B s = c) then 1 else 0) := rfl
theorem opc_le {A B : Nat → Nat} {w c : Nat} : ∀ s, opc A B w c s ≤ s
  | 0 => Nat.le_refl _
  | s + 1 => by
    have := opc_le (A := A) (B := B) (w := w) (c := c) s
    unfold opc
    split <;> omega
/-- the chapels among the first c corners -/
def chp (A B : Nat → Nat) (S w : Nat) : Nat → Nat
  | 0 => 0
  | c + 1 => chp A B S w c ||| (if opc A B w c S = 1 then 2 ^ c else 0)
theorem chp_s {A B : Nat → Nat} {S w c : Nat} : chp A B S w (c + 1) = chp A B S w c ||| (if opc A B w c S = 1 then 2 ^ c else 0) := rfl
theorem chp_lt {A B : Nat → Nat} {S w : Nat} : ∀ c, chp A B S w c < 2 ^ c
  | 0 => by unfold chp; decide
  | c + 1 => by
    have h := chp_lt (A := A) (B := B) (S := S) (w := w) c
    have h2 : (2 : Nat) ^ c < 2 ^ (c + 1) := Nat.pow_lt_pow_right (by omega) (by omega)
    unfold chp
    refine Nat.or_lt_two_pow (Nat.lt_trans h h2) ?_
    split
    · exact h2
    · exact Nat.two_pow_pos _
theorem chp_bit {A B : Nat → Nat} {S w k : Nat} : ∀ c, (chp A B S w c).testBit k = decide (k < c ∧ opc A B w k S = 1)
  | 0 => by unfold chp; simp
  | c + 1 => by
    unfold chp
    rw [Nat.testBit_or, chp_bit c]
    by_cases e : k = c
    · subst e
      by_cases h : opc A B w k S = 1
      · simp [h]
      · simp [h]
    · by_cases h : opc A B w c S = 1
      · rw [if_pos h, Nat.testBit_two_pow_of_ne (fun q => e q.symm)]
        have e2 : k < c + 1 ↔ k < c := by omega
        simp [e2]
      · rw [if_neg h]
        have e2 : k < c + 1 ↔ k < c := by omega
        simp [e2]
theorem k196_0 : lkc 0 (kcode 196) = some (.iconst 0) := by decide +kernel
theorem k196_1 : lkc 1 (kcode 196) = some (.istore_n 3) := by decide +kernel
theorem k196_2 : lkc 2 (kcode 196) = some (.iconst 0) := by decide +kernel
theorem k196_3 : lkc 3 (kcode 196) = some (.istore 4) := by decide +kernel
theorem k196_5 : lkc 5 (kcode 196) = some (.iload 4) := by decide +kernel
theorem k196_7 : lkc 7 (kcode 196) = some (.aload_n 0) := by decide +kernel
theorem k196_8 : lkc 8 (kcode 196) = some (.getfield 283) := by decide +kernel
theorem k196_11 : lkc 11 (kcode 196) = some (.if_icmp .ge 54) := by decide +kernel
theorem k196_14 : lkc 14 (kcode 196) = some (.iload_n 1) := by decide +kernel
theorem k196_15 : lkc 15 (kcode 196) = some (.iload 4) := by decide +kernel
theorem k196_17 : lkc 17 (kcode 196) = some (.invokestatic 223) := by decide +kernel
theorem k196_20 : lkc 20 (kcode 196) = some (.ifCond .ne 39) := by decide +kernel
theorem k196_23 : lkc 23 (kcode 196) = some (.iload_n 3) := by decide +kernel
theorem k196_24 : lkc 24 (kcode 196) = some (.aload_n 0) := by decide +kernel
theorem k196_25 : lkc 25 (kcode 196) = some (.getfield 40) := by decide +kernel
theorem k196_28 : lkc 28 (kcode 196) = some (.iconst 4) := by decide +kernel
theorem k196_29 : lkc 29 (kcode 196) = some (.iload 4) := by decide +kernel
theorem k196_31 : lkc 31 (kcode 196) = some (.imul) := by decide +kernel
theorem k196_32 : lkc 32 (kcode 196) = some (.iaload) := by decide +kernel
theorem k196_33 : lkc 33 (kcode 196) = some (.iload_n 2) := by decide +kernel
theorem k196_34 : lkc 34 (kcode 196) = some (.if_icmp .eq 18) := by decide +kernel
theorem k196_37 : lkc 37 (kcode 196) = some (.aload_n 0) := by decide +kernel
theorem k196_38 : lkc 38 (kcode 196) = some (.getfield 40) := by decide +kernel
theorem k196_41 : lkc 41 (kcode 196) = some (.iconst 4) := by decide +kernel
theorem k196_42 : lkc 42 (kcode 196) = some (.iload 4) := by decide +kernel
theorem k196_44 : lkc 44 (kcode 196) = some (.imul) := by decide +kernel
theorem k196_45 : lkc 45 (kcode 196) = some (.iconst 1) := by decide +kernel
theorem k196_46 : lkc 46 (kcode 196) = some (.iadd) := by decide +kernel
theorem k196_47 : lkc 47 (kcode 196) = some (.iaload) := by decide +kernel
theorem k196_48 : lkc 48 (kcode 196) = some (.iload_n 2) := by decide +kernel
theorem k196_49 : lkc 49 (kcode 196) = some (.if_icmp .ne 7) := by decide +kernel
theorem k196_52 : lkc 52 (kcode 196) = some (.iconst 1) := by decide +kernel
theorem k196_53 : lkc 53 (kcode 196) = some (.goto 4) := by decide +kernel
theorem k196_56 : lkc 56 (kcode 196) = some (.iconst 0) := by decide +kernel
theorem k196_57 : lkc 57 (kcode 196) = some (.iadd) := by decide +kernel
theorem k196_58 : lkc 58 (kcode 196) = some (.istore_n 3) := by decide +kernel
theorem k196_59 : lkc 59 (kcode 196) = some (.iinc 4 1) := by decide +kernel
theorem k196_62 : lkc 62 (kcode 196) = some (.goto (-57)) := by decide +kernel
theorem k196_65 : lkc 65 (kcode 196) = some (.iload_n 3) := by decide +kernel
theorem k196_66 : lkc 66 (kcode 196) = some (.ireturn) := by decide +kernel
theorem k197_0 : lkc 0 (kcode 197) = some (.iconst 0) := by decide +kernel
theorem k197_1 : lkc 1 (kcode 197) = some (.istore_n 2) := by decide +kernel
theorem k197_2 : lkc 2 (kcode 197) = some (.iconst 0) := by decide +kernel
theorem k197_3 : lkc 3 (kcode 197) = some (.istore_n 3) := by decide +kernel
theorem k197_4 : lkc 4 (kcode 197) = some (.iload_n 3) := by decide +kernel
theorem k197_5 : lkc 5 (kcode 197) = some (.aload_n 0) := by decide +kernel
theorem k197_6 : lkc 6 (kcode 197) = some (.getfield 280) := by decide +kernel
theorem k197_9 : lkc 9 (kcode 197) = some (.if_icmp .ge 29) := by decide +kernel
theorem k197_12 : lkc 12 (kcode 197) = some (.iload_n 2) := by decide +kernel
theorem k197_13 : lkc 13 (kcode 197) = some (.aload_n 0) := by decide +kernel
theorem k197_14 : lkc 14 (kcode 197) = some (.iload_n 1) := by decide +kernel
theorem k197_15 : lkc 15 (kcode 197) = some (.iload_n 3) := by decide +kernel
theorem k197_16 : lkc 16 (kcode 197) = some (.invokevirtual 298) := by decide +kernel
theorem k197_19 : lkc 19 (kcode 197) = some (.iconst 1) := by decide +kernel
theorem k197_20 : lkc 20 (kcode 197) = some (.if_icmp .ne 9) := by decide +kernel
theorem k197_23 : lkc 23 (kcode 197) = some (.iconst 1) := by decide +kernel
theorem k197_24 : lkc 24 (kcode 197) = some (.iload_n 3) := by decide +kernel
theorem k197_25 : lkc 25 (kcode 197) = some (.ishl) := by decide +kernel
theorem k197_26 : lkc 26 (kcode 197) = some (.goto 4) := by decide +kernel
theorem k197_29 : lkc 29 (kcode 197) = some (.iconst 0) := by decide +kernel
theorem k197_30 : lkc 30 (kcode 197) = some (.ior) := by decide +kernel
theorem k197_31 : lkc 31 (kcode 197) = some (.istore_n 2) := by decide +kernel
theorem k197_32 : lkc 32 (kcode 197) = some (.iinc 3 1) := by decide +kernel
theorem k197_35 : lkc 35 (kcode 197) = some (.goto (-31)) := by decide +kernel
theorem k197_38 : lkc 38 (kcode 197) = some (.iload_n 2) := by decide +kernel
theorem k197_39 : lkc 39 (kcode 197) = some (.ireturn) := by decide +kernel
/-! forward: the reference's chapels -/
/-- the reference's town -/
def mT (m : xM) (C S : Nat) (A B Y : Nat → Nat) : Prop := m.1 314 25 = nI C ∧ m.1 314 26 = nI S ∧ C ≤ 8 ∧ S ≤ 12 ∧ ∀ s, s < S → m.1 320 (4 * s) = nI (A s) ∧ m.1 320 (4 * s + 1) = nI (B s) ∧ m.1 320 (4 * s + 2) = nI (Y s) ∧ A s < C ∧ B s < C ∧ A s ≠ B s ∧ 1 ≤ Y s ∧ Y s ≤ 40
theorem c_hasN {m : xM} {k j : Nat} (hk : k < 2147483648) (hj : j < 31) : fC 156 [.int (nI k), .int (nI j)] m (fun rv m' => rv = some (.int (if k.testBit j then 1 else 0)) ∧ m = m') := fun d P h => by
  obtain ⟨rv, m', hp, ho, e⟩ := c_has d P h
  refine ⟨rv, m', hp, ?_, e⟩
  rw [has_n hj hk] at ho
  cases hb : k.testBit j with
  | true =>
    rw [hb] at ho
    rcases ho with ⟨-, h⟩ | ⟨h, -⟩
    · exact h
    · exact absurd rfl h
  | false =>
    rw [hb] at ho
    rcases ho with ⟨h, -⟩ | ⟨-, h⟩
    · exact absurd h (by decide)
    · exact h
theorem c_openAt {m : xM} {C S w c : Nat} {A B Y : Nat → Nat} (hr : rS m) (hT : mT m C S A B Y) (hw : w < 65536) (hc : c < 65536) : fC 196 [.ref 314, .int (nI w), .int (nI c)] m (fun rv m' => rv = some (.int (nI (opc A B w c S))) ∧ m = m') := by
  refine fC_of (by decide) (fun d n P H => ?_)
  obtain ⟨t1, t2, t3, t4, t5⟩ := id hT
  have key : ∀ n e, e ≤ S → xF 196 (xw d) P (n + 1) 5 [(4, .int (nI e)), (3, .int (nI (opc A B w c e))), (0, .ref 314), (1, .int (nI w)), (2, .int (nI c))] [] m → ∃ rv m', P rv m' ∧ rv = some (.int (nI (opc A B w c S))) ∧ m = m' := by
    intro n
    induction n with
    | zero => exact fun e _ H => (xF_0 (f1_iload H k196_5 rfl)).elim
    | succ n ih =>
      intro e he H
      have ho := opc_le (A := A) (B := B) (w := w) (c := c) e
      replace H := f1_iload H k196_5 rfl
      replace H := f_aload_n H k196_7 rfl
      replace H := f_gi H k196_8 (ci := 12) (f := 26) (by decide +kernel) (by decide)
      rw [t2] at H
      have Hbr := f_icmp_ge H k196_11 (t := 65) (by decide)
      clear H
      rcases Hbr with ⟨c0, H⟩ | ⟨c0, H⟩
      · rw [nxle (by omega) (by omega)] at c0
        have ee : e = S := by omega
        subst ee
        replace H := f_iload_n H k196_65 rfl
        replace H := f_iret H k196_66
        exact ⟨_, _, H, rfl, rfl⟩
      · rw [nxle (by omega) (by omega)] at c0
        obtain ⟨s1, s2, s3, s4, s5, -⟩ := t5 e (by omega)
        replace H := f_iload_n H k196_14 rfl
        replace H := f_iload H k196_15 rfl
        obtain ⟨rv, m2, ⟨rfl, e3⟩, h9_17⟩ := f_ins H k196_17 (by decide +kernel) (as := [.int _, .int _]) (r := []) (by rfl) (c_hasN (by omega) (by omega))
        replace H := h9_17
        rw [← e3] at H
        clear e3
        cases hb : w.testBit e with
        | true =>
          rw [hb] at H
          replace H := f_if_ne_t H k196_20 (by decide) (t := 59) (by decide)
          replace H := f_iinc H k196_59 rfl (l2 := [(4, .int (nI e + 1)), (3, .int (nI (opc A B w c e))), (0, .ref 314), (1, .int (nI w)), (2, .int (nI c))]) rfl
          replace H := f_goto H k196_62 (t := 5) (by decide)
          rw [nI_s] at H
          refine ih (e + 1) (by omega) ?_
          rw [show opc A B w c (e + 1) = opc A B w c e by rw [opc_s, if_neg (fun q => by rw [hb] at q; cases q.1), Nat.add_zero]]
          exact H
        | false =>
          rw [hb] at H
          replace H := f_if_ne_f H k196_20 rfl
          have yes : ∀ n, (A e = c ∨ B e = c) → xF 196 (xw d) P (n + 1) 52 [(4, .int (nI e)), (3, .int (nI (opc A B w c e))), (0, .ref 314), (1, .int (nI w)), (2, .int (nI c))] [.int (nI (opc A B w c e))] m → xF 196 (xw d) P (n + 1) 5 [(4, .int (nI (e + 1))), (3, .int (nI (opc A B w c (e + 1)))), (0, .ref 314), (1, .int (nI w)), (2, .int (nI c))] [] m := by
            intro n h H
            replace H := f_iconst H k196_52 (v := 1) (by decide)
            replace H := f_goto H k196_53 (t := 57) (by decide)
            replace H := f_iadd H k196_57
            rw [nI_s, show opc A B w c e + 1 = opc A B w c (e + 1) by rw [opc_s, if_pos ⟨hb, h⟩]] at H
            replace H := f_istore_n H k196_58 (l2 := [(3, .int (nI (opc A B w c (e + 1)))), (4, .int (nI e)), (0, .ref 314), (1, .int (nI w)), (2, .int (nI c))]) rfl
            replace H := f_iinc H k196_59 rfl (l2 := [(4, .int (nI e + 1)), (3, .int (nI (opc A B w c (e + 1)))), (0, .ref 314), (1, .int (nI w)), (2, .int (nI c))]) rfl
            replace H := f_goto H k196_62 (t := 5) (by decide)
            rw [nI_s] at H
            exact H
          replace H := f_iload_n H k196_23 rfl
          replace H := f_aload_n H k196_24 rfl
          replace H := f_gr H k196_25 (ci := 12) (f := 19) (x := 320) (by decide +kernel) (by decide) (hr 314 19 320 rfl)
          replace H := f_iconst H k196_28 (v := 4) (by decide)
          replace H := f_iload H k196_29 rfl
          replace H := f_imul H k196_31
          have Hob := f_iald H k196_32 (c := 48) (by decide)
          clear H
          obtain ⟨hb32, H⟩ := Hob
          replace H := f_iload_n H k196_33 rfl
          rw [show (4 : Int32) = nI 4 from rfl, nI_mul, nI_clamp (by omega), s1] at H
          have Hbr := f_icmp_eq H k196_34 (t := 52) (by decide)
          clear H
          rcases Hbr with ⟨c1, H⟩ | ⟨c1, H⟩
          · rw [nI_inj (by omega) (by omega)] at c1
            exact ih (e + 1) (by omega) (yes _ (Or.inl c1) H)
          · rw [nI_inj (by omega) (by omega)] at c1
            replace H := f_aload_n H k196_37 rfl
            replace H := f_gr H k196_38 (ci := 12) (f := 19) (x := 320) (by decide +kernel) (by decide) (hr 314 19 320 rfl)
            replace H := f_iconst H k196_41 (v := 4) (by decide)
            replace H := f_iload H k196_42 rfl
            replace H := f_imul H k196_44
            replace H := f_iconst H k196_45 (v := 1) (by decide)
            replace H := f_iadd H k196_46
            have Hob := f_iald H k196_47 (c := 48) (by decide)
            clear H
            obtain ⟨hb47, H⟩ := Hob
            replace H := f_iload_n H k196_48 rfl
            rw [show (4 : Int32) = nI 4 from rfl, nI_mul, nI_s, nI_clamp (by omega), s2] at H
            have Hbr := f_icmp_ne H k196_49 (t := 56) (by decide)
            clear H
            rcases Hbr with ⟨c2, H⟩ | ⟨c2, H⟩
            · rw [nI_inj (by omega) (by omega)] at c2
              replace H := f_iconst H k196_56 (v := 0) (by decide)
              replace H := f_iadd H k196_57
              rw [show nI (opc A B w c e) + 0 = nI (opc A B w c (e + 1)) by rw [show opc A B w c (e + 1) = opc A B w c e by rw [opc_s, if_neg (fun q => q.2.elim c1 c2), Nat.add_zero]]; exact r_ad _ 0] at H
              replace H := f_istore_n H k196_58 (l2 := [(3, .int (nI (opc A B w c (e + 1)))), (4, .int (nI e)), (0, .ref 314), (1, .int (nI w)), (2, .int (nI c))]) rfl
              replace H := f_iinc H k196_59 rfl (l2 := [(4, .int (nI e + 1)), (3, .int (nI (opc A B w c (e + 1)))), (0, .ref 314), (1, .int (nI w)), (2, .int (nI c))]) rfl
              replace H := f_goto H k196_62 (t := 5) (by decide)
              rw [nI_s] at H
              exact ih (e + 1) (by omega) H
            · rw [nI_inj (by omega) (by omega)] at c2
              exact ih (e + 1) (by omega) (yes _ (Or.inr c2) H)
  replace H := f_iconst H k196_0 (v := 0) (by decide)
  replace H := f_istore_n H k196_1 (l2 := [(3, .int 0), (0, .ref 314), (1, .int (nI w)), (2, .int (nI c))]) rfl
  replace H := f_iconst H k196_2 (v := 0) (by decide)
  replace H := f_istore H k196_3 (l2 := [(4, .int 0), (3, .int 0), (0, .ref 314), (1, .int (nI w)), (2, .int (nI c))]) rfl
  exact key n 0 (Nat.zero_le _) (f_up H (Nat.le_succ _))
theorem c_mchapels {m : xM} {C S w : Nat} {A B Y : Nat → Nat} (hr : rS m) (hT : mT m C S A B Y) (hw : w < 65536) : fC 197 [.ref 314, .int (nI w)] m (fun rv m' => rv = some (.int (nI (chp A B S w C))) ∧ m = m') := by
  refine fC_of (by decide) (fun d n P H => ?_)
  obtain ⟨t1, t2, t3, t4, t5⟩ := id hT
  have key : ∀ n e, e ≤ C → xF 197 (xw d) P (n + 1) 4 [(3, .int (nI e)), (2, .int (nI (chp A B S w e))), (0, .ref 314), (1, .int (nI w))] [] m → ∃ rv m', P rv m' ∧ rv = some (.int (nI (chp A B S w C))) ∧ m = m' := by
    intro n
    induction n with
    | zero => exact fun e _ H => (xF_0 (f1_iload_n H k197_4 rfl)).elim
    | succ n ih =>
      intro e he H
      replace H := f1_iload_n H k197_4 rfl
      replace H := f_aload_n H k197_5 rfl
      replace H := f_gi H k197_6 (ci := 12) (f := 25) (by decide +kernel) (by decide)
      rw [t1] at H
      have Hbr := f_icmp_ge H k197_9 (t := 38) (by decide)
      clear H
      rcases Hbr with ⟨c0, H⟩ | ⟨c0, H⟩
      · rw [nxle (by omega) (by omega)] at c0
        have ee : e = C := by omega
        subst ee
        replace H := f_iload_n H k197_38 rfl
        replace H := f_iret H k197_39
        exact ⟨_, _, H, rfl, rfl⟩
      · rw [nxle (by omega) (by omega)] at c0
        have ho := opc_le (A := A) (B := B) (w := w) (c := e) S
        replace H := f_iload_n H k197_12 rfl
        replace H := f_aload_n H k197_13 rfl
        replace H := f_iload_n H k197_14 rfl
        replace H := f_iload_n H k197_15 rfl
        obtain ⟨rv, m2, ⟨rfl, e3⟩, h9_16⟩ := f_inv H k197_16 (by decide +kernel) (as := [.int _, .int _]) (b := 314) (r := [.int _]) (by rfl) (c_openAt hr hT hw (by omega))
        replace H := h9_16
        rw [← e3] at H
        clear e3
        replace H := f_iconst H k197_19 (v := 1) (by decide)
        have Hbr := f_icmp_ne H k197_20 (t := 29) (by decide)
        clear H
        rcases Hbr with ⟨c1, H⟩ | ⟨c1, H⟩
        · have c2 : ¬ opc A B w e S = 1 := fun q => c1 (by rw [q]; rfl)
          replace H := f_iconst H k197_29 (v := 0) (by decide)
          replace H := f_ior H k197_30
          rw [show nI (chp A B S w e) ||| 0 = nI (chp A B S w (e + 1)) by rw [show chp A B S w (e + 1) = chp A B S w e ||| 0 by rw [chp_s, if_neg c2]]; exact fa_or _ 0] at H
          replace H := f_istore_n H k197_31 (l2 := [(2, .int (nI (chp A B S w (e + 1)))), (3, .int (nI e)), (0, .ref 314), (1, .int (nI w))]) rfl
          replace H := f_iinc H k197_32 rfl (l2 := [(3, .int (nI e + 1)), (2, .int (nI (chp A B S w (e + 1)))), (0, .ref 314), (1, .int (nI w))]) rfl
          replace H := f_goto H k197_35 (t := 4) (by decide)
          rw [nI_s] at H
          exact ih (e + 1) (by omega) H
        · have c2 : opc A B w e S = 1 := by rw [show (1 : Int32) = nI 1 from rfl, nI_inj (by omega) (by omega)] at c1; exact c1
          replace H := f_iconst H k197_23 (v := 1) (by decide)
          replace H := f_iload_n H k197_24 rfl
          replace H := f_ishl H k197_25
          replace H := f_goto H k197_26 (t := 30) (by decide)
          replace H := f_ior H k197_30
          rw [shl_n (by omega), show nI (chp A B S w e) ||| nI (2 ^ e) = nI (chp A B S w (e + 1)) by rw [show chp A B S w (e + 1) = chp A B S w e ||| 2 ^ e by rw [chp_s, if_pos c2]]; exact fa_or _ _] at H
          replace H := f_istore_n H k197_31 (l2 := [(2, .int (nI (chp A B S w (e + 1)))), (3, .int (nI e)), (0, .ref 314), (1, .int (nI w))]) rfl
          replace H := f_iinc H k197_32 rfl (l2 := [(3, .int (nI e + 1)), (2, .int (nI (chp A B S w (e + 1)))), (0, .ref 314), (1, .int (nI w))]) rfl
          replace H := f_goto H k197_35 (t := 4) (by decide)
          rw [nI_s] at H
          exact ih (e + 1) (by omega) H
  replace H := f_iconst H k197_0 (v := 0) (by decide)
  replace H := f_istore_n H k197_1 (l2 := [(2, .int 0), (0, .ref 314), (1, .int (nI w))]) rfl
  replace H := f_iconst H k197_2 (v := 0) (by decide)
  replace H := f_istore_n H k197_3 (l2 := [(3, .int 0), (2, .int 0), (0, .ref 314), (1, .int (nI w))]) rfl
  exact key n 0 (Nat.zero_le _) (f_up H (Nat.le_succ _))
/-! bits of a mask counted; the class's chapels are the reference's -/
def pcv (v : Nat) : Nat → Nat
  | 0 => 0
  | s + 1 => pcv v s + (if v.testBit s then 1 else 0)
theorem pcv_le (v : Nat) : ∀ s, pcv v s ≤ s
  | 0 => Nat.le_refl _
  | s + 1 => by
    have := pcv_le v s
    unfold pcv
    split <;> omega
def opb (S w : Nat) : Nat := (2 ^ S - 1) ^^^ ((2 ^ S - 1) &&& w)
theorem opb_bit {S w i : Nat} : (opb S w).testBit i = (decide (i < S) && !(w.testBit i)) := by
  unfold opb
  rw [Nat.testBit_xor, Nat.testBit_and, Nat.testBit_two_pow_sub_one]
  cases decide (i < S) <;> cases w.testBit i <;> rfl
theorem opb_lt {S w : Nat} : opb S w < 2 ^ S := by
  refine Nat.lt_pow_two_of_testBit _ (fun i hi => ?_)
  rw [opb_bit, decide_eq_false (by omega), Bool.false_and]
theorem msk_1 : ∀ k : Fin 16, (1 : Int32) <<< (nI k.val &&& 31) - 1 = nI (2 ^ k.val - 1) := by decide +kernel
theorem opb_n {S w : Nat} (hS : S < 16) : (nI w ^^^ (-1)) &&& ((1 : Int32) <<< (nI S &&& 31) - 1) = nI (opb S w) := by
  rw [msk_1 ⟨S, hS⟩]
  refine b_ext (fun i hi => ?_)
  rw [b_and, b_xor, bt_nI hi, bt_nI hi, bt_nI hi, b_m1 i hi, opb_bit, Nat.testBit_two_pow_sub_one]
  cases w.testBit i <;> cases decide (i < S) <;> rfl
/-- the streets that touch c among the first s -/
def tchN (A B : Nat → Nat) (c : Nat) : Nat → Nat
  | 0 => 0
  | s + 1 => tchN A B c s ||| (if A s = c ∨ B s = c then 2 ^ s else 0)
theorem tchN_lt {A B : Nat → Nat} {c : Nat} : ∀ s, tchN A B c s < 2 ^ s
  | 0 => by unfold tchN; decide
  | s + 1 => by
    have h := tchN_lt (A := A) (B := B) (c := c) s
    have h2 : (2 : Nat) ^ s < 2 ^ (s + 1) := Nat.pow_lt_pow_right (by omega) (by omega)
    unfold tchN
    refine Nat.or_lt_two_pow (Nat.lt_trans h h2) ?_
    split
    · exact h2
    · exact Nat.two_pow_pos _
theorem tchN_bit {A B : Nat → Nat} {c k : Nat} : ∀ s, (tchN A B c s).testBit k = decide (k < s ∧ (A k = c ∨ B k = c))
  | 0 => by unfold tchN; simp
  | s + 1 => by
    unfold tchN
    rw [Nat.testBit_or, tchN_bit s]
    by_cases e : k = s
    · subst e
      by_cases h : A k = c ∨ B k = c
      · simp [h]
      · simp [h]
    · have e2 : k < s + 1 ↔ k < s := by omega
      by_cases h : A s = c ∨ B s = c
      · rw [if_pos h, Nat.testBit_two_pow_of_ne (fun q => e q.symm)]
        simp [e2]
      · rw [if_neg h]
        simp [e2]
theorem pcv_ext {u v : Nat} : ∀ s, (∀ i, i < s → u.testBit i = v.testBit i) → pcv u s = pcv v s
  | 0, _ => rfl
  | s + 1, h => by
    unfold pcv
    rw [pcv_ext s (fun i hi => h i (by omega)), h s (by omega)]
theorem pcv_up {v s : Nat} : ∀ k, (∀ i, s ≤ i → v.testBit i = false) → pcv v (s + k) = pcv v s
  | 0, _ => rfl
  | k + 1, h => by
    show pcv v (s + k) + (if v.testBit (s + k) then 1 else 0) = _
    rw [pcv_up k h, h (s + k) (by omega)]
    rfl
theorem pcv_opc {A B : Nat → Nat} {S w c o : Nat} (ho : ∀ i, i < S → o.testBit i = !(w.testBit i)) : ∀ s, s ≤ S → pcv (o &&& tchN A B c S) s = opc A B w c s
  | 0, _ => rfl
  | s + 1, h => by
    unfold pcv opc
    rw [pcv_opc ho s (by omega), Nat.testBit_and, ho s (by omega), tchN_bit]
    by_cases e : A s = c ∨ B s = c
    · cases hw : w.testBit s
      · simp [e, show s < S by omega]
      · simp [e]
    · cases hw : w.testBit s
      · simp [e]
      · simp [e]
theorem pcv_12 {A B : Nat → Nat} {S w c o : Nat} (hS : S ≤ 12) (ho : ∀ i, i < S → o.testBit i = !(w.testBit i)) : pcv (o &&& tchN A B c S) 12 = opc A B w c S := by
  have h : ∀ i, S ≤ i → (o &&& tchN A B c S).testBit i = false := fun i hi => by
    rw [Nat.testBit_and, tchN_bit, decide_eq_false (by omega), Bool.and_false]
  have := pcv_up (12 - S) h
  rw [show S + (12 - S) = 12 by omega] at this
  rw [this, pcv_opc ho S (Nat.le_refl _)]
theorem k52_0 : lkc 0 (kcode 52) = some (.iload_n 1) := by decide +kernel
theorem k52_1 : lkc 1 (kcode 52) = some (.iconst (-1)) := by decide +kernel
theorem k52_2 : lkc 2 (kcode 52) = some (.ixor) := by decide +kernel
theorem k52_3 : lkc 3 (kcode 52) = some (.iconst 1) := by decide +kernel
theorem k52_4 : lkc 4 (kcode 52) = some (.aload_n 0) := by decide +kernel
theorem k52_5 : lkc 5 (kcode 52) = some (.getfield 30) := by decide +kernel
theorem k52_8 : lkc 8 (kcode 52) = some (.ishl) := by decide +kernel
theorem k52_9 : lkc 9 (kcode 52) = some (.iconst 1) := by decide +kernel
theorem k52_10 : lkc 10 (kcode 52) = some (.isub) := by decide +kernel
theorem k52_11 : lkc 11 (kcode 52) = some (.iand) := by decide +kernel
theorem k52_12 : lkc 12 (kcode 52) = some (.ireturn) := by decide +kernel
theorem k53_0 : lkc 0 (kcode 53) = some (.iconst 0) := by decide +kernel
theorem k53_1 : lkc 1 (kcode 53) = some (.istore_n 2) := by decide +kernel
theorem k53_2 : lkc 2 (kcode 53) = some (.iconst 0) := by decide +kernel
theorem k53_3 : lkc 3 (kcode 53) = some (.istore_n 3) := by decide +kernel
theorem k53_4 : lkc 4 (kcode 53) = some (.iload_n 3) := by decide +kernel
theorem k53_5 : lkc 5 (kcode 53) = some (.aload_n 0) := by decide +kernel
theorem k53_6 : lkc 6 (kcode 53) = some (.getfield 26) := by decide +kernel
theorem k53_9 : lkc 9 (kcode 53) = some (.if_icmp .ge 30) := by decide +kernel
theorem k53_12 : lkc 12 (kcode 53) = some (.iload_n 1) := by decide +kernel
theorem k53_13 : lkc 13 (kcode 53) = some (.aload_n 0) := by decide +kernel
theorem k53_14 : lkc 14 (kcode 53) = some (.getfield 23) := by decide +kernel
theorem k53_17 : lkc 17 (kcode 53) = some (.iload_n 3) := by decide +kernel
theorem k53_18 : lkc 18 (kcode 53) = some (.iaload) := by decide +kernel
theorem k53_19 : lkc 19 (kcode 53) = some (.iand) := by decide +kernel
theorem k53_20 : lkc 20 (kcode 53) = some (.invokestatic 141) := by decide +kernel
theorem k53_23 : lkc 23 (kcode 53) = some (.iconst 1) := by decide +kernel
theorem k53_24 : lkc 24 (kcode 53) = some (.if_icmp .ne 9) := by decide +kernel
theorem k53_27 : lkc 27 (kcode 53) = some (.iload_n 2) := by decide +kernel
theorem k53_28 : lkc 28 (kcode 53) = some (.iconst 1) := by decide +kernel
theorem k53_29 : lkc 29 (kcode 53) = some (.iload_n 3) := by decide +kernel
theorem k53_30 : lkc 30 (kcode 53) = some (.ishl) := by decide +kernel
theorem k53_31 : lkc 31 (kcode 53) = some (.ior) := by decide +kernel
theorem k53_32 : lkc 32 (kcode 53) = some (.istore_n 2) := by decide +kernel
theorem k53_33 : lkc 33 (kcode 53) = some (.iinc 3 1) := by decide +kernel
theorem k53_36 : lkc 36 (kcode 53) = some (.goto (-32)) := by decide +kernel
theorem k53_39 : lkc 39 (kcode 53) = some (.iload_n 2) := by decide +kernel
theorem k53_40 : lkc 40 (kcode 53) = some (.ireturn) := by decide +kernel
theorem k264_0 : lkc 0 (kcode 264) = some (.iload_n 0) := by decide +kernel
theorem k264_1 : lkc 1 (kcode 264) = some (.iload_n 0) := by decide +kernel
theorem k264_2 : lkc 2 (kcode 264) = some (.iconst 1) := by decide +kernel
theorem k264_3 : lkc 3 (kcode 264) = some (.iushr) := by decide +kernel
theorem k264_4 : lkc 4 (kcode 264) = some (.ldc_w 265) := by decide +kernel
theorem k264_7 : lkc 7 (kcode 264) = some (.iand) := by decide +kernel
theorem k264_8 : lkc 8 (kcode 264) = some (.isub) := by decide +kernel
theorem k264_9 : lkc 9 (kcode 264) = some (.istore_n 0) := by decide +kernel
theorem k264_10 : lkc 10 (kcode 264) = some (.iload_n 0) := by decide +kernel
theorem k264_11 : lkc 11 (kcode 264) = some (.ldc_w 266) := by decide +kernel
theorem k264_14 : lkc 14 (kcode 264) = some (.iand) := by decide +kernel
theorem k264_15 : lkc 15 (kcode 264) = some (.iload_n 0) := by decide +kernel
theorem k264_16 : lkc 16 (kcode 264) = some (.iconst 2) := by decide +kernel
theorem k264_17 : lkc 17 (kcode 264) = some (.iushr) := by decide +kernel
theorem k264_18 : lkc 18 (kcode 264) = some (.ldc_w 266) := by decide +kernel
theorem k264_21 : lkc 21 (kcode 264) = some (.iand) := by decide +kernel
theorem k264_22 : lkc 22 (kcode 264) = some (.iadd) := by decide +kernel
theorem k264_23 : lkc 23 (kcode 264) = some (.istore_n 0) := by decide +kernel
theorem k264_24 : lkc 24 (kcode 264) = some (.iload_n 0) := by decide +kernel
theorem k264_25 : lkc 25 (kcode 264) = some (.iload_n 0) := by decide +kernel
theorem k264_26 : lkc 26 (kcode 264) = some (.iconst 4) := by decide +kernel
theorem k264_27 : lkc 27 (kcode 264) = some (.iushr) := by decide +kernel
theorem k264_28 : lkc 28 (kcode 264) = some (.iadd) := by decide +kernel
theorem k264_29 : lkc 29 (kcode 264) = some (.ldc_w 267) := by decide +kernel
theorem k264_32 : lkc 32 (kcode 264) = some (.iand) := by decide +kernel
theorem k264_33 : lkc 33 (kcode 264) = some (.istore_n 0) := by decide +kernel
theorem k264_34 : lkc 34 (kcode 264) = some (.iload_n 0) := by decide +kernel
theorem k264_35 : lkc 35 (kcode 264) = some (.iload_n 0) := by decide +kernel
theorem k264_36 : lkc 36 (kcode 264) = some (.bipush 8) := by decide +kernel
theorem k264_38 : lkc 38 (kcode 264) = some (.iushr) := by decide +kernel
theorem k264_39 : lkc 39 (kcode 264) = some (.iadd) := by decide +kernel
theorem k264_40 : lkc 40 (kcode 264) = some (.istore_n 0) := by decide +kernel
theorem k264_41 : lkc 41 (kcode 264) = some (.iload_n 0) := by decide +kernel
theorem k264_42 : lkc 42 (kcode 264) = some (.iload_n 0) := by decide +kernel
theorem k264_43 : lkc 43 (kcode 264) = some (.bipush 16) := by decide +kernel
theorem k264_45 : lkc 45 (kcode 264) = some (.iushr) := by decide +kernel
theorem k264_46 : lkc 46 (kcode 264) = some (.iadd) := by decide +kernel
theorem k264_47 : lkc 47 (kcode 264) = some (.istore_n 0) := by decide +kernel
theorem k264_48 : lkc 48 (kcode 264) = some (.iload_n 0) := by decide +kernel
theorem k264_49 : lkc 49 (kcode 264) = some (.bipush 63) := by decide +kernel
theorem k264_51 : lkc 51 (kcode 264) = some (.iand) := by decide +kernel
theorem k264_52 : lkc 52 (kcode 264) = some (.ireturn) := by decide +kernel
/-! forward: the class's chapels -/
def ush (x k : Int32) : Int32 := (x.toUInt32 >>> (k.toUInt32 &&& Int32.toUInt32 31)).toInt32
def bc1 (x : Int32) : Int32 := x - (ush x 1 &&& 1431655765)
def bc2 (x : Int32) : Int32 := (x &&& 858993459) + (ush x 2 &&& 858993459)
def bc3 (x : Int32) : Int32 := (x + ush x 4) &&& 252645135
def bc4 (x : Int32) : Int32 := x + ush x 8
def bc5 (x : Int32) : Int32 := x + ush x 16
def bcE (x : Int32) : Int32 := bc5 (bc4 (bc3 (bc2 (bc1 x)))) &&& 63
set_option maxRecDepth 100000 in
theorem bcE_n : ∀ v : Fin 4096, bcE (nI v.val) = nI (pcv v.val 12) := by decide +kernel
theorem c_bitCount {m : xM} {v : Nat} (hv : v < 4096) : fC 264 [.int (nI v)] m (fun rv m' => rv = some (.int (nI (pcv v 12))) ∧ m = m') := by
  refine fC_of (by decide) (fun d n P H => ?_)
  rw [← bcE_n ⟨v, hv⟩]
  show ∃ rv m', P rv m' ∧ rv = some (.int (bcE (nI v))) ∧ m = m'
  generalize nI v = x at *
  replace H := f_iload_n H k264_0 rfl
  replace H := f_iload_n H k264_1 rfl
  replace H := f_iconst H k264_2 (v := 1) (by decide)
  replace H := f_iushr H k264_3
  replace H := f_ldc_w H k264_4 (v := 1431655765) (by decide +kernel)
  replace H := f_iand H k264_7
  replace H := f_isub H k264_8
  replace H := f_istore_n H k264_9 (l2 := [(0, .int _)]) rfl
  rw [show x - ((x.toUInt32 >>> ((1 : Int32).toUInt32 &&& Int32.toUInt32 31)).toInt32 &&& 1431655765) = bc1 x from rfl] at H
  replace H := f_iload_n H k264_10 rfl
  replace H := f_ldc_w H k264_11 (v := 858993459) (by decide +kernel)
  replace H := f_iand H k264_14
  replace H := f_iload_n H k264_15 rfl
  replace H := f_iconst H k264_16 (v := 2) (by decide)
  replace H := f_iushr H k264_17
  replace H := f_ldc_w H k264_18 (v := 858993459) (by decide +kernel)
  replace H := f_iand H k264_21
  replace H := f_iadd H k264_22
  replace H := f_istore_n H k264_23 (l2 := [(0, .int _)]) rfl
  replace H := f_iload_n H k264_24 rfl
  replace H := f_iload_n H k264_25 rfl
  replace H := f_iconst H k264_26 (v := 4) (by decide)
  replace H := f_iushr H k264_27
  replace H := f_iadd H k264_28
  replace H := f_ldc_w H k264_29 (v := 252645135) (by decide +kernel)
  replace H := f_iand H k264_32
  replace H := f_istore_n H k264_33 (l2 := [(0, .int _)]) rfl
  replace H := f_iload_n H k264_34 rfl
  replace H := f_iload_n H k264_35 rfl
  replace H := f_bipush H k264_36 (v := 8) (by decide)
  replace H := f_iushr H k264_38
  replace H := f_iadd H k264_39
  replace H := f_istore_n H k264_40 (l2 := [(0, .int _)]) rfl
  replace H := f_iload_n H k264_41 rfl
  replace H := f_iload_n H k264_42 rfl
  replace H := f_bipush H k264_43 (v := 16) (by decide)
  replace H := f_iushr H k264_45
  replace H := f_iadd H k264_46
  replace H := f_istore_n H k264_47 (l2 := [(0, .int _)]) rfl
  replace H := f_iload_n H k264_48 rfl
  replace H := f_bipush H k264_49 (v := 63) (by decide)
  replace H := f_iand H k264_51
  replace H := f_iret H k264_52
  exact ⟨_, _, H, rfl, rfl⟩
/-- a plan of the class: its object b, its rows' cells from r on, its touching's cell t -/
def xT (m : xM) (C S : Nat) (A B Y : Nat → Nat) : Prop := m.1 3 0 = nI C ∧ m.1 3 1 = nI S ∧ C ≤ 8 ∧ S ≤ 12 ∧ (∀ s, s < S → m.1 (6 + s) 0 = nI (A s) ∧ m.1 (6 + s) 1 = nI (B s) ∧ m.1 (6 + s) 2 = nI (Y s) ∧ A s < C ∧ B s < C ∧ A s ≠ B s ∧ 1 ≤ Y s ∧ Y s ≤ 40) ∧ ∀ c, c < 8 → m.1 23 c = nI (tchN A B c S)
theorem c_openBehind {m : xM} {C S w : Nat} {A B Y : Nat → Nat} (hr : rS m) (hT : xT m C S A B Y) : fC 52 [.ref 3, .int (nI w)] m (fun rv m' => rv = some (.int (nI (opb S w))) ∧ m = m') := by
  refine fC_of (by decide) (fun d n P H => ?_)
  obtain ⟨t1, t2, t3, t4, t5, t6⟩ := id hT
  replace H := f_iload_n H k52_0 rfl
  replace H := f_iconst H k52_1 (v := -1) (by decide)
  replace H := f_ixor H k52_2
  replace H := f_iconst H k52_3 (v := 1) (by decide)
  replace H := f_aload_n H k52_4 rfl
  replace H := f_gi H k52_5 (ci := 5) (f := 1) (by decide +kernel) (by decide)
  replace H := f_ishl H k52_8
  replace H := f_iconst H k52_9 (v := 1) (by decide)
  replace H := f_isub H k52_10
  replace H := f_iand H k52_11
  rw [t2, opb_n (by omega)] at H
  replace H := f_iret H k52_12
  exact ⟨_, _, H, rfl, rfl⟩
theorem c_chapelsAmong {m : xM} {C S w o : Nat} {A B Y : Nat → Nat} (hr : rS m) (hT : xT m C S A B Y) (ho : ∀ i, i < S → o.testBit i = !(w.testBit i)) : fC 53 [.ref 3, .int (nI o)] m (fun rv m' => rv = some (.int (nI (chp A B S w C))) ∧ m = m') := by
  refine fC_of (by decide) (fun d n P H => ?_)
  obtain ⟨t1, t2, t3, t4, t5, t6⟩ := id hT
  have key : ∀ n e, e ≤ C → xF 53 (xw d) P (n + 1) 4 [(3, .int (nI e)), (2, .int (nI (chp A B S w e))), (0, .ref 3), (1, .int (nI o))] [] m → ∃ rv m', P rv m' ∧ rv = some (.int (nI (chp A B S w C))) ∧ m = m' := by
    intro n
    induction n with
    | zero => exact fun e _ H => (xF_0 (f1_iload_n H k53_4 rfl)).elim
    | succ n ih =>
      intro e he H
      replace H := f1_iload_n H k53_4 rfl
      replace H := f_aload_n H k53_5 rfl
      replace H := f_gi H k53_6 (ci := 5) (f := 0) (by decide +kernel) (by decide)
      rw [t1] at H
      have Hbr := f_icmp_ge H k53_9 (t := 39) (by decide)
      clear H
      rcases Hbr with ⟨c0, H⟩ | ⟨c0, H⟩
      · rw [nxle (by omega) (by omega)] at c0
        have ee : e = C := by omega
        subst ee
        replace H := f_iload_n H k53_39 rfl
        replace H := f_iret H k53_40
        exact ⟨_, _, H, rfl, rfl⟩
      · rw [nxle (by omega) (by omega)] at c0
        have hop := opc_le (A := A) (B := B) (w := w) (c := e) S
        have hlt : o &&& tchN A B e S < 4096 := Nat.lt_of_le_of_lt Nat.and_le_right (Nat.lt_of_lt_of_le (tchN_lt S) (Nat.pow_le_pow_right (by omega) t4 : (2 : Nat) ^ S ≤ 2 ^ 12))
        replace H := f_iload_n H k53_12 rfl
        replace H := f_aload_n H k53_13 rfl
        replace H := f_gr H k53_14 (ci := 5) (f := 7) (x := 23) (by decide +kernel) (by decide) (hr 3 7 23 rfl)
        replace H := f_iload_n H k53_17 rfl
        have Hob := f_iald H k53_18 (c := 8) (by decide)
        clear H
        obtain ⟨hb18, H⟩ := Hob
        replace H := f_iand H k53_19
        rw [nI_clamp (by omega), t6 e (by omega), fa_and] at H
        obtain ⟨rv, m2, ⟨rfl, e3⟩, h9_20⟩ := f_ins H k53_20 (by decide +kernel) (as := [.int _]) (r := []) (by rfl) (c_bitCount hlt)
        replace H := h9_20
        rw [← e3, pcv_12 t4 ho] at H
        clear e3
        replace H := f_iconst H k53_23 (v := 1) (by decide)
        have Hbr := f_icmp_ne H k53_24 (t := 33) (by decide)
        clear H
        rcases Hbr with ⟨c1, H⟩ | ⟨c1, H⟩
        · have c2 : ¬ opc A B w e S = 1 := fun q => c1 (by rw [q]; rfl)
          rw [show chp A B S w e = chp A B S w (e + 1) by rw [chp_s, if_neg c2, Nat.or_zero]] at H
          replace H := f_iinc H k53_33 rfl (l2 := [(3, .int (nI e + 1)), (2, .int (nI (chp A B S w (e + 1)))), (0, .ref 3), (1, .int (nI o))]) rfl
          replace H := f_goto H k53_36 (t := 4) (by decide)
          rw [nI_s] at H
          exact ih (e + 1) (by omega) H
        · have c2 : opc A B w e S = 1 := by rw [show (1 : Int32) = nI 1 from rfl, nI_inj (by omega) (by omega)] at c1; exact c1
          replace H := f_iload_n H k53_27 rfl
          replace H := f_iconst H k53_28 (v := 1) (by decide)
          replace H := f_iload_n H k53_29 rfl
          replace H := f_ishl H k53_30
          replace H := f_ior H k53_31
          rw [shl_n (by omega), show nI (chp A B S w e) ||| nI (2 ^ e) = nI (chp A B S w (e + 1)) by rw [show chp A B S w (e + 1) = chp A B S w e ||| 2 ^ e by rw [chp_s, if_pos c2]]; exact fa_or _ _] at H
          replace H := f_istore_n H k53_32 (l2 := [(2, .int (nI (chp A B S w (e + 1)))), (3, .int (nI e)), (0, .ref 3), (1, .int (nI o))]) rfl
          replace H := f_iinc H k53_33 rfl (l2 := [(3, .int (nI e + 1)), (2, .int (nI (chp A B S w (e + 1)))), (0, .ref 3), (1, .int (nI o))]) rfl
          replace H := f_goto H k53_36 (t := 4) (by decide)
          rw [nI_s] at H
          exact ih (e + 1) (by omega) H
  replace H := f_iconst H k53_0 (v := 0) (by decide)
  replace H := f_istore_n H k53_1 (l2 := [(2, .int 0), (0, .ref 3), (1, .int (nI o))]) rfl
  replace H := f_iconst H k53_2 (v := 0) (by decide)
  replace H := f_istore_n H k53_3 (l2 := [(3, .int 0), (2, .int 0), (0, .ref 3), (1, .int (nI o))]) rfl
  exact key n 0 (Nat.zero_le _) (f_up H (Nat.le_succ _))
/-! ways: the tables of both sides as functions, and that they come to the same corners -/
abbrev Mt : Type := Nat → Nat → Nat
def mst (c : Mt) (a b v : Nat) : Mt := fun i j => if i = a ∧ j = b then v else c i j
theorem mst_at {c : Mt} {a b v : Nat} : mst c a b v a b = v := if_pos ⟨rfl, rfl⟩
theorem mst_ne {c : Mt} {a b v i j : Nat} (h : ¬ (i = a ∧ j = b)) : mst c a b v i j = c i j := if_neg h
def bas (U : Nat) : Mt := fun a b => if a = b then 0 else U
def wsM (A B Y : Nat → Nat) (w : Nat) (c : Mt) : Nat → Mt
  | 0 => c
  | s + 1 => if w.testBit s then wsM A B Y w c s else mst (mst (wsM A B Y w c s) (A s) (B s) (min (wsM A B Y w c s (A s) (B s)) (Y s))) (B s) (A s) (min (wsM A B Y w c s (A s) (B s)) (Y s))
def wsX (A B Y : Nat → Nat) (w : Nat) : Nat → Mt × Mt
  | 0 => (fun _ _ => 0, bas 1000000)
  | s + 1 => if w.testBit s then wsX A B Y w s else if (wsX A B Y w s).1 (A s) (B s) = 0 ∨ Y s < (wsX A B Y w s).1 (A s) (B s) then (mst (mst (wsX A B Y w s).1 (A s) (B s) (Y s)) (B s) (A s) (Y s), mst (mst (wsX A B Y w s).2 (A s) (B s) (16 * Y s + 1)) (B s) (A s) (16 * Y s + 1)) else wsX A B Y w s
theorem wsM_t {A B Y : Nat → Nat} {w s : Nat} {c : Mt} (h : w.testBit s = true) : wsM A B Y w c (s + 1) = wsM A B Y w c s := if_pos h
theorem wsM_f {A B Y : Nat → Nat} {w s : Nat} {c : Mt} (h : w.testBit s = false) : wsM A B Y w c (s + 1) = mst (mst (wsM A B Y w c s) (A s) (B s) (min (wsM A B Y w c s (A s) (B s)) (Y s))) (B s) (A s) (min (wsM A B Y w c s (A s) (B s)) (Y s)) := if_neg (by rw [h]; decide)
theorem wsX_t {A B Y : Nat → Nat} {w s : Nat} (h : w.testBit s = true) : wsX A B Y w (s + 1) = wsX A B Y w s := if_pos h
theorem wsX_y {A B Y : Nat → Nat} {w s : Nat} (h : w.testBit s = false) (h2 : (wsX A B Y w s).1 (A s) (B s) = 0 ∨ Y s < (wsX A B Y w s).1 (A s) (B s)) : wsX A B Y w (s + 1) = (mst (mst (wsX A B Y w s).1 (A s) (B s) (Y s)) (B s) (A s) (Y s), mst (mst (wsX A B Y w s).2 (A s) (B s) (16 * Y s + 1)) (B s) (A s) (16 * Y s + 1)) := (if_neg (by rw [h]; decide)).trans (if_pos h2)
theorem wsX_n {A B Y : Nat → Nat} {w s : Nat} (h : w.testBit s = false) (h2 : ¬ ((wsX A B Y w s).1 (A s) (B s) = 0 ∨ Y s < (wsX A B Y w s).1 (A s) (B s))) : wsX A B Y w (s + 1) = wsX A B Y w s := (if_neg (by rw [h]; decide)).trans (if_neg h2)
/-- the tables behind the streets, side by side -/
def stR (T cX cM : Mt) : Prop := ∀ a b, T a b = T b a ∧ ((a = b ∧ T a b = 0 ∧ cX a b = 0 ∧ cM a b = 0) ∨ (a ≠ b ∧ ((T a b = 0 ∧ cX a b = 1000000 ∧ cM a b = 100000) ∨ (1 ≤ T a b ∧ T a b ≤ 40 ∧ cX a b = 16 * T a b + 1 ∧ cM a b = T a b))))
theorem stR_ok {A B Y : Nat → Nat} {w S : Nat} (hS : ∀ s, s < S → A s ≠ B s ∧ 1 ≤ Y s ∧ Y s ≤ 40) : ∀ s, s ≤ S → stR (wsX A B Y w s).1 (wsX A B Y w s).2 (wsM A B Y w (bas 100000) s) := by
  intro s
  induction s with
  | zero =>
    intro _ a b
    refine ⟨rfl, ?_⟩
    by_cases e : a = b
    · exact Or.inl ⟨e, rfl, if_pos e, if_pos e⟩
    · exact Or.inr ⟨e, Or.inl ⟨rfl, if_neg e, if_neg e⟩⟩
  | succ s ih =>
    intro hs
    have ih := ih (by omega)
    obtain ⟨h1, h2, h3⟩ := hS s (by omega)
    cases hw : w.testBit s with
    | true => rw [wsX_t hw, wsM_t hw]; exact ih
    | false =>
      rw [wsM_f hw]
      by_cases c : (wsX A B Y w s).1 (A s) (B s) = 0 ∨ Y s < (wsX A B Y w s).1 (A s) (B s)
      · rw [wsX_y hw c]
        have hv : min (wsM A B Y w (bas 100000) s (A s) (B s)) (Y s) = Y s := by
          obtain ⟨-, hx⟩ := ih (A s) (B s)
          rcases hx with ⟨e, -⟩ | ⟨-, ⟨x1, x2, x3⟩ | ⟨x1, x2, x3, x4⟩⟩
          · exact absurd e h1
          · rw [x3]; omega
          · rw [x4]; omega
        rw [hv]
        dsimp only
        intro a b
        obtain ⟨i1, i2⟩ := ih a b
        by_cases e1 : a = B s ∧ b = A s
        · obtain ⟨rfl, rfl⟩ := e1
          refine ⟨?_, Or.inr ⟨fun q => h1 q.symm, Or.inr ⟨?_, ?_, ?_, ?_⟩⟩⟩
          · rw [mst_at, mst_ne (fun q => h1 q.1), mst_at]
          · rw [mst_at]; exact h2
          · rw [mst_at]; exact h3
          · rw [mst_at, mst_at]
          · rw [mst_at, mst_at]
        · by_cases e2 : a = A s ∧ b = B s
          · obtain ⟨rfl, rfl⟩ := e2
            have n1 : ¬ (A s = B s ∧ B s = A s) := fun q => h1 q.1
            refine ⟨?_, Or.inr ⟨h1, Or.inr ⟨?_, ?_, ?_, ?_⟩⟩⟩
            · rw [mst_at, mst_ne n1, mst_at]
            · rw [mst_ne n1, mst_at]; exact h2
            · rw [mst_ne n1, mst_at]; exact h3
            · rw [mst_ne n1, mst_at, mst_ne n1, mst_at]
            · rw [mst_ne n1, mst_at, mst_ne n1, mst_at]
          · rw [mst_ne e1, mst_ne e2, mst_ne e1, mst_ne e2, mst_ne e1, mst_ne e2, mst_ne (fun q => e2 ⟨q.2, q.1⟩), mst_ne (fun q => e1 ⟨q.2, q.1⟩)]
            exact ⟨i1, i2⟩
      · rw [wsX_n hw c]
        have hv : min (wsM A B Y w (bas 100000) s (A s) (B s)) (Y s) = (wsX A B Y w s).1 (A s) (B s) := by
          obtain ⟨-, hx⟩ := ih (A s) (B s)
          rcases hx with ⟨e, -⟩ | ⟨-, ⟨x1, x2, x3⟩ | ⟨x1, x2, x3, x4⟩⟩
          · exact absurd e h1
          · exact absurd (Or.inl x1) c
          · rw [x4]; omega
        rw [hv]
        intro a b
        obtain ⟨i1, i2⟩ := ih a b
        refine ⟨i1, ?_⟩
        by_cases e1 : a = B s ∧ b = A s
        · obtain ⟨rfl, rfl⟩ := e1
          rcases i2 with ⟨e, -⟩ | ⟨-, ⟨x1, x2, x3⟩ | ⟨x1, x2, x3, x4⟩⟩
          · exact absurd e.symm h1
          · exact absurd (Or.inl (i1.symm.trans x1)) c
          · exact Or.inr ⟨fun q => h1 q.symm, Or.inr ⟨x1, x2, x3, by rw [mst_at, i1]⟩⟩
        · rw [mst_ne e1]
          by_cases e2 : a = A s ∧ b = B s
          · obtain ⟨rfl, rfl⟩ := e2
            rcases i2 with ⟨e, -⟩ | ⟨-, ⟨x1, x2, x3⟩ | ⟨x1, x2, x3, x4⟩⟩
            · exact absurd e h1
            · exact absurd (Or.inl x1) c
            · exact Or.inr ⟨h1, Or.inr ⟨x1, x2, x3, mst_at⟩⟩
          · rw [mst_ne e2]
            exact i2
def fwB (o a : Nat) (c : Mt) : Nat → Mt
  | 0 => c
  | b + 1 => mst (fwB o a c b) a b (min (fwB o a c b a b) (fwB o a c b a o + fwB o a c b o b))
def fwA (C o : Nat) (c : Mt) : Nat → Mt
  | 0 => c
  | a + 1 => fwB o a (fwA C o c a) C
def fwO (C : Nat) (c : Mt) : Nat → Mt
  | 0 => c
  | o + 1 => fwA C o (fwO C c o) C
theorem fwB_s {o a b : Nat} {c : Mt} : fwB o a c (b + 1) = mst (fwB o a c b) a b (min (fwB o a c b a b) (fwB o a c b a o + fwB o a c b o b)) := rfl
theorem fwA_s {C o a : Nat} {c : Mt} : fwA C o c (a + 1) = fwB o a (fwA C o c a) C := rfl
theorem fwO_s {C o : Nat} {c : Mt} : fwO C c (o + 1) = fwA C o (fwO C c o) C := rfl
def mle (U : Nat) (c : Mt) : Prop := ∀ a b, c a b ≤ U
theorem mle_m {U : Nat} {c : Mt} {a b v : Nat} (h : mle U c) : mle U (mst c a b (min (c a b) v)) := fun i j => by
  unfold mst
  split
  · exact Nat.le_trans (Nat.min_le_left _ _) (h a b)
  · exact h i j
theorem fwB_le {U o a : Nat} {c : Mt} (h : mle U c) : ∀ b, mle U (fwB o a c b)
  | 0 => h
  | b + 1 => mle_m (fwB_le h b)
theorem fwA_le {U C o : Nat} {c : Mt} (h : mle U c) : ∀ a, mle U (fwA C o c a)
  | 0 => h
  | a + 1 => fwB_le (fwA_le h a) C
theorem fwO_le {U C : Nat} {c : Mt} (h : mle U c) : ∀ o, mle U (fwO C c o)
  | 0 => h
  | o + 1 => fwA_le (fwO_le h o) C
/-- in a round over o: what is come to is alike, and how far is bounded -/
def fwR (L l o : Nat) (x y : Mt) : Prop := ∀ a b, (x a b = 1000000 ∧ y a b = 100000) ∨ (x a b ≤ 2 * L ∧ y a b ≤ 2 * l ∧ (a = o ∨ b = o → x a b ≤ L ∧ y a b ≤ l))
theorem fwR_s {L l o a b : Nat} {x y : Mt} (hL : 2 * L < 1000000) (hl : 2 * l < 100000) (h : fwR L l o x y) : fwR L l o (mst x a b (min (x a b) (x a o + x o b))) (mst y a b (min (y a b) (y a o + y o b))) := by
  intro i j
  by_cases e : i = a ∧ j = b
  · obtain ⟨rfl, rfl⟩ := e
    rw [mst_at, mst_at]
    have h1 := h i j
    have h2 := h i o
    have h3 := h o j
    by_cases c1 : i = o
    · subst c1
      rcases h1 with ⟨a1, a2⟩ | ⟨a1, a2, a3⟩
      · refine Or.inl ⟨by omega, by omega⟩
      · have := a3 (Or.inl rfl)
        exact Or.inr ⟨by omega, by omega, fun _ => ⟨by omega, by omega⟩⟩
    · by_cases c2 : j = o
      · subst c2
        rcases h1 with ⟨a1, a2⟩ | ⟨a1, a2, a3⟩
        · refine Or.inl ⟨by omega, by omega⟩
        · have := a3 (Or.inr rfl)
          exact Or.inr ⟨by omega, by omega, fun _ => ⟨by omega, by omega⟩⟩
      · have n : ¬ (i = o ∨ j = o) := by omega
        rcases h2 with ⟨b1, b2⟩ | ⟨b1, b2, b3⟩
        · rcases h1 with ⟨a1, a2⟩ | ⟨a1, a2, a3⟩
          · exact Or.inl ⟨by omega, by omega⟩
          · exact Or.inr ⟨by omega, by omega, fun q => absurd q n⟩
        · have b4 := b3 (Or.inr rfl)
          rcases h3 with ⟨d1, d2⟩ | ⟨d1, d2, d3⟩
          · rcases h1 with ⟨a1, a2⟩ | ⟨a1, a2, a3⟩
            · exact Or.inl ⟨by omega, by omega⟩
            · exact Or.inr ⟨by omega, by omega, fun q => absurd q n⟩
          · have d4 := d3 (Or.inl rfl)
            exact Or.inr ⟨by omega, by omega, fun q => absurd q n⟩
  · rw [mst_ne e, mst_ne e]
    exact h i j
theorem fwR_B {L l o a : Nat} {x y : Mt} (hL : 2 * L < 1000000) (hl : 2 * l < 100000) (h : fwR L l o x y) : ∀ b, fwR L l o (fwB o a x b) (fwB o a y b)
  | 0 => h
  | b + 1 => fwR_s hL hl (fwR_B hL hl h b)
theorem fwR_A {L l C o : Nat} {x y : Mt} (hL : 2 * L < 1000000) (hl : 2 * l < 100000) (h : fwR L l o x y) : ∀ a, fwR L l o (fwA C o x a) (fwA C o y a)
  | 0 => h
  | a + 1 => fwR_B hL hl (fwR_A hL hl h a) C
def fwQ (L l : Nat) (x y : Mt) : Prop := ∀ a b, (x a b = 1000000 ∧ y a b = 100000) ∨ (x a b ≤ L ∧ y a b ≤ l)
theorem fwQ_O {C : Nat} {x y : Mt} (h : fwQ 641 40 x y) : ∀ o, o ≤ 8 → fwQ (641 * 2 ^ o) (40 * 2 ^ o) (fwO C x o) (fwO C y o)
  | 0, _ => h
  | o + 1, ho => by
    have ih := fwQ_O (C := C) h o (by omega)
    have hp : (2 : Nat) ^ o ≤ 2 ^ 7 := Nat.pow_le_pow_right (by omega) (by omega)
    rw [show (2 : Nat) ^ 7 = 128 from rfl] at hp
    have hk := fwR_A (C := C) (o := o) (L := 641 * 2 ^ o) (l := 40 * 2 ^ o) (by omega) (by omega) (fun a b => by
      rcases ih a b with q | ⟨q1, q2⟩
      · exact Or.inl q
      · exact Or.inr ⟨by omega, by omega, fun _ => ⟨q1, q2⟩⟩) C
    intro a b
    rw [Nat.pow_succ]
    rcases hk a b with q | ⟨q1, q2, -⟩
    · exact Or.inl q
    · exact Or.inr ⟨by rw [fwO_s]; omega, by rw [fwO_s]; omega⟩
/-- the class's table, the reference's table -/
def wyX (C S : Nat) (A B Y : Nat → Nat) (w : Nat) : Mt := fwO C (wsX A B Y w S).2 C
def wyM (C S : Nat) (A B Y : Nat → Nat) (w : Nat) : Mt := fwO C (wsM A B Y w (bas 100000) S) C
theorem wy_R {C S w : Nat} {A B Y : Nat → Nat} (hC : C ≤ 8) (hS : ∀ s, s < S → A s ≠ B s ∧ 1 ≤ Y s ∧ Y s ≤ 40) (a b : Nat) : wyX C S A B Y w a b < 1000000 ↔ wyM C S A B Y w a b < 100000 := by
  have h0 : fwQ 641 40 (wsX A B Y w S).2 (wsM A B Y w (bas 100000) S) := fun a b => by
    rcases (stR_ok (w := w) hS S (Nat.le_refl _) a b).2 with ⟨-, -, x1, x2⟩ | ⟨-, ⟨-, x1, x2⟩ | ⟨x0, x1, x2, x3⟩⟩
    · exact Or.inr ⟨by omega, by omega⟩
    · exact Or.inl ⟨x1, x2⟩
    · exact Or.inr ⟨by omega, by omega⟩
  have hp : (2 : Nat) ^ C ≤ 2 ^ 8 := Nat.pow_le_pow_right (by omega) hC
  rw [show (2 : Nat) ^ 8 = 256 from rfl] at hp
  have h1 := fwQ_O (C := C) h0 C hC a b
  unfold wyX wyM
  rcases h1 with ⟨q1, q2⟩ | ⟨q1, q2⟩ <;> omega
theorem wsX_le {A B Y : Nat → Nat} {w S : Nat} (hS : ∀ s, s < S → A s ≠ B s ∧ 1 ≤ Y s ∧ Y s ≤ 40) : mle 1000000 (wsX A B Y w S).2 := fun a b => by
  rcases (stR_ok (w := w) hS S (Nat.le_refl _) a b).2 with ⟨-, -, x1, x2⟩ | ⟨-, ⟨-, x1, x2⟩ | ⟨x0, x1, x2, x3⟩⟩ <;> omega
theorem wsM_le {A B Y : Nat → Nat} {w S : Nat} (hS : ∀ s, s < S → A s ≠ B s ∧ 1 ≤ Y s ∧ Y s ≤ 40) : mle 100000 (wsM A B Y w (bas 100000) S) := fun a b => by
  rcases (stR_ok (w := w) hS S (Nat.le_refl _) a b).2 with ⟨-, -, x1, x2⟩ | ⟨-, ⟨-, x1, x2⟩ | ⟨x0, x1, x2, x3⟩⟩ <;> omega
theorem k198_0 : lkc 0 (kcode 198) = some (.iconst 0) := by decide +kernel
theorem k198_1 : lkc 1 (kcode 198) = some (.istore_n 2) := by decide +kernel
theorem k198_2 : lkc 2 (kcode 198) = some (.iload_n 2) := by decide +kernel
theorem k198_3 : lkc 3 (kcode 198) = some (.aload_n 0) := by decide +kernel
theorem k198_4 : lkc 4 (kcode 198) = some (.getfield 280) := by decide +kernel
theorem k198_7 : lkc 7 (kcode 198) = some (.if_icmp .ge 48) := by decide +kernel
theorem k198_10 : lkc 10 (kcode 198) = some (.iconst 0) := by decide +kernel
theorem k198_11 : lkc 11 (kcode 198) = some (.istore_n 3) := by decide +kernel
theorem k198_12 : lkc 12 (kcode 198) = some (.iload_n 3) := by decide +kernel
theorem k198_13 : lkc 13 (kcode 198) = some (.aload_n 0) := by decide +kernel
theorem k198_14 : lkc 14 (kcode 198) = some (.getfield 280) := by decide +kernel
theorem k198_17 : lkc 17 (kcode 198) = some (.if_icmp .ge 32) := by decide +kernel
theorem k198_20 : lkc 20 (kcode 198) = some (.aload_n 0) := by decide +kernel
theorem k198_21 : lkc 21 (kcode 198) = some (.getfield 71) := by decide +kernel
theorem k198_24 : lkc 24 (kcode 198) = some (.bipush 8) := by decide +kernel
theorem k198_26 : lkc 26 (kcode 198) = some (.iload_n 2) := by decide +kernel
theorem k198_27 : lkc 27 (kcode 198) = some (.imul) := by decide +kernel
theorem k198_28 : lkc 28 (kcode 198) = some (.iload_n 3) := by decide +kernel
theorem k198_29 : lkc 29 (kcode 198) = some (.iadd) := by decide +kernel
theorem k198_30 : lkc 30 (kcode 198) = some (.iload_n 2) := by decide +kernel
theorem k198_31 : lkc 31 (kcode 198) = some (.iload_n 3) := by decide +kernel
theorem k198_32 : lkc 32 (kcode 198) = some (.if_icmp .ne 7) := by decide +kernel
theorem k198_35 : lkc 35 (kcode 198) = some (.iconst 0) := by decide +kernel
theorem k198_36 : lkc 36 (kcode 198) = some (.goto 6) := by decide +kernel
theorem k198_39 : lkc 39 (kcode 198) = some (.ldc_w 301) := by decide +kernel
theorem k198_42 : lkc 42 (kcode 198) = some (.iastore) := by decide +kernel
theorem k198_43 : lkc 43 (kcode 198) = some (.iinc 3 1) := by decide +kernel
theorem k198_46 : lkc 46 (kcode 198) = some (.goto (-34)) := by decide +kernel
theorem k198_49 : lkc 49 (kcode 198) = some (.iinc 2 1) := by decide +kernel
theorem k198_52 : lkc 52 (kcode 198) = some (.goto (-50)) := by decide +kernel
theorem k198_55 : lkc 55 (kcode 198) = some (.iconst 0) := by decide +kernel
theorem k198_56 : lkc 56 (kcode 198) = some (.istore_n 2) := by decide +kernel
theorem k198_57 : lkc 57 (kcode 198) = some (.iload_n 2) := by decide +kernel
theorem k198_58 : lkc 58 (kcode 198) = some (.aload_n 0) := by decide +kernel
theorem k198_59 : lkc 59 (kcode 198) = some (.getfield 283) := by decide +kernel
theorem k198_62 : lkc 62 (kcode 198) = some (.if_icmp .ge 105) := by decide +kernel
theorem k198_65 : lkc 65 (kcode 198) = some (.iload_n 1) := by decide +kernel
theorem k198_66 : lkc 66 (kcode 198) = some (.iload_n 2) := by decide +kernel
theorem k198_67 : lkc 67 (kcode 198) = some (.invokestatic 223) := by decide +kernel
theorem k198_70 : lkc 70 (kcode 198) = some (.ifCond .eq 6) := by decide +kernel
theorem k198_73 : lkc 73 (kcode 198) = some (.goto 88) := by decide +kernel
theorem k198_76 : lkc 76 (kcode 198) = some (.bipush 8) := by decide +kernel
theorem k198_78 : lkc 78 (kcode 198) = some (.aload_n 0) := by decide +kernel
theorem k198_79 : lkc 79 (kcode 198) = some (.getfield 40) := by decide +kernel
theorem k198_82 : lkc 82 (kcode 198) = some (.iconst 4) := by decide +kernel
theorem k198_83 : lkc 83 (kcode 198) = some (.iload_n 2) := by decide +kernel
theorem k198_84 : lkc 84 (kcode 198) = some (.imul) := by decide +kernel
theorem k198_85 : lkc 85 (kcode 198) = some (.iaload) := by decide +kernel
theorem k198_86 : lkc 86 (kcode 198) = some (.imul) := by decide +kernel
theorem k198_87 : lkc 87 (kcode 198) = some (.aload_n 0) := by decide +kernel
theorem k198_88 : lkc 88 (kcode 198) = some (.getfield 40) := by decide +kernel
theorem k198_91 : lkc 91 (kcode 198) = some (.iconst 4) := by decide +kernel
theorem k198_92 : lkc 92 (kcode 198) = some (.iload_n 2) := by decide +kernel
theorem k198_93 : lkc 93 (kcode 198) = some (.imul) := by decide +kernel
theorem k198_94 : lkc 94 (kcode 198) = some (.iconst 1) := by decide +kernel
theorem k198_95 : lkc 95 (kcode 198) = some (.iadd) := by decide +kernel
theorem k198_96 : lkc 96 (kcode 198) = some (.iaload) := by decide +kernel
theorem k198_97 : lkc 97 (kcode 198) = some (.iadd) := by decide +kernel
theorem k198_98 : lkc 98 (kcode 198) = some (.istore_n 3) := by decide +kernel
theorem k198_99 : lkc 99 (kcode 198) = some (.bipush 8) := by decide +kernel
theorem k198_101 : lkc 101 (kcode 198) = some (.aload_n 0) := by decide +kernel
theorem k198_102 : lkc 102 (kcode 198) = some (.getfield 40) := by decide +kernel
theorem k198_105 : lkc 105 (kcode 198) = some (.iconst 4) := by decide +kernel
theorem k198_106 : lkc 106 (kcode 198) = some (.iload_n 2) := by decide +kernel
theorem k198_107 : lkc 107 (kcode 198) = some (.imul) := by decide +kernel
theorem k198_108 : lkc 108 (kcode 198) = some (.iconst 1) := by decide +kernel
theorem k198_109 : lkc 109 (kcode 198) = some (.iadd) := by decide +kernel
theorem k198_110 : lkc 110 (kcode 198) = some (.iaload) := by decide +kernel
theorem k198_111 : lkc 111 (kcode 198) = some (.imul) := by decide +kernel
theorem k198_112 : lkc 112 (kcode 198) = some (.aload_n 0) := by decide +kernel
theorem k198_113 : lkc 113 (kcode 198) = some (.getfield 40) := by decide +kernel
theorem k198_116 : lkc 116 (kcode 198) = some (.iconst 4) := by decide +kernel
theorem k198_117 : lkc 117 (kcode 198) = some (.iload_n 2) := by decide +kernel
theorem k198_118 : lkc 118 (kcode 198) = some (.imul) := by decide +kernel
theorem k198_119 : lkc 119 (kcode 198) = some (.iaload) := by decide +kernel
theorem k198_120 : lkc 120 (kcode 198) = some (.iadd) := by decide +kernel
theorem k198_121 : lkc 121 (kcode 198) = some (.istore 4) := by decide +kernel
theorem k198_123 : lkc 123 (kcode 198) = some (.aload_n 0) := by decide +kernel
theorem k198_124 : lkc 124 (kcode 198) = some (.getfield 71) := by decide +kernel
theorem k198_127 : lkc 127 (kcode 198) = some (.iload_n 3) := by decide +kernel
theorem k198_128 : lkc 128 (kcode 198) = some (.aload_n 0) := by decide +kernel
theorem k198_129 : lkc 129 (kcode 198) = some (.getfield 71) := by decide +kernel
theorem k198_132 : lkc 132 (kcode 198) = some (.iload_n 3) := by decide +kernel
theorem k198_133 : lkc 133 (kcode 198) = some (.iaload) := by decide +kernel
theorem k198_134 : lkc 134 (kcode 198) = some (.aload_n 0) := by decide +kernel
theorem k198_135 : lkc 135 (kcode 198) = some (.getfield 40) := by decide +kernel
theorem k198_138 : lkc 138 (kcode 198) = some (.iconst 4) := by decide +kernel
theorem k198_139 : lkc 139 (kcode 198) = some (.iload_n 2) := by decide +kernel
theorem k198_140 : lkc 140 (kcode 198) = some (.imul) := by decide +kernel
theorem k198_141 : lkc 141 (kcode 198) = some (.iconst 2) := by decide +kernel
theorem k198_142 : lkc 142 (kcode 198) = some (.iadd) := by decide +kernel
theorem k198_143 : lkc 143 (kcode 198) = some (.iaload) := by decide +kernel
theorem k198_144 : lkc 144 (kcode 198) = some (.invokestatic 302) := by decide +kernel
theorem k198_147 : lkc 147 (kcode 198) = some (.iastore) := by decide +kernel
theorem k198_148 : lkc 148 (kcode 198) = some (.aload_n 0) := by decide +kernel
theorem k198_149 : lkc 149 (kcode 198) = some (.getfield 71) := by decide +kernel
theorem k198_152 : lkc 152 (kcode 198) = some (.iload 4) := by decide +kernel
theorem k198_154 : lkc 154 (kcode 198) = some (.aload_n 0) := by decide +kernel
theorem k198_155 : lkc 155 (kcode 198) = some (.getfield 71) := by decide +kernel
theorem k198_158 : lkc 158 (kcode 198) = some (.iload_n 3) := by decide +kernel
theorem k198_159 : lkc 159 (kcode 198) = some (.iaload) := by decide +kernel
theorem k198_160 : lkc 160 (kcode 198) = some (.iastore) := by decide +kernel
theorem k198_161 : lkc 161 (kcode 198) = some (.iinc 2 1) := by decide +kernel
theorem k198_164 : lkc 164 (kcode 198) = some (.goto (-107)) := by decide +kernel
theorem k198_167 : lkc 167 (kcode 198) = some (.iconst 0) := by decide +kernel
theorem k198_168 : lkc 168 (kcode 198) = some (.istore_n 2) := by decide +kernel
theorem k198_169 : lkc 169 (kcode 198) = some (.iload_n 2) := by decide +kernel
theorem k198_170 : lkc 170 (kcode 198) = some (.aload_n 0) := by decide +kernel
theorem k198_171 : lkc 171 (kcode 198) = some (.getfield 280) := by decide +kernel
theorem k198_174 : lkc 174 (kcode 198) = some (.if_icmp .ge 94) := by decide +kernel
theorem k198_177 : lkc 177 (kcode 198) = some (.iconst 0) := by decide +kernel
theorem k198_178 : lkc 178 (kcode 198) = some (.istore_n 3) := by decide +kernel
theorem k198_179 : lkc 179 (kcode 198) = some (.iload_n 3) := by decide +kernel
theorem k198_180 : lkc 180 (kcode 198) = some (.aload_n 0) := by decide +kernel
theorem k198_181 : lkc 181 (kcode 198) = some (.getfield 280) := by decide +kernel
theorem k198_184 : lkc 184 (kcode 198) = some (.if_icmp .ge 78) := by decide +kernel
theorem k198_187 : lkc 187 (kcode 198) = some (.iconst 0) := by decide +kernel
theorem k198_188 : lkc 188 (kcode 198) = some (.istore 4) := by decide +kernel
theorem k198_190 : lkc 190 (kcode 198) = some (.iload 4) := by decide +kernel
theorem k198_192 : lkc 192 (kcode 198) = some (.aload_n 0) := by decide +kernel
theorem k198_193 : lkc 193 (kcode 198) = some (.getfield 280) := by decide +kernel
theorem k198_196 : lkc 196 (kcode 198) = some (.if_icmp .ge 60) := by decide +kernel
theorem k198_199 : lkc 199 (kcode 198) = some (.aload_n 0) := by decide +kernel
theorem k198_200 : lkc 200 (kcode 198) = some (.getfield 71) := by decide +kernel
theorem k198_203 : lkc 203 (kcode 198) = some (.bipush 8) := by decide +kernel
theorem k198_205 : lkc 205 (kcode 198) = some (.iload_n 3) := by decide +kernel
theorem k198_206 : lkc 206 (kcode 198) = some (.imul) := by decide +kernel
theorem k198_207 : lkc 207 (kcode 198) = some (.iload 4) := by decide +kernel
theorem k198_209 : lkc 209 (kcode 198) = some (.iadd) := by decide +kernel
theorem k198_210 : lkc 210 (kcode 198) = some (.aload_n 0) := by decide +kernel
theorem k198_211 : lkc 211 (kcode 198) = some (.getfield 71) := by decide +kernel
theorem k198_214 : lkc 214 (kcode 198) = some (.bipush 8) := by decide +kernel
theorem k198_216 : lkc 216 (kcode 198) = some (.iload_n 3) := by decide +kernel
theorem k198_217 : lkc 217 (kcode 198) = some (.imul) := by decide +kernel
theorem k198_218 : lkc 218 (kcode 198) = some (.iload 4) := by decide +kernel
theorem k198_220 : lkc 220 (kcode 198) = some (.iadd) := by decide +kernel
theorem k198_221 : lkc 221 (kcode 198) = some (.iaload) := by decide +kernel
theorem k198_222 : lkc 222 (kcode 198) = some (.aload_n 0) := by decide +kernel
theorem k198_223 : lkc 223 (kcode 198) = some (.getfield 71) := by decide +kernel
theorem k198_226 : lkc 226 (kcode 198) = some (.bipush 8) := by decide +kernel
theorem k198_228 : lkc 228 (kcode 198) = some (.iload_n 3) := by decide +kernel
theorem k198_229 : lkc 229 (kcode 198) = some (.imul) := by decide +kernel
theorem k198_230 : lkc 230 (kcode 198) = some (.iload_n 2) := by decide +kernel
theorem k198_231 : lkc 231 (kcode 198) = some (.iadd) := by decide +kernel
theorem k198_232 : lkc 232 (kcode 198) = some (.iaload) := by decide +kernel
theorem k198_233 : lkc 233 (kcode 198) = some (.aload_n 0) := by decide +kernel
theorem k198_234 : lkc 234 (kcode 198) = some (.getfield 71) := by decide +kernel
theorem k198_237 : lkc 237 (kcode 198) = some (.bipush 8) := by decide +kernel
theorem k198_239 : lkc 239 (kcode 198) = some (.iload_n 2) := by decide +kernel
theorem k198_240 : lkc 240 (kcode 198) = some (.imul) := by decide +kernel
theorem k198_241 : lkc 241 (kcode 198) = some (.iload 4) := by decide +kernel
theorem k198_243 : lkc 243 (kcode 198) = some (.iadd) := by decide +kernel
theorem k198_244 : lkc 244 (kcode 198) = some (.iaload) := by decide +kernel
theorem k198_245 : lkc 245 (kcode 198) = some (.iadd) := by decide +kernel
theorem k198_246 : lkc 246 (kcode 198) = some (.invokestatic 302) := by decide +kernel
theorem k198_249 : lkc 249 (kcode 198) = some (.iastore) := by decide +kernel
theorem k198_250 : lkc 250 (kcode 198) = some (.iinc 4 1) := by decide +kernel
theorem k198_253 : lkc 253 (kcode 198) = some (.goto (-63)) := by decide +kernel
theorem k198_256 : lkc 256 (kcode 198) = some (.iinc 3 1) := by decide +kernel
theorem k198_259 : lkc 259 (kcode 198) = some (.goto (-80)) := by decide +kernel
theorem k198_262 : lkc 262 (kcode 198) = some (.iinc 2 1) := by decide +kernel
theorem k198_265 : lkc 265 (kcode 198) = some (.goto (-96)) := by decide +kernel
theorem k198_268 : lkc 268 (kcode 198) = some (.return_) := by decide +kernel
theorem k269_0 : lkc 0 (kcode 269) = some (.iload_n 0) := by decide +kernel
theorem k269_1 : lkc 1 (kcode 269) = some (.iload_n 1) := by decide +kernel
theorem k269_2 : lkc 2 (kcode 269) = some (.if_icmp .gt 7) := by decide +kernel
theorem k269_5 : lkc 5 (kcode 269) = some (.iload_n 0) := by decide +kernel
theorem k269_6 : lkc 6 (kcode 269) = some (.goto 4) := by decide +kernel
theorem k269_9 : lkc 9 (kcode 269) = some (.iload_n 1) := by decide +kernel
theorem k269_10 : lkc 10 (kcode 269) = some (.ireturn) := by decide +kernel
/-! forward: the reference's table of yards -/
theorem c_minI {m : xM} {a b : Nat} (ha : a < 2147483648) (hb : b < 2147483648) : fC 269 [.int (nI a), .int (nI b)] m (fun rv m' => rv = some (.int (nI (min a b))) ∧ m = m') := by
  refine fC_of (by decide) (fun d n P H => ?_)
  replace H := f_iload_n H k269_0 rfl
  replace H := f_iload_n H k269_1 rfl
  have Hbr := f_icmp_gt H k269_2 (t := 9) (by decide)
  clear H
  rcases Hbr with ⟨c, H⟩ | ⟨c, H⟩
  · rw [nxlt hb ha] at c
    replace H := f_iload_n H k269_9 rfl
    replace H := f_iret H k269_10
    exact ⟨_, _, H, by rw [show min a b = b by omega], rfl⟩
  · rw [nxlt hb ha] at c
    replace H := f_iload_n H k269_5 rfl
    replace H := f_goto H k269_6 (t := 10) (by decide)
    replace H := f_iret H k269_10
    exact ⟨_, _, H, by rw [show min a b = a by omega], rfl⟩
/-- the table in memory, up to the corners C -/
def mY (m : xM) (C : Nat) (c : Mt) : Prop := ∀ a b, a < C → b < C → m.1 328 (8 * a + b) = nI (c a b)
theorem mY_s {m : xM} {C : Nat} {c : Mt} {a b v : Nat} (hC : C ≤ 8) (hb : b < C) (h : mY m C c) : mY (mI m 328 (8 * a + b) (nI v)) C (mst c a b v) := by
  intro i j hi hj
  by_cases e : i = a ∧ j = b
  · obtain ⟨rfl, rfl⟩ := e
    rw [mI_at, mst_at]
  · rw [mst_ne e, mI_ne (by omega)]
    exact h i j hi hj
def fr328 (m m2 : xM) : Prop := m2.2 = m.2 ∧ ∀ a i, a ≠ 328 → m2.1 a i = m.1 a i
theorem fr328_s {m m2 : xM} {i : Nat} {v : Int32} (h : fr328 m m2) : fr328 m (mI m2 328 i v) := ⟨h.1, fun a j ha => by rw [mI_ne (by omega)]; exact h.2 a j ha⟩
theorem mT_f {m m2 : xM} {C S : Nat} {A B Y : Nat → Nat} (hT : mT m C S A B Y) (h : ∀ i, (m2.1 314 25 = m.1 314 25 ∧ m2.1 314 26 = m.1 314 26) ∧ m2.1 320 i = m.1 320 i) : mT m2 C S A B Y := by
  obtain ⟨t1, t2, t3, t4, t5⟩ := hT
  exact ⟨by rw [(h 0).1.1]; exact t1, by rw [(h 0).1.2]; exact t2, t3, t4, fun s hs => by rw [(h _).2, (h _).2, (h _).2]; exact t5 s hs⟩
theorem mT_328 {m m2 : xM} {C S : Nat} {A B Y : Nat → Nat} (hT : mT m C S A B Y) (h : fr328 m m2) : mT m2 C S A B Y := mT_f hT (fun i => ⟨⟨h.2 _ _ (by decide), h.2 _ _ (by decide)⟩, h.2 _ _ (by decide)⟩)
set_option maxHeartbeats 4000000 in
theorem c_laysYards {m : xM} {C S w : Nat} {A B Y : Nat → Nat} (hr : rS m) (hT : mT m C S A B Y) (hw : w < 65536) : fC 198 [.ref 314, .int (nI w)] m (fun rv m' => rv = none ∧ fr328 m m' ∧ mY m' C (wyM C S A B Y w)) := by
  refine fC_of (by decide) (fun d n P H => ?_)
  obtain ⟨t1, t2, t3, t4, t5⟩ := id hT
  have hS : ∀ s, s < S → A s ≠ B s ∧ 1 ≤ Y s ∧ Y s ≤ 40 := fun s hs => ⟨(t5 s hs).2.2.2.2.2.1, (t5 s hs).2.2.2.2.2.2.1, (t5 s hs).2.2.2.2.2.2.2⟩
  have hle : ∀ s, s ≤ S → mle 100000 (wsM A B Y w (bas 100000) s) := fun s hs => wsM_le (fun k hk => hS k (by omega))
  -- over all corners
  have lB : ∀ n N, n ≤ N → ∀ o a b z1 (c : Mt) m2, o < C → a < C → b ≤ C → mle 100000 c → fr328 m m2 → rS m2 → mY m2 C (fwB o a c b) → (∀ m2, fr328 m m2 → rS m2 → mY m2 C (fwB o a c C) → xF 198 (xw d) P N 256 [(4, .int (nI C)), (3, .int (nI a)), (2, .int (nI o)), (0, .ref 314), (1, .int z1)] [] m2 → ∃ rv m', P rv m' ∧ rv = none ∧ fr328 m m' ∧ mY m' C (wyM C S A B Y w)) → xF 198 (xw d) P n 190 [(4, .int (nI b)), (3, .int (nI a)), (2, .int (nI o)), (0, .ref 314), (1, .int z1)] [] m2 → ∃ rv m', P rv m' ∧ rv = none ∧ fr328 m m' ∧ mY m' C (wyM C S A B Y w) := by
    intro n
    induction n with
    | zero => exact fun N _ o a b z1 c m2 _ _ _ _ _ _ _ _ H => (xF_0 H).elim
    | succ n ih =>
      intro N hN o a b z1 c m2 ho ha hb hc hf hr hY kk H
      have tC : m2.1 314 25 = nI C := by rw [hf.2 _ _ (by decide)]; exact t1
      replace H := f1_iload H k198_190 rfl
      replace H := f_aload_n H k198_192 rfl
      replace H := f_gi H k198_193 (ci := 12) (f := 25) (by decide +kernel) (by decide)
      rw [tC] at H
      have Hbr := f_icmp_ge H k198_196 (t := 256) (by decide)
      clear H
      rcases Hbr with ⟨c0, H⟩ | ⟨c0, H⟩
      · rw [nxle (by omega) (by omega)] at c0
        have eb : b = C := by omega
        subst eb
        exact kk m2 hf hr hY (f_up H (by omega))
      · rw [nxle (by omega) (by omega)] at c0
        have hle1 := fwB_le (o := o) (a := a) hc b
        have l1 := hle1 a b
        have l2 := hle1 a o
        have l3 := hle1 o b
        replace H := f_aload_n H k198_199 rfl
        replace H := f_gr H k198_200 (ci := 12) (f := 36) (x := 328) (by decide +kernel) (by decide) (hr 314 36 328 rfl)
        replace H := f_bipush H k198_203 (v := 8) (by decide)
        replace H := f_iload_n H k198_205 rfl
        replace H := f_imul H k198_206
        replace H := f_iload H k198_207 rfl
        replace H := f_iadd H k198_209
        replace H := f_aload_n H k198_210 rfl
        replace H := f_gr H k198_211 (ci := 12) (f := 36) (x := 328) (by decide +kernel) (by decide) (hr 314 36 328 rfl)
        replace H := f_bipush H k198_214 (v := 8) (by decide)
        replace H := f_iload_n H k198_216 rfl
        replace H := f_imul H k198_217
        replace H := f_iload H k198_218 rfl
        replace H := f_iadd H k198_220
        have Hob := f_iald H k198_221 (c := 64) (by decide)
        clear H
        obtain ⟨hb221, H⟩ := Hob
        replace H := f_aload_n H k198_222 rfl
        replace H := f_gr H k198_223 (ci := 12) (f := 36) (x := 328) (by decide +kernel) (by decide) (hr 314 36 328 rfl)
        replace H := f_bipush H k198_226 (v := 8) (by decide)
        replace H := f_iload_n H k198_228 rfl
        replace H := f_imul H k198_229
        replace H := f_iload_n H k198_230 rfl
        replace H := f_iadd H k198_231
        have Hob := f_iald H k198_232 (c := 64) (by decide)
        clear H
        obtain ⟨hb232, H⟩ := Hob
        replace H := f_aload_n H k198_233 rfl
        replace H := f_gr H k198_234 (ci := 12) (f := 36) (x := 328) (by decide +kernel) (by decide) (hr 314 36 328 rfl)
        replace H := f_bipush H k198_237 (v := 8) (by decide)
        replace H := f_iload_n H k198_239 rfl
        replace H := f_imul H k198_240
        replace H := f_iload H k198_241 rfl
        replace H := f_iadd H k198_243
        have Hob := f_iald H k198_244 (c := 64) (by decide)
        clear H
        obtain ⟨hb244, H⟩ := Hob
        replace H := f_iadd H k198_245
        rw [show (8 : Int32) = nI 8 from rfl, nI_mul, nI_mul, r_ad, r_ad, r_ad, nI_clamp (by omega), nI_clamp (by omega), nI_clamp (by omega), hY a b (by omega) (by omega), hY a o (by omega) (by omega), hY o b (by omega) (by omega), r_ad] at H
        obtain ⟨rv, m3, ⟨rfl, e3⟩, h9_246⟩ := f_ins H k198_246 (by decide +kernel) (as := [.int _, .int _]) (r := [.int _, .ref 328]) (by rfl) (c_minI (by omega) (by omega))
        replace H := h9_246
        rw [← e3] at H
        clear e3
        have Hob := f_iast H k198_249 (c := 64) (by decide)
        clear H
        obtain ⟨hb249, H⟩ := Hob
        replace H := f_iinc H k198_250 rfl (l2 := [(4, .int (nI b + 1)), (3, .int (nI a)), (2, .int (nI o)), (0, .ref 314), (1, .int z1)]) rfl
        replace H := f_goto H k198_253 (t := 190) (by decide)
        rw [nI_clamp (by omega), nI_s] at H
        exact ih N (by omega) o a (b + 1) z1 c _ ho ha (by omega) hc (fr328_s hf) hr (by rw [fwB_s]; exact mY_s t3 (by omega) hY) kk H
  have lA : ∀ n N, n ≤ N → ∀ o a z1 z4 (c : Mt) m2, o < C → a ≤ C → mle 100000 c → fr328 m m2 → rS m2 → mY m2 C (fwA C o c a) → (∀ z4 m2, fr328 m m2 → rS m2 → mY m2 C (fwA C o c C) → xF 198 (xw d) P N 262 [(3, .int (nI C)), (2, .int (nI o)), (4, .int z4), (0, .ref 314), (1, .int z1)] [] m2 → ∃ rv m', P rv m' ∧ rv = none ∧ fr328 m m' ∧ mY m' C (wyM C S A B Y w)) → xF 198 (xw d) P n 179 [(3, .int (nI a)), (2, .int (nI o)), (4, .int z4), (0, .ref 314), (1, .int z1)] [] m2 → ∃ rv m', P rv m' ∧ rv = none ∧ fr328 m m' ∧ mY m' C (wyM C S A B Y w) := by
    intro n
    induction n with
    | zero => exact fun N _ o a z1 z4 c m2 _ _ _ _ _ _ _ H => (xF_0 H).elim
    | succ n ih =>
      intro N hN o a z1 z4 c m2 ho ha hc hf hr hY kk H
      have tC : m2.1 314 25 = nI C := by rw [hf.2 _ _ (by decide)]; exact t1
      replace H := f1_iload_n H k198_179 rfl
      replace H := f_aload_n H k198_180 rfl
      replace H := f_gi H k198_181 (ci := 12) (f := 25) (by decide +kernel) (by decide)
      rw [tC] at H
      have Hbr := f_icmp_ge H k198_184 (t := 262) (by decide)
      clear H
      rcases Hbr with ⟨c0, H⟩ | ⟨c0, H⟩
      · rw [nxle (by omega) (by omega)] at c0
        have eb : a = C := by omega
        subst eb
        exact kk z4 m2 hf hr hY (f_up H (by omega))
      · rw [nxle (by omega) (by omega)] at c0
        replace H := f_iconst H k198_187 (v := 0) (by decide)
        replace H := f_istore H k198_188 (l2 := [(4, .int 0), (3, .int (nI a)), (2, .int (nI o)), (0, .ref 314), (1, .int z1)]) rfl
        refine lB n n (Nat.le_refl _) o a 0 z1 (fwA C o c a) m2 ho (by omega) (Nat.zero_le _) (fwA_le hc a) hf hr hY (fun m3 hf hr hY H => ?_) H
        replace H := f_iinc H k198_256 rfl (l2 := [(3, .int (nI a + 1)), (4, .int (nI C)), (2, .int (nI o)), (0, .ref 314), (1, .int z1)]) rfl
        replace H := f_goto H k198_259 (t := 179) (by decide)
        rw [nI_s] at H
        exact ih N (by omega) o (a + 1) z1 (nI C) c m3 ho (by omega) hc hf hr (by rw [fwA_s]; exact hY) kk (f_ext H (lE_cons rfl (lE_cons rfl (lE_cons rfl (lE_cons rfl (lE_cons rfl lE_nil))))) rfl rfl)
  have lO : ∀ n o z1 z3 z4 (c : Mt) m2, o ≤ C → mle 100000 c → c = wsM A B Y w (bas 100000) S → fr328 m m2 → rS m2 → mY m2 C (fwO C c o) → xF 198 (xw d) P n 169 [(2, .int (nI o)), (3, .int z3), (4, .int z4), (0, .ref 314), (1, .int z1)] [] m2 → ∃ rv m', P rv m' ∧ rv = none ∧ fr328 m m' ∧ mY m' C (wyM C S A B Y w) := by
    intro n
    induction n with
    | zero => exact fun o z1 z3 z4 c m2 _ _ _ _ _ _ H => (xF_0 H).elim
    | succ n ih =>
      intro o z1 z3 z4 c m2 ho hc ec hf hr hY H
      have tC : m2.1 314 25 = nI C := by rw [hf.2 _ _ (by decide)]; exact t1
      replace H := f1_iload_n H k198_169 rfl
      replace H := f_aload_n H k198_170 rfl
      replace H := f_gi H k198_171 (ci := 12) (f := 25) (by decide +kernel) (by decide)
      rw [tC] at H
      have Hbr := f_icmp_ge H k198_174 (t := 268) (by decide)
      clear H
      rcases Hbr with ⟨c0, H⟩ | ⟨c0, H⟩
      · rw [nxle (by omega) (by omega)] at c0
        have eb : o = C := by omega
        subst eb
        replace H := f_ret H k198_268
        exact ⟨_, _, H, rfl, hf, by rw [wyM, ← ec]; exact hY⟩
      · rw [nxle (by omega) (by omega)] at c0
        replace H := f_iconst H k198_177 (v := 0) (by decide)
        replace H := f_istore_n H k198_178 (l2 := [(3, .int 0), (2, .int (nI o)), (4, .int z4), (0, .ref 314), (1, .int z1)]) rfl
        refine lA n n (Nat.le_refl _) o 0 z1 z4 (fwO C c o) m2 (by omega) (Nat.zero_le _) (fwO_le hc o) hf hr hY (fun z4 m3 hf hr hY H => ?_) H
        replace H := f_iinc H k198_262 rfl (l2 := [(2, .int (nI o + 1)), (3, .int (nI C)), (4, .int z4), (0, .ref 314), (1, .int z1)]) rfl
        replace H := f_goto H k198_265 (t := 169) (by decide)
        rw [nI_s] at H
        exact ih (o + 1) z1 (nI C) z4 c m3 (by omega) hc ec hf hr (by rw [fwO_s]; exact hY) H
  -- over the streets
  have lS : ∀ n s z3 z4 m2, s ≤ S → fr328 m m2 → rS m2 → mY m2 C (wsM A B Y w (bas 100000) s) → xF 198 (xw d) P n 57 [(2, .int (nI s)), (3, .int z3), (4, .int z4), (0, .ref 314), (1, .int (nI w))] [] m2 → ∃ rv m', P rv m' ∧ rv = none ∧ fr328 m m' ∧ mY m' C (wyM C S A B Y w) := by
    intro n
    induction n with
    | zero => exact fun s z3 z4 m2 _ _ _ _ H => (xF_0 H).elim
    | succ n ih =>
      intro s z3 z4 m2 hs hf hr hY H
      have tS : m2.1 314 26 = nI S := by rw [hf.2 _ _ (by decide)]; exact t2
      replace H := f1_iload_n H k198_57 rfl
      replace H := f_aload_n H k198_58 rfl
      replace H := f_gi H k198_59 (ci := 12) (f := 26) (by decide +kernel) (by decide)
      rw [tS] at H
      have Hbr := f_icmp_ge H k198_62 (t := 167) (by decide)
      clear H
      rcases Hbr with ⟨c0, H⟩ | ⟨c0, H⟩
      · rw [nxle (by omega) (by omega)] at c0
        have eb : s = S := by omega
        subst eb
        replace H := f_iconst H k198_167 (v := 0) (by decide)
        replace H := f_istore_n H k198_168 (l2 := [(2, .int 0), (3, .int z3), (4, .int z4), (0, .ref 314), (1, .int (nI w))]) rfl
        exact lO n 0 (nI w) z3 z4 _ m2 (Nat.zero_le _) (hle s (Nat.le_refl _)) rfl hf hr hY H
      · rw [nxle (by omega) (by omega)] at c0
        obtain ⟨s1, s2, s3, s4, s5, s6, s7, s8⟩ := t5 s (by omega)
        rw [← hf.2 320 _ (by decide)] at s1 s2 s3
        replace H := f_iload_n H k198_65 rfl
        replace H := f_iload_n H k198_66 rfl
        obtain ⟨rv, m3, ⟨rfl, e3⟩, h9_67⟩ := f_ins H k198_67 (by decide +kernel) (as := [.int _, .int _]) (r := []) (by rfl) (c_hasN (by omega) (by omega))
        replace H := h9_67
        rw [← e3] at H
        clear e3
        cases hb : w.testBit s with
        | true =>
          rw [hb] at H
          replace H := f_if_eq_f H k198_70 (by decide)
          replace H := f_goto H k198_73 (t := 161) (by decide)
          replace H := f_iinc H k198_161 rfl (l2 := [(2, .int (nI s + 1)), (3, .int z3), (4, .int z4), (0, .ref 314), (1, .int (nI w))]) rfl
          replace H := f_goto H k198_164 (t := 57) (by decide)
          rw [nI_s] at H
          exact ih (s + 1) z3 z4 m2 (by omega) hf hr (by rw [wsM_t hb]; exact hY) H
        | false =>
          rw [hb] at H
          replace H := f_if_eq_t H k198_70 rfl (t := 76) (by decide)
          have l1 := hle s (by omega) (A s) (B s)
          replace H := f_bipush H k198_76 (v := 8) (by decide)
          replace H := f_aload_n H k198_78 rfl
          replace H := f_gr H k198_79 (ci := 12) (f := 19) (x := 320) (by decide +kernel) (by decide) (hr 314 19 320 rfl)
          replace H := f_iconst H k198_82 (v := 4) (by decide)
          replace H := f_iload_n H k198_83 rfl
          replace H := f_imul H k198_84
          have Hob := f_iald H k198_85 (c := 48) (by decide)
          clear H
          obtain ⟨hb85, H⟩ := Hob
          replace H := f_imul H k198_86
          replace H := f_aload_n H k198_87 rfl
          replace H := f_gr H k198_88 (ci := 12) (f := 19) (x := 320) (by decide +kernel) (by decide) (hr 314 19 320 rfl)
          replace H := f_iconst H k198_91 (v := 4) (by decide)
          replace H := f_iload_n H k198_92 rfl
          replace H := f_imul H k198_93
          replace H := f_iconst H k198_94 (v := 1) (by decide)
          replace H := f_iadd H k198_95
          have Hob := f_iald H k198_96 (c := 48) (by decide)
          clear H
          obtain ⟨hb96, H⟩ := Hob
          replace H := f_iadd H k198_97
          rw [show (4 : Int32) = nI 4 from rfl, nI_mul, nI_s, nI_clamp (by omega), nI_clamp (by omega), s1, s2, show (8 : Int32) = nI 8 from rfl, nI_mul, r_ad] at H
          replace H := f_istore_n H k198_98 (l2 := [(3, .int (nI (8 * A s + B s))), (2, .int (nI s)), (4, .int z4), (0, .ref 314), (1, .int (nI w))]) rfl
          replace H := f_bipush H k198_99 (v := 8) (by decide)
          replace H := f_aload_n H k198_101 rfl
          replace H := f_gr H k198_102 (ci := 12) (f := 19) (x := 320) (by decide +kernel) (by decide) (hr 314 19 320 rfl)
          replace H := f_iconst H k198_105 (v := 4) (by decide)
          replace H := f_iload_n H k198_106 rfl
          replace H := f_imul H k198_107
          replace H := f_iconst H k198_108 (v := 1) (by decide)
          replace H := f_iadd H k198_109
          have Hob := f_iald H k198_110 (c := 48) (by decide)
          clear H
          obtain ⟨hb110, H⟩ := Hob
          replace H := f_imul H k198_111
          replace H := f_aload_n H k198_112 rfl
          replace H := f_gr H k198_113 (ci := 12) (f := 19) (x := 320) (by decide +kernel) (by decide) (hr 314 19 320 rfl)
          replace H := f_iconst H k198_116 (v := 4) (by decide)
          replace H := f_iload_n H k198_117 rfl
          replace H := f_imul H k198_118
          have Hob := f_iald H k198_119 (c := 48) (by decide)
          clear H
          obtain ⟨hb119, H⟩ := Hob
          replace H := f_iadd H k198_120
          rw [show (4 : Int32) = nI 4 from rfl, nI_mul, nI_s, nI_clamp (by omega), nI_clamp (by omega), s1, s2, show (8 : Int32) = nI 8 from rfl, nI_mul, r_ad] at H
          replace H := f_istore H k198_121 (l2 := [(4, .int (nI (8 * B s + A s))), (3, .int (nI (8 * A s + B s))), (2, .int (nI s)), (0, .ref 314), (1, .int (nI w))]) rfl
          replace H := f_aload_n H k198_123 rfl
          replace H := f_gr H k198_124 (ci := 12) (f := 36) (x := 328) (by decide +kernel) (by decide) (hr 314 36 328 rfl)
          replace H := f_iload_n H k198_127 rfl
          replace H := f_aload_n H k198_128 rfl
          replace H := f_gr H k198_129 (ci := 12) (f := 36) (x := 328) (by decide +kernel) (by decide) (hr 314 36 328 rfl)
          replace H := f_iload_n H k198_132 rfl
          have Hob := f_iald H k198_133 (c := 64) (by decide)
          clear H
          obtain ⟨hb133, H⟩ := Hob
          replace H := f_aload_n H k198_134 rfl
          replace H := f_gr H k198_135 (ci := 12) (f := 19) (x := 320) (by decide +kernel) (by decide) (hr 314 19 320 rfl)
          replace H := f_iconst H k198_138 (v := 4) (by decide)
          replace H := f_iload_n H k198_139 rfl
          replace H := f_imul H k198_140
          replace H := f_iconst H k198_141 (v := 2) (by decide)
          replace H := f_iadd H k198_142
          have Hob := f_iald H k198_143 (c := 48) (by decide)
          clear H
          obtain ⟨hb143, H⟩ := Hob
          rw [show (4 : Int32) = nI 4 from rfl, nI_mul, show (2 : Int32) = nI 2 from rfl, r_ad, nI_clamp (by omega), nI_clamp (by omega), s3, hY (A s) (B s) s4 s5] at H
          obtain ⟨rv, m3, ⟨rfl, e3⟩, h9_144⟩ := f_ins H k198_144 (by decide +kernel) (as := [.int _, .int _]) (r := [.int _, .ref 328]) (by rfl) (c_minI (by omega) (by omega))
          replace H := h9_144
          rw [← e3] at H
          clear e3
          have Hob := f_iast H k198_147 (c := 64) (by decide)
          clear H
          obtain ⟨hb147, H⟩ := Hob
          replace H := f_aload_n H k198_148 rfl
          replace H := f_gr H k198_149 (ci := 12) (f := 36) (x := 328) (by decide +kernel) (by decide) (hr 314 36 328 rfl)
          replace H := f_iload H k198_152 rfl
          replace H := f_aload_n H k198_154 rfl
          replace H := f_gr H k198_155 (ci := 12) (f := 36) (x := 328) (by decide +kernel) (by decide) (hr 314 36 328 rfl)
          replace H := f_iload_n H k198_158 rfl
          have Hob := f_iald H k198_159 (c := 64) (by decide)
          clear H
          obtain ⟨hb159, H⟩ := Hob
          have Hob := f_iast H k198_160 (c := 64) (by decide)
          clear H
          obtain ⟨hb160, H⟩ := Hob
          replace H := f_iinc H k198_161 rfl (l2 := [(2, .int (nI s + 1)), (4, .int (nI (8 * B s + A s))), (3, .int (nI (8 * A s + B s))), (0, .ref 314), (1, .int (nI w))]) rfl
          replace H := f_goto H k198_164 (t := 57) (by decide)
          rw [nI_clamp (by omega), nI_clamp (by omega), mI_at, nI_s] at H
          refine ih (s + 1) _ _ (mI (mI m2 328 (8 * A s + B s) _) 328 (8 * B s + A s) _) (by omega) (fr328_s (fr328_s hf)) hr ?_ (f_ext H (lE_cons rfl (lE_cons rfl (lE_cons rfl (lE_cons rfl (lE_cons rfl lE_nil))))) rfl rfl)
          rw [wsM_f hb]
          exact mY_s t3 s4 (mY_s t3 s5 hY)
  -- the table laid
  have b2 : ∀ n N, n ≤ N → ∀ a b z1 m2, a < C → b ≤ C → fr328 m m2 → rS m2 → (∀ i j, i < C → j < C → (i < a ∨ (i = a ∧ j < b)) → m2.1 328 (8 * i + j) = nI (bas 100000 i j)) → (∀ m2, fr328 m m2 → rS m2 → (∀ i j, i < C → j < C → i < a + 1 → m2.1 328 (8 * i + j) = nI (bas 100000 i j)) → xF 198 (xw d) P N 49 [(3, .int (nI C)), (2, .int (nI a)), (0, .ref 314), (1, .int z1)] [] m2 → ∃ rv m', P rv m' ∧ rv = none ∧ fr328 m m' ∧ mY m' C (wyM C S A B Y w)) → xF 198 (xw d) P n 12 [(3, .int (nI b)), (2, .int (nI a)), (0, .ref 314), (1, .int z1)] [] m2 → ∃ rv m', P rv m' ∧ rv = none ∧ fr328 m m' ∧ mY m' C (wyM C S A B Y w) := by
    intro n
    induction n with
    | zero => exact fun N _ a b z1 m2 _ _ _ _ _ _ H => (xF_0 H).elim
    | succ n ih =>
      intro N hN a b z1 m2 ha hb hf hr hY kk H
      have tC : m2.1 314 25 = nI C := by rw [hf.2 _ _ (by decide)]; exact t1
      replace H := f1_iload_n H k198_12 rfl
      replace H := f_aload_n H k198_13 rfl
      replace H := f_gi H k198_14 (ci := 12) (f := 25) (by decide +kernel) (by decide)
      rw [tC] at H
      have Hbr := f_icmp_ge H k198_17 (t := 49) (by decide)
      clear H
      rcases Hbr with ⟨c0, H⟩ | ⟨c0, H⟩
      · rw [nxle (by omega) (by omega)] at c0
        have eb : b = C := by omega
        subst eb
        exact kk m2 hf hr (fun i j hi hj h => hY i j hi hj (by omega)) (f_up H (by omega))
      · rw [nxle (by omega) (by omega)] at c0
        have go : ∀ n, n ≤ N → (n < N) → True := fun _ _ _ => trivial
        have nx : ∀ v : Int32, v = nI (bas 100000 a b) → xF 198 (xw d) P n 42 [(3, .int (nI b)), (2, .int (nI a)), (0, .ref 314), (1, .int z1)] [.int v, .int (nI (8 * a + b)), .ref 328] m2 → ∃ rv m', P rv m' ∧ rv = none ∧ fr328 m m' ∧ mY m' C (wyM C S A B Y w) := by
          intro v ev H
          have Hob := f_iast H k198_42 (c := 64) (by decide)
          clear H
          obtain ⟨hb42, H⟩ := Hob
          replace H := f_iinc H k198_43 rfl (l2 := [(3, .int (nI b + 1)), (2, .int (nI a)), (0, .ref 314), (1, .int z1)]) rfl
          replace H := f_goto H k198_46 (t := 12) (by decide)
          rw [nI_clamp (by omega), nI_s] at H
          refine ih N (by omega) a (b + 1) z1 (mI m2 328 (8 * a + b) v) ha (by omega) (fr328_s hf) hr (fun i j hi hj h => ?_) kk H
          by_cases e : i = a ∧ j = b
          · obtain ⟨rfl, rfl⟩ := e
            rw [mI_at, ev]
          · rw [mI_ne (by omega)]
            exact hY i j hi hj (by omega)
        replace H := f_aload_n H k198_20 rfl
        replace H := f_gr H k198_21 (ci := 12) (f := 36) (x := 328) (by decide +kernel) (by decide) (hr 314 36 328 rfl)
        replace H := f_bipush H k198_24 (v := 8) (by decide)
        replace H := f_iload_n H k198_26 rfl
        replace H := f_imul H k198_27
        replace H := f_iload_n H k198_28 rfl
        replace H := f_iadd H k198_29
        replace H := f_iload_n H k198_30 rfl
        replace H := f_iload_n H k198_31 rfl
        rw [show (8 : Int32) = nI 8 from rfl, nI_mul, r_ad] at H
        have Hbr := f_icmp_ne H k198_32 (t := 39) (by decide)
        clear H
        rcases Hbr with ⟨c1, H⟩ | ⟨c1, H⟩
        · rw [nI_inj (by omega) (by omega)] at c1
          replace H := f_ldc_w H k198_39 (v := 100000) (by decide +kernel)
          exact nx _ (by rw [show bas 100000 a b = 100000 from if_neg c1]; rfl) H
        · rw [nI_inj (by omega) (by omega)] at c1
          replace H := f_iconst H k198_35 (v := 0) (by decide)
          replace H := f_goto H k198_36 (t := 42) (by decide)
          exact nx _ (by rw [show bas 100000 a b = 0 from if_pos c1]; rfl) H
  have b1 : ∀ n a z3 z1 m2, a ≤ C → z1 = nI w → fr328 m m2 → rS m2 → (∀ i j, i < C → j < C → i < a → m2.1 328 (8 * i + j) = nI (bas 100000 i j)) → xF 198 (xw d) P n 2 [(2, .int (nI a)), (3, .int z3), (0, .ref 314), (1, .int z1)] [] m2 → ∃ rv m', P rv m' ∧ rv = none ∧ fr328 m m' ∧ mY m' C (wyM C S A B Y w) := by
    intro n
    induction n with
    | zero => exact fun a z3 z1 m2 _ _ _ _ _ H => (xF_0 H).elim
    | succ n ih =>
      intro a z3 z1 m2 ha ez hf hr hY H
      have tC : m2.1 314 25 = nI C := by rw [hf.2 _ _ (by decide)]; exact t1
      replace H := f1_iload_n H k198_2 rfl
      replace H := f_aload_n H k198_3 rfl
      replace H := f_gi H k198_4 (ci := 12) (f := 25) (by decide +kernel) (by decide)
      rw [tC] at H
      have Hbr := f_icmp_ge H k198_7 (t := 55) (by decide)
      clear H
      rcases Hbr with ⟨c0, H⟩ | ⟨c0, H⟩
      · rw [nxle (by omega) (by omega)] at c0
        have eb : a = C := by omega
        subst eb
        subst ez
        replace H := f_iconst H k198_55 (v := 0) (by decide)
        replace H := f_istore_n H k198_56 (l2 := [(2, .int 0), (3, .int z3), (0, .ref 314), (1, .int (nI w))]) rfl
        replace H := f_ext H (l' := [(2, .int 0), (3, .int z3), (4, .int 0), (0, .ref 314), (1, .int (nI w))]) (lE_cons rfl (lE_cons rfl (lE_cons rfl (lE_cons rfl (lE_nil))))) rfl rfl
        exact lS n 0 z3 0 m2 (Nat.zero_le _) hf hr (fun i j hi hj => hY i j hi hj hi) H
      · rw [nxle (by omega) (by omega)] at c0
        replace H := f_iconst H k198_10 (v := 0) (by decide)
        replace H := f_istore_n H k198_11 (l2 := [(3, .int 0), (2, .int (nI a)), (0, .ref 314), (1, .int z1)]) rfl
        refine b2 n n (Nat.le_refl _) a 0 z1 m2 (by omega) (Nat.zero_le _) hf hr (fun i j hi hj h => hY i j hi hj (by omega)) (fun m3 hf hr hY H => ?_) H
        replace H := f_iinc H k198_49 rfl (l2 := [(2, .int (nI a + 1)), (3, .int (nI C)), (0, .ref 314), (1, .int z1)]) rfl
        replace H := f_goto H k198_52 (t := 2) (by decide)
        rw [nI_s] at H
        exact ih (a + 1) (nI C) z1 m3 (by omega) ez hf hr hY H
  replace H := f_iconst H k198_0 (v := 0) (by decide)
  replace H := f_istore_n H k198_1 (l2 := [(2, .int 0), (0, .ref 314), (1, .int (nI w))]) rfl
  replace H := f_ext H (l' := [(2, .int 0), (3, .int 0), (0, .ref 314), (1, .int (nI w))]) (lE_cons rfl (lE_cons rfl (lE_cons rfl (lE_nil)))) rfl rfl
  exact b1 n 0 0 (nI w) m (Nat.zero_le _) rfl ⟨rfl, fun _ _ _ => rfl⟩ hr (fun i j _ _ h => absurd h (Nat.not_lt_zero _)) H
