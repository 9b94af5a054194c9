/-! L2: the check of a contract is sound -/
theorem lkA_tagL {j : Nat} : ∀ {L : aLs}, lkA j (tagL L) = (lkA j L).map (fun v => (v.1, v.2.1, v.2.2.1, v.2.2.2.1, (0, 0, 0), bif Nat.beq v.1 1 then some (j, 0) else none))
  | [] => rfl
  | (i, v) :: t => by
    show lkA j ((i, _) :: tagL t) = _
    by_cases e : i = j
    · subst e
      rw [lkA_h, lkA_h]
      rfl
    · rw [lkA_t e, lkA_t e]
      exact lkA_tagL
theorem gL_tagL {s0 : Nat → Int} {l : List (Nat × Value)} {L : aLs} (h : gL s0 l L) : gL (xv l) l (tagL L) := by
  intro j v hv
  rw [lkA_tagL] at hv
  cases e : lkA j L with
  | none => rw [e] at hv; cases hv
  | some u =>
    rw [e] at hv
    cases hv
    obtain ⟨x, e1, h1⟩ := h _ _ e
    refine ⟨x, e1, ?_⟩
    rcases h1 with h1 | ⟨h1, z, h2, h3, h4⟩ | h1
    · exact Or.inl h1
    · refine Or.inr (Or.inl ⟨h1, z, h2, h3, ?_⟩)
      show tOk (xv l) z (bif Nat.beq u.1 1 then some (j, 0) else none)
      rw [beqN.mpr h1]
      show z.toInt = xv l j + 0
      unfold xv
      rw [e1, h2]
      show z.toInt = z.toInt + 0
      omega
    · exact Or.inr (Or.inr h1)
theorem xv_rng (l : List (Nat × Value)) (j : Nat) : iLo ≤ xv l j ∧ xv l j ≤ iHi := by
  unfold xv
  split
  · exact i32_rng _
  · exact ⟨by decide, by decide⟩
def bT (r : Nat × Int × Int × Bool) : Int := r.2.1 * (iHi + 1 + r.2.2.1.natAbs)
def bR : aRk → Int
  | [] => 0
  | r :: t => bT r + bR t
theorem muT_b {r : Nat × Int × Int × Bool} (h : 0 ≤ r.2.1) (l : List (Nat × Value)) : muT r (xv l) ≤ bT r := by
  obtain ⟨h1, h2⟩ := xv_rng l r.1
  unfold iLo at h1
  unfold iHi at h2
  unfold muT bT
  have h3 : (iHi : Int) = 2147483647 := rfl
  rw [h3]
  cases r.2.2.2
  · exact Int.mul_le_mul_of_nonneg_left (by omega) h
  · exact Int.mul_le_mul_of_nonneg_left (by omega) h
theorem muR_b {l : List (Nat × Value)} : ∀ {R : aRk}, (∀ r ∈ R, 0 ≤ r.2.1) → muR R (xv l) ≤ bR R
  | [], _ => Int.le_refl _
  | r :: t, h => by
    have h1 := muT_b (h r List.mem_cons_self) l
    have h2 := muR_b (l := l) (R := t) (fun q hq => h q (List.mem_cons_of_mem _ hq))
    show muT r (xv l) + muR t (xv l) ≤ bT r + bR t
    omega
theorem wfN_w {nd : aNd} (h : wfN nd = true) : ∀ r ∈ nd.2.2.2.2, 0 ≤ r.2.1 := by
  unfold wfN at h
  simp only [Bool.and_eq_true, ile_iff] at h
  intro r hr
  have := List.all_eq_true.mp h.2 r hr
  simp only [Bool.and_eq_true, ile_iff] at this
  exact this.1
theorem muN_b : ∀ {N : List aNd}, (∀ nd ∈ N, wfN nd = true) → ∃ K : Nat, ∀ nd ∈ N, ∀ l, muN nd l ≤ (K : Int)
  | [], _ => ⟨0, fun nd h => by cases h⟩
  | n :: t, h => by
    obtain ⟨K, hK⟩ := muN_b (N := t) (fun nd hn => h nd (List.mem_cons_of_mem _ hn))
    refine ⟨K + (n.2.2.2.1 + bR n.2.2.2.2).toNat, fun nd hn l => ?_⟩
    rcases List.mem_cons.mp hn with e | e
    · subst e
      have := muR_b (l := l) (wfN_w (h nd List.mem_cons_self))
      unfold muN
      omega
    · have := hK nd e l
      omega
def posP (l0 : List (Nat × Value)) : Nat → List Value → Prop
  | _, [] => True
  | i, x :: vs => lkl i l0 = some x ∧ posP l0 (if x.category = 2 then i + 2 else i + 1) vs
theorem lkl_app {i : Nat} {pre t : List (Nat × Value)} (h : ∀ q ∈ pre, q.1 < i) : lkl i (pre ++ t) = lkl i t := by
  induction pre with
  | nil => rfl
  | cons q r ih =>
    have h1 := h q List.mem_cons_self
    show lkl i ((q.1, q.2) :: (r ++ t)) = _
    rw [lkl_t (by omega)]
    exact ih (fun p hp => h p (List.mem_cons_of_mem _ hp))
theorem posP_pre : ∀ {vs : List Value} {i : Nat} {pre : List (Nat × Value)}, (∀ q ∈ pre, q.1 < i) → posP (pre ++ lv_args i vs) i vs
  | [], _, _, _ => trivial
  | x :: vs, i, pre, h => by
    have e : pre ++ lv_args i (x :: vs) = (pre ++ [(i, x)]) ++ lv_args (if x.category = 2 then i + 2 else i + 1) vs := by
      rw [List.append_assoc]
      rfl
    refine ⟨?_, ?_⟩
    · rw [lkl_app h]
      exact lkl_h
    · rw [e]
      refine posP_pre (fun q hq => ?_)
      rcases List.mem_append.mp hq with c | c
      · have := h q c
        split <;> omega
      · rw [List.mem_singleton.mp c]
        show i < _
        split <;> omega
theorem posP_0 (vs : List Value) : posP (lv_args 0 vs) 0 vs := posP_pre (pre := []) (fun q hq => by cases hq)
theorem aH_cat {s0 : Nat → Int} {x : Value} {a : aV} (h : aH s0 x a) : (Nat.ble 2 a.1 = true ∧ x.category = 2) ∨ (Nat.ble 2 a.1 = false ∧ x.category = 1) := by
  rcases h with ⟨h1, b, hb, _⟩ | ⟨h1, b, hb, _⟩ | ⟨h1, b, hb, _⟩
  · rw [hb, h1]; exact Or.inr ⟨rfl, rfl⟩
  · rw [hb, h1]; exact Or.inr ⟨rfl, rfl⟩
  · rw [hb]; exact Or.inl ⟨bleN.mpr (by omega), rfl⟩
theorem nx_cat {s0 : Nat → Int} {x : Value} {a : aV} (h : aH s0 x a) (i : Nat) : (if x.category = 2 then i + 2 else i + 1) = (bif Nat.ble 2 a.1 then i + 2 else i + 1) := by
  rcases aH_cat h with ⟨h1, h2⟩ | ⟨h1, h2⟩
  · rw [h1, h2]; rfl
  · rw [h1, h2]; rfl
theorem gL_argL {l0 : List (Nat × Value)} : ∀ {vs : List Value} {as : List aV} {i : Nat}, aMt vs as → posP l0 i vs → gL (fun _ => 0) l0 (argL i as)
  | [], [], _, _, _ => fun j v h => by cases h
  | x :: vs, a :: as, i, h, hp => by
    intro j v hv
    have hv : lkA j ((i, aNs a) :: argL (bif Nat.ble 2 a.1 then i + 2 else i + 1) as) = some v := hv
    by_cases e : i = j
    · subst e
      rw [lkA_h] at hv
      cases hv
      exact ⟨x, hp.1, aH_ns h.1⟩
    · rw [lkA_t e] at hv
      have h2 := hp.2
      rw [nx_cat h.1] at h2
      exact gL_argL h.2 h2 j v hv
  | [], _ :: _, _, h, _ => h.elim
  | _ :: _, [], _, h, _ => h.elim
theorem sl_len : ∀ {vs : List Value} {as : List aV}, aMt vs as → (lg_sl vs).length = (as.map aCat).sum
  | [], [], _ => rfl
  | x :: vs, a :: as, h => by
    have ih := sl_len h.2
    have e : (lg_sl (x :: vs)).length = (if x.category = 2 then [Slot.val x, .second] else [.val x]).length + (lg_sl vs).length := by
      show (List.flatMap _ (x :: vs)).length = _
      rw [List.flatMap_cons, List.length_append]
      rfl
    rw [e, ih, List.map_cons, List.sum_cons]
    congr 1
    unfold aCat
    rcases aH_cat h.1 with ⟨h1, h2⟩ | ⟨h1, h2⟩
    · rw [h1, h2]; rfl
    · rw [h1, h2]; rfl
  | [], _ :: _, h => h.elim
  | _ :: _, [], h => h.elim
theorem agA_ok {s0 : Nat → Int} {l0 l : List (Nat × Value)} {L : aLs} {arg : Bool} (hs : arg = true → s0 = xv l0) (hL : gL s0 l L) : ∀ {vs : List Value} {as : List aV} {rs : List (Int × Int)} {i : Nat}, aMt vs as → posP l0 i vs → retA.agA arg (argP i as) rs L = true → argB vs rs
  | [], [], _, _, _, _, _ => trivial
  | _ :: _, _ :: _, [], _, _, _, _ => trivial
  | x :: vs, a :: as, r :: rs, i, h, hp, hl => by
    have hl : (((ile r.1 lLo && ile lHi r.2) || (arg && (Nat.beq a.1 1 && (match lkA i L with
      | some v => (match v.2.2.2.2.2 with
        | some (q, d) => Nat.beq q i && (ile 0 d && (ile d 0 && (Nat.beq v.1 1 && (ile r.1 v.2.2.1 && ile v.2.2.2.1 r.2))))
        | none => false)
      | none => false)))) && retA.agA arg (argP (bif Nat.ble 2 a.1 then i + 2 else i + 1) as) rs L) = true := hl
    rw [Bool.and_eq_true] at hl
    obtain ⟨h1, h2⟩ := hl
    have hp2 := hp.2
    rw [nx_cat h.1] at hp2
    refine ⟨?_, agA_ok hs hL h.2 hp2 h2⟩
    rw [Bool.or_eq_true] at h1
    rcases h1 with h1 | h1
    · simp only [Bool.and_eq_true, ile_iff] at h1
      refine ⟨fun z hz => ?_, fun z hz => ?_⟩
      · have := i32_rng z
        unfold iLo iHi at this
        unfold lLo lHi at h1
        omega
      · have := i64_rng z
        omega
    · rw [Bool.and_eq_true, Bool.and_eq_true] at h1
      obtain ⟨h3, h9, h4⟩ := h1
      have hs := hs h3
      subst hs
      split at h4
      · rename_i v hv
        split at h4
        · rename_i q d ht
          simp only [Bool.and_eq_true, ile_iff, beqN] at h4
          obtain ⟨k1, k2, k3, k4, k5, k6⟩ := h4
          subst k1
          obtain ⟨y, e1, g1⟩ := hL _ _ hv
          obtain ⟨w, e2, g2, g3⟩ := aH_int g1 k4
          rw [ht] at g3
          have g3 : w.toInt = xv l0 q + d := g3
          have hpq := hp.1
          refine ⟨fun z hz => ?_, fun z hz => ?_⟩
          · have e3 : xv l0 q = z.toInt := by
              unfold xv
              rw [hpq, hz]
            omega
          · obtain ⟨z9, e9, -⟩ := aH_int h.1 (beqN.mp h9)
            rw [e9] at hz
            cases hz
        · cases h4
      · cases h4
  | [], _ :: _, _, _, h, _, _ => h.elim
  | _ :: _, [], _, _, h, _, _ => h.elim
theorem aH_cl {s0 s1 : Nat → Int} {x : Value} {a : aV} (h : aH s0 x a) : aH s1 x (aCl a) := by
  rcases h with h | ⟨h1, z, h2, h3, h4⟩ | h
  · exact Or.inl h
  · exact Or.inr (Or.inl ⟨h1, z, h2, h3, trivial⟩)
  · exact Or.inr (Or.inr h)
section CHKE
variable {J : xM → Prop}
variable {tS : Nat → List (Nat × Int × Int)} {tR : Nat → Nat → Option Nat} {m0 : xM} {T : List aCt} {c : aCt} {N : List aNd} {sp : List (Nat × Nat)} {D d : Nat}
theorem retA_ok {s0 : Nat → Int} {vs : List Value} {arg : Bool} (hs : arg = true → s0 = xv (lv_args 0 vs)) (hv : aMt vs c.2.1) {P : Option Value → xM → Prop} (hP : ∀ rv m', cPo tS tR c m0 vs rv m' → P rv m') : rOk tS tR m0 c.2.2.2.2 s0 (retA tS c.2.2.2.1 arg (argP 0 c.2.1)) P := by
  intro rv L F l m v h hI hM hL hF hr
  refine hP _ _ ⟨hI, hM, ?_⟩
  unfold retA at h
  obtain ⟨o, ho, h⟩ := List.any_eq_true.mp h
  simp only [Bool.and_eq_true] at h
  obtain ⟨h1, h2, h3⟩ := h
  refine ⟨o, ho, ?_, agA_ok hs hL hv (posP_0 vs) h3, fLe_ok hI hF h2⟩
  split at h1
  · rename_i e1
    rw [e1]
    exact hr
  · rename_i u w e1
    rw [e1]
    obtain ⟨x, k1, k2⟩ := hr
    exact ⟨x, k1, aH_cl (aLe_ok (s1 := s0) k2.1 h1)⟩
  · cases h1
theorem nodes_ok (hT : ∀ c ∈ T, vC tS tR J D c) (hd : D ≤ d) (hJ : ∀ m, gM m0 c.2.2.2.2 m → J m) {fu : Nat} {vs : List Value} (hv : aMt vs c.2.1) (hW : ∀ nd ∈ N, wfN nd = true) (hN : ∀ nd ∈ N, wkA tS tR T c (argP 0 c.2.1) N sp (some (nd.2.2.2.1, nd.2.2.2.2)) fu true nd.1 (tagL nd.2.1) [] nd.2.2.1 = true) {P : Option Value → xM → Prop} (hP : ∀ rv m', cPo tS tR c m0 vs rv m' → P rv m') : ∀ u : Nat, ∀ nd ∈ N, ∀ l m, gNd tS tR m0 c nd l m → muN nd l ≤ (u : Int) → ∀ f, (u + 1) * fu ≤ f → xe c.1 (xw d) P f nd.1 l [] m := by
  intro u
  induction u with
  | zero =>
    intro nd hn l m hg hu f hf
    refine wkA_ok (m0 := m0) (base := 0) (s0 := xv l) hT hd hJ hW (fun q hq => ?_) (fun nd' hn' l' m' hg' hq' => ?_) (retA_ok (fun z => by cases z) hv hP) fu f true nd.1 (tagL nd.2.1) [] nd.2.2.1 l [] m (hN nd hn) (by omega) hg.1 hg.2.1 (gL_tagL hg.2.2.1) trivial hg.2.2.2
    · cases hq
      exact (wfN_ok (hW nd hn) hg.2.2.1).2.2
    · have h1 := hq' _ rfl
      have h2 := wfN_ok (hW nd' hn') hg'.2.2.1
      have h3 := muR_nn h2.2.2
      have h1 : muN nd' l' + 1 ≤ muN nd l := h1
      unfold muN at h1 hu
      omega
  | succ u ih =>
    intro nd hn l m hg hu f hf
    refine wkA_ok (m0 := m0) (base := (u + 1) * fu) (s0 := xv l) hT hd hJ hW (fun q hq => ?_) (fun nd' hn' l' m' hg' hq' => ?_) (retA_ok (fun z => by cases z) hv hP) fu f true nd.1 (tagL nd.2.1) [] nd.2.2.1 l [] m (hN nd hn) (by rw [Nat.add_mul] at hf; omega) hg.1 hg.2.1 (gL_tagL hg.2.2.1) trivial hg.2.2.2
    · cases hq
      exact (wfN_ok (hW nd hn) hg.2.2.1).2.2
    · have h1 := hq' _ rfl
      have h1 : muN nd' l' + 1 ≤ muN nd l := h1
      exact ih nd' hn' l' m' hg' (by omega)
theorem chk_ok (hT : ∀ c ∈ T, vC tS tR J D c) (hst : ∀ m0 m, gM m0 c.2.2.2.2 m → J m0 → J m) {fu : Nat} (h : chk tS tR fu T c N sp = true) : vC tS tR J (D + 1) c := by
  intro d hd m vs P hI hj hv hF hP
  have hJ : ∀ m', gM m c.2.2.2.2 m' → J m' := fun m' h => hst m m' h hj
  unfold chk at h
  simp only [Bool.and_eq_true, beqN, bleN, bltN] at h
  obtain ⟨h1, h2, h3, h4, -, h6, h7, h8⟩ := h
  obtain ⟨d, rfl⟩ : ∃ e, d = e + 1 := ⟨d - 1, by omega⟩
  have hW : ∀ nd ∈ N, wfN nd = true := fun nd hn => by
    have := List.all_eq_true.mp h6 nd hn
    simp only [Bool.and_eq_true] at this
    exact this.1
  obtain ⟨K, hK⟩ := muN_b hW
  show bif Nat.ble 271 c.1 then _ else _
  have e : Nat.ble 271 c.1 = false := by
    cases e : Nat.ble 271 c.1 with
    | false => rfl
    | true => have := bleN.mp e; omega
  rw [e]
  refine ⟨h2, h3, by rw [sl_len hv]; exact h4, fu + (K + 1) * fu, ?_⟩
  exact wkA_ok (m0 := m) (base := (K + 1) * fu) (s0 := xv (lv_args 0 vs)) hT (by omega) hJ hW (fun q hq => by cases hq) (fun nd hn l m' hg _ => nodes_ok hT (by omega) hJ hv hW (List.all_eq_true.mp h8) hP K nd hn l m' hg (hK nd hn l)) (retA_ok (fun _ => rfl) hv hP) fu _ false 0 _ [] _ _ [] m h7 (Nat.le_refl _) hI (fun a i _ => rfl) (gL_tagL (gL_argL hv (posP_0 vs))) trivial hF
theorem chkV_ok (hT : ∀ c ∈ T, vC tS tR J D c) (hst : ∀ m0 m, gM m0 c.2.2.2.2 m → J m0 → J m) {fu a i n : Nat} {lo : Int} (h : chkV tS tR fu T c N sp a i lo n = true) : vC tS tR J (D + 1) c := by
  intro d hd m vs P hI hj hv hF hP
  have hJ : ∀ m', gM m c.2.2.2.2 m' → J m' := fun m' h => hst m m' h hj
  unfold chkV at h
  simp only [Bool.and_eq_true, beqN, bleN, bltN, ile_iff] at h
  obtain ⟨h1, h2, h3, h4, h5, h6, h7, h8⟩ := h
  obtain ⟨d, rfl⟩ : ∃ e, d = e + 1 := ⟨d - 1, by omega⟩
  have hW : ∀ nd ∈ N, wfN nd = true := fun nd hn => by
    have := List.all_eq_true.mp h6 nd hn
    simp only [Bool.and_eq_true] at this
    exact this.1
  obtain ⟨K, hK⟩ := muN_b hW
  show bif Nat.ble 271 c.1 then _ else _
  have e : Nat.ble 271 c.1 = false := by
    cases e : Nat.ble 271 c.1 with
    | false => rfl
    | true => have := bleN.mp e; omega
  rw [e]
  refine ⟨h2, h3, by rw [sl_len hv]; exact h4, fu + (K + 1) * fu, ?_⟩
  have g := hI.1 a i
  have h7 := List.all_eq_true.mp h7 ((m.1 a i).toInt - lo).toNat (List.mem_range.mpr (by omega))
  have hv2 : lo + ((((m.1 a i).toInt - lo).toNat : Nat) : Int) = (m.1 a i).toInt := by omega
  rw [hv2] at h7
  have hF2 : gF m ((a, i, (m.1 a i).toInt, (m.1 a i).toInt) :: c.2.2.1) := by
    intro b j r hr
    by_cases z : b = a ∧ j = i
    · obtain ⟨rfl, rfl⟩ := z
      rw [fct_h] at hr
      cases hr
      exact ⟨Int.le_refl _, Int.le_refl _⟩
    · rw [fct_t z] at hr
      exact hF b j r hr
  exact wkA_ok (m0 := m) (base := (K + 1) * fu) (s0 := xv (lv_args 0 vs)) hT (by omega) hJ hW (fun q hq => by cases hq) (fun nd hn l m' hg _ => nodes_ok hT (by omega) hJ hv hW (List.all_eq_true.mp h8) hP K nd hn l m' hg (hK nd hn l)) (retA_ok (fun _ => rfl) hv hP) fu _ false 0 _ [] _ _ [] m h7 (Nat.le_refl _) hI (fun a i _ => rfl) (gL_tagL (gL_argL hv (posP_0 vs))) trivial hF2
end CHKE
