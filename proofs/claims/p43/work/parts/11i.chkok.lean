/-! L2: a method's contract out of the check of its blocks -/
def xv (l : List (Nat × Value)) (j : Nat) : Int := match lkl j l with
  | some (.int x) => x.toInt
  | _ => 0
def muT (r : Nat × Int × Int × Bool) (x : Nat → Int) : Int := bif r.2.2.2 then r.2.1 * (r.2.2.1 - x r.1) else r.2.1 * (x r.1 - r.2.2.1)
def muR : aRk → (Nat → Int) → Int
  | [], _ => 0
  | r :: t, x => muT r x + muR t x
theorem rEq_ok {q r : Nat × Int × Int × Bool} (h : rEq q r = true) : q = r := by
  unfold rEq at h
  simp only [Bool.and_eq_true, beqN, decide_eq_true_eq] at h
  obtain ⟨h1, h2, h3, h4⟩ := h
  exact Prod.ext h1 (Prod.ext h2 (Prod.ext h3 h4))
theorem rkE_ok {r : Nat × Int × Int × Bool} {x : Nat → Int} : ∀ {R S : aRk}, rkE r R = some S → muR R x = muT r x + muR S x ∧ ∀ q ∈ S, q ∈ R
  | [], S, h => by cases h
  | q :: t, S, h => by
    unfold rkE at h
    cases e : rEq q r with
    | true =>
      rw [e] at h
      cases h
      rw [rEq_ok e]
      exact ⟨rfl, fun q hq => List.mem_cons_of_mem _ hq⟩
    | false =>
      rw [e] at h
      have h : (match rkE r t with | some s => some (q :: s) | none => none) = some S := h
      split at h
      · rename_i s e2
        cases h
        obtain ⟨h1, h2⟩ := rkE_ok (x := x) e2
        refine ⟨?_, fun p hp => ?_⟩
        · show muT q x + muR t x = muT r x + (muT q x + muR s x)
          omega
        · rcases List.mem_cons.mp hp with c | c
          · rw [c]; exact List.mem_cons_self
          · exact List.mem_cons_of_mem _ (h2 p c)
      · cases h
theorem muR_nn {x : Nat → Int} : ∀ {R : aRk}, (∀ r ∈ R, 0 ≤ muT r x) → 0 ≤ muR R x
  | [], _ => Int.le_refl _
  | r :: t, h => by
    have h1 := h r List.mem_cons_self
    have h2 := muR_nn (R := t) (fun q hq => h q (List.mem_cons_of_mem _ hq))
    show 0 ≤ muT r x + muR t x
    omega
theorem rkD_ok {s0 : Nat → Int} {l : List (Nat × Value)} {L : aLs} (hL : gL s0 l L) : ∀ {T R : aRk} {s : Int}, rkD L R T = some s → (∀ r ∈ R, 0 ≤ muT r s0) → (∀ r ∈ T, 0 ≤ r.2.1) → muR T (xv l) ≤ s + muR R s0
  | [], R, s, h, hR, _ => by
    have h : some 0 = some s := by
      cases R <;> exact h
    cases h
    have := muR_nn hR
    show (0 : Int) ≤ 0 + muR R s0
    omega
  | r :: t, R, s, h, hR, hw => by
    have hw1 := hw r List.mem_cons_self
    have hw2 : ∀ q ∈ t, 0 ≤ q.2.1 := fun q hq => hw q (List.mem_cons_of_mem _ hq)
    unfold rkD at h
    split at h
    · cases h
    · rename_i v hv
      obtain ⟨x, e1, h1⟩ := hL _ _ hv
      split at h
      · rename_i R' e2
        split at h
        · rename_i q d e3
          split at h
          · rename_i s' e4
            obtain ⟨h2, h3⟩ := bif_t h
            cases h3
            simp only [Bool.and_eq_true, beqN] at h2
            obtain ⟨z, e5, h4, h5⟩ := aH_int h1 h2.2
            rw [e3] at h5
            have h5 : z.toInt = s0 q + d := h5
            obtain ⟨k1, k2⟩ := rkE_ok (x := s0) e2
            have ih := rkD_ok hL e4 (fun p hp => hR p (k2 p hp)) hw2
            have ex : xv l r.1 = z.toInt := by
              unfold xv
              rw [e1, e5]
            rw [k1]
            have hq : q = r.1 := h2.1
            have key : muT r (xv l) = muT r s0 + (bif r.2.2.2 then -(r.2.1 * d) else r.2.1 * d) := by
              unfold muT
              rw [ex, h5, hq]
              cases r.2.2.2
              · show r.2.1 * (s0 r.1 + d - r.2.2.1) = r.2.1 * (s0 r.1 - r.2.2.1) + r.2.1 * d
                rw [← Int.mul_add]
                congr 1
                omega
              · show r.2.1 * (r.2.2.1 - (s0 r.1 + d)) = r.2.1 * (r.2.2.1 - s0 r.1) + -(r.2.1 * d)
                rw [← Int.mul_neg, ← Int.mul_add]
                congr 1
                omega
            show muT r (xv l) + muR t (xv l) ≤ _
            omega
          · cases h
        · cases h
      · split at h
        · rename_i s' e4
          obtain ⟨h2, h3⟩ := bif_t h
          cases h3
          have h2 := beqN.mp h2
          obtain ⟨z, e5, h4, h5⟩ := aH_int h1 h2
          have ih := rkD_ok hL e4 hR hw2
          have ex : xv l r.1 = z.toInt := by
            unfold xv
            rw [e1, e5]
          have key : muT r (xv l) ≤ (bif r.2.2.2 then r.2.1 * (r.2.2.1 - v.2.2.1) else r.2.1 * (v.2.2.2.1 - r.2.2.1)) := by
            unfold muT
            rw [ex]
            cases r.2.2.2
            · exact Int.mul_le_mul_of_nonneg_left (by omega) hw1
            · exact Int.mul_le_mul_of_nonneg_left (by omega) hw1
          show muT r (xv l) + muR t (xv l) ≤ _
          omega
        · cases h
def muN (nd : aNd) (l : List (Nat × Value)) : Int := nd.2.2.2.1 + muR nd.2.2.2.2 (xv l)
theorem lLe_ok {s0 s1 : Nat → Int} {l : List (Nat × Value)} {L : aLs} (hL : gL s0 l L) : ∀ {K : aLs}, lLe L K = true → gL s1 l K
  | [], _ => fun j v h => by cases h
  | (i, w) :: t, h => by
    have h : ((match lkA i L with | some v => aLe v w | none => false) && lLe L t) = true := h
    simp only [Bool.and_eq_true] at h
    intro j v hv
    by_cases e : i = j
    · subst e
      rw [lkA_h] at hv
      cases hv
      have h1 := h.1
      split at h1
      · rename_i u hu
        obtain ⟨x, e1, h2⟩ := hL _ _ hu
        exact ⟨x, e1, aLe_ok h2 h1⟩
      · cases h1
    · rw [lkA_t e] at hv
      exact lLe_ok hL h.2 j v hv
theorem wfN_ok {s0 : Nat → Int} {nd : aNd} (h : wfN nd = true) {l : List (Nat × Value)} (hL : gL s0 l nd.2.1) : 0 ≤ nd.2.2.2.1 ∧ (∀ r ∈ nd.2.2.2.2, 0 ≤ r.2.1) ∧ ∀ r ∈ nd.2.2.2.2, 0 ≤ muT r (xv l) := by
  unfold wfN at h
  simp only [Bool.and_eq_true, ile_iff] at h
  obtain ⟨h1, h2⟩ := h
  refine ⟨h1, fun r hr => ?_, fun r hr => ?_⟩
  · have := List.all_eq_true.mp h2 r hr
    simp only [Bool.and_eq_true, ile_iff] at this
    exact this.1
  · have := List.all_eq_true.mp h2 r hr
    simp only [Bool.and_eq_true, ile_iff] at this
    obtain ⟨h3, h4⟩ := this
    split at h4
    · rename_i v hv
      simp only [Bool.and_eq_true, beqN] at h4
      obtain ⟨x, e1, h5⟩ := hL _ _ hv
      obtain ⟨z, e2, h6, -⟩ := aH_int h5 h4.1
      have ex : xv l r.1 = z.toInt := by
        unfold xv
        rw [e1, e2]
      have h7 := h4.2
      unfold muT
      rw [ex]
      cases e : r.2.2.2
      · rw [e] at h7
        have h7 := ile_iff.mp h7
        exact Int.mul_nonneg h3 (by omega)
      · rw [e] at h7
        have h7 := ile_iff.mp h7
        exact Int.mul_nonneg h3 (by omega)
    · cases h4
section CHK
variable {J : xM → Prop}
variable {tS : Nat → List (Nat × Int × Int)} {tR : Nat → Nat → Option Nat} {m0 : xM} {T : List aCt} {c : aCt} {ps : List (Nat × Bool)} {N : List aNd} {sp : List (Nat × Nat)} {D d : Nat}
/-- what holds at a node -/
def gNd (tS : Nat → List (Nat × Int × Int)) (tR : Nat → Nat → Option Nat) (m0 : xM) (c : aCt) (nd : aNd) (l : List (Nat × Value)) (m : xM) : Prop := gI tS tR m ∧ gM m0 c.2.2.2.2 m ∧ gL (fun _ => 0) l nd.2.1 ∧ gF m nd.2.2.1
theorem ndA_ok {cur : Option (Int × aRk)} {pc : Nat} {s0 : Nat → Int} {L : aLs} {F : aFs} {l : List (Nat × Value)} {m : xM} (hW : ∀ nd ∈ N, wfN nd = true) (hcur : ∀ q, cur = some q → ∀ r ∈ q.2, 0 ≤ muT r s0) (h : ndA tS N cur pc L F = true) (hI : gI tS tR m) (hM : gM m0 c.2.2.2.2 m) (hL : gL s0 l L) (hF : gF m F) : ∃ nd ∈ N, nd.1 = pc ∧ gNd tS tR m0 c nd l m ∧ ∀ q, cur = some q → muN nd l + 1 ≤ q.1 + muR q.2 s0 := by
  unfold ndA at h
  obtain ⟨nd, hn, h⟩ := List.any_eq_true.mp h
  simp only [Bool.and_eq_true, beqN] at h
  obtain ⟨h1, h2, h3, h4⟩ := h
  have hL2 : gL (fun _ => 0) l nd.2.1 := lLe_ok hL h2
  refine ⟨nd, hn, h1, ⟨hI, hM, hL2, fLe_ok hI hF h3⟩, fun q hq => ?_⟩
  subst hq
  obtain ⟨c9, R⟩ := q
  unfold ndM at h4
  have h4 : (match rkD L R nd.2.2.2.2 with | some s => ile (nd.2.2.2.1 + s + 1) c9 | none => false) = true := h4
  split at h4
  · rename_i s e
    have h5 := ile_iff.mp h4
    have h6 := rkD_ok hL e (hcur _ rfl) (wfN_ok (hW nd hn) hL2).2.1
    show nd.2.2.2.1 + muR nd.2.2.2.2 (xv l) + 1 ≤ c9 + muR R s0
    omega
  · cases h4
theorem spA_ok {cur : Option (Int × aRk)} {pc j : Nat} {s0 : Nat → Int} {L : aLs} {F : aFs} {l : List (Nat × Value)} {x : Int32} (hx : lkl j l = some (.int x)) (hL : gL s0 l L) {lo : Int} : ∀ {n : Nat}, spA tS N cur pc j L F lo n = true → lo ≤ x.toInt → x.toInt < lo + n → ndA tS N cur pc (rfL j x.toInt x.toInt L) F = true ∧ gL s0 l (rfL j x.toInt x.toInt L)
  | 0, _, h1, h2 => by omega
  | n + 1, h, h1, h2 => by
    unfold spA at h
    simp only [Bool.and_eq_true] at h
    by_cases e : x.toInt = lo + n
    · rw [e]
      refine ⟨h.1, gL_rfL hL (fun y hy => ?_)⟩
      rw [hx] at hy
      cases hy
      omega
    · exact spA_ok hx hL h.2 h1 (by omega)
theorem cutA_ok {cur : Option (Int × aRk)} {pc : Nat} {s0 : Nat → Int} {L : aLs} {F : aFs} {l : List (Nat × Value)} {m : xM} (hW : ∀ nd ∈ N, wfN nd = true) (hcur : ∀ q, cur = some q → ∀ r ∈ q.2, 0 ≤ muT r s0) (h : cutA tS N sp cur pc L F = true) (hI : gI tS tR m) (hM : gM m0 c.2.2.2.2 m) (hL : gL s0 l L) (hF : gF m F) : ∃ nd ∈ N, nd.1 = pc ∧ gNd tS tR m0 c nd l m ∧ ∀ q, cur = some q → muN nd l + 1 ≤ q.1 + muR q.2 s0 := by
  unfold cutA at h
  split at h
  · rename_i q e1
    split at h
    · rename_i v e2
      simp only [Bool.and_eq_true, beqN] at h
      obtain ⟨x, e3, h3⟩ := hL _ _ e2
      obtain ⟨z, e4, h4, -⟩ := aH_int h3 h.1
      subst e4
      obtain ⟨h5, h6⟩ := spA_ok e3 hL h.2 h4.1 (by omega)
      exact ndA_ok hW hcur h5 hI hM h6 hF
    · cases h
  · exact ndA_ok hW hcur h hI hM hL hF
theorem wkA_ok (hT : ∀ c ∈ T, vC tS tR J D c) (hd : D ≤ d) (hJ : ∀ m, gM m0 c.2.2.2.2 m → J m) {cur : Option (Int × aRk)} {s0 : Nat → Int} {Q : Option Value → xM → Prop} {base : Nat} (hW : ∀ nd ∈ N, wfN nd = true) (hcur : ∀ q, cur = some q → ∀ r ∈ q.2, 0 ≤ muT r s0)
    (hN : ∀ nd ∈ N, ∀ l m, gNd tS tR m0 c nd l m → (∀ q, cur = some q → muN nd l + 1 ≤ q.1 + muR q.2 s0) → ∀ f, base ≤ f → xe c.1 (xw d) Q f nd.1 l [] m)
    (hR : rOk tS tR m0 c.2.2.2.2 s0 (retA tS c.2.2.2.1 cur.isNone ps) Q) : ∀ n f b pc L S F l st m, wkA tS tR T c ps N sp cur n b pc L S F = true → n + base ≤ f → gI tS tR m → gM m0 c.2.2.2.2 m → gL s0 l L → gSt s0 l m st S → gF m F → xe c.1 (xw d) Q f pc l st m := by
  intro n
  induction n with
  | zero => intro f b pc L S F l st m h; cases h
  | succ n ih =>
    intro f b pc L S F l st m h hf hI hM hL hS hF
    have h : (bif !b && isN (msk N) pc then (match (generalizing := false) S with | [] => cutA tS N sp cur pc L F | _ => false) else nF c.1 (fun k => nF pc (fun p => match lkc p (kcode k) with | some i => ai tS tR c.2.2.2.2 k (callA tS T c.2.2.2.2) (wkA tS tR T c ps N sp cur n false) (retA tS c.2.2.2.1 cur.isNone ps) i p L S F | none => false))) = true := h
    cases e : (!b && isN (msk N) pc) with
    | true =>
      rw [e] at h
      cases S with
      | nil =>
        have h : cutA tS N sp cur pc L F = true := h
        have e2 := gSt_n hS
        subst e2
        obtain ⟨nd, h1, h2, h3, h4⟩ := cutA_ok hW hcur h hI hM hL hF
        rw [← h2]
        exact hN nd h1 l m h3 h4 f (by omega)
      | cons _ _ => cases h
    | false =>
      rw [e] at h
      have h : nF c.1 (fun k => nF pc (fun p => match lkc p (kcode k) with | some i => ai tS tR c.2.2.2.2 k (callA tS T c.2.2.2.2) (wkA tS tR T c ps N sp cur n false) (retA tS c.2.2.2.1 cur.isNone ps) i p L S F | none => false)) = true := h
      rw [nF_eq, nF_eq] at h
      have h : (match lkc pc (kcode c.1) with | some i => ai tS tR c.2.2.2.2 c.1 (callA tS T c.2.2.2.2) (wkA tS tR T c ps N sp cur n false) (retA tS c.2.2.2.1 cur.isNone ps) i pc L S F | none => false) = true := h
      cases f with
      | zero => omega
      | succ f =>
        unfold xe
        split at h
        · rename_i i e2
          rw [e2]
          exact ai_ok (fun pc L S F l st m h => ih f false pc L S F l st m h (by omega)) hR (callA_ok hT hd hJ) i h hI hM hL hS hF
        · cases h
end CHK
