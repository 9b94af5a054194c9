/-! L2: a loop whose rank is a place of the memory -/
noncomputable section NC
def chkL1 (tS : Nat → List (Nat × Int × Int)) (tR : Nat → Nat → Option Nat) (fu : Nat) (T : List aCt) (c : aCt) (pc : Nat) (L : aLs) (a i : Nat) (v : Int) : Bool :=
  wkA tS tR T c (argP 0 c.2.1) [(pc, L, [(a, i, v, v)], 0, [])] [] none fu false 0 (tagL (argL 0 c.2.1)) [] ((a, i, v, v) :: c.2.2.1) && wkA tS tR T c (argP 0 c.2.1) [(pc, L, [(a, i, v + 1, v + 1)], 0, [])] [] (some (1, [])) fu true pc (tagL L) [] [(a, i, v, v)]
def chkL0 (tS : Nat → List (Nat × Int × Int)) (c : aCt) (a i : Nat) (lo : Int) (n : Nat) : Bool :=
  Nat.blt c.1 271 && (Nat.beq (kmc c.1) 0 && (Nat.beq (kms c.1) 0 && (Nat.ble (c.2.1.map aCat).sum (knl c.1) && (ile lo (gseg i (tS a)).1 && ile (gseg i (tS a)).2 (lo + n - 1)))))
theorem gF_1 {m : xM} {a i : Nat} {v : Int} (h : (m.1 a i).toInt = v) {F : aFs} (hF : gF m F) : gF m ((a, i, v, v) :: F) := by
  intro b j r hr
  by_cases z : b = a ∧ j = i
  · obtain ⟨rfl, rfl⟩ := z
    rw [fct_h] at hr
    cases hr
    exact ⟨by show v ≤ _; omega, by show _ ≤ v; omega⟩
  · rw [fct_t z] at hr
    exact hF b j r hr
theorem gF_nil {m : xM} : gF m [] := fun a i r h => by cases h
theorem gF_v {m : xM} {a i : Nat} {v : Int} {F : aFs} (h : gF m ((a, i, v, v) :: F)) : (m.1 a i).toInt = v := by
  have h1 := h a i (v, v) fct_h
  have h2 : v ≤ (m.1 a i).toInt ∧ (m.1 a i).toInt ≤ v := h1
  omega
section CHKL
variable {J : xM → Prop}
variable {tS : Nat → List (Nat × Int × Int)} {tR : Nat → Nat → Option Nat} {T : List aCt} {c : aCt} {D fu pc a i n : Nat} {lo : Int} {L : aLs}
theorem loopL_ok (hT : ∀ c ∈ T, vC tS tR J D c) {d : Nat} (hd : D ≤ d) {vs : List Value} {m0 : xM} (hJ : ∀ m, gM m0 c.2.2.2.2 m → J m) (hv : aMt vs c.2.1) {P : Option Value → xM → Prop} (hP : ∀ rv m', cPo tS tR c m0 vs rv m' → P rv m') (h0 : (ile lo (gseg i (tS a)).1 && ile (gseg i (tS a)).2 (lo + n - 1)) = true) (h : ∀ q, q < n → chkL1 tS tR fu T c pc L a i (lo + q) = true) : ∀ k : Nat, ∀ q : Nat, q + k = n → ∀ l m, gNd tS tR m0 c (pc, L, [(a, i, lo + q, lo + q)], 0, []) l m → ∀ f, k * fu ≤ f → xe c.1 (xw d) P f pc l [] m := by
  simp only [Bool.and_eq_true, ile_iff] at h0
  intro k
  induction k with
  | zero =>
    intro q hq l m hg f hf
    have h1 := gF_v hg.2.2.2
    have h2 := hg.1.1 a i
    omega
  | succ k ih =>
    intro q hq l m hg f hf
    have h1 := h q (by omega)
    unfold chkL1 at h1
    rw [Bool.and_eq_true] at h1
    have h2 := h1.2
    refine wkA_ok (m0 := m0) (base := k * fu) (s0 := xv l) hT hd hJ (fun nd hn => ?_) (fun p hp => ?_) (fun nd' hn' l' m' hg' _ f' hf' => ?_) (retA_ok (fun z => by cases z) hv hP) fu f true pc (tagL L) [] _ l [] m h2 (by rw [Nat.add_mul] at hf; omega) hg.1 hg.2.1 (gL_tagL hg.2.2.1) trivial hg.2.2.2
    · rw [List.mem_singleton.mp hn]
      rfl
    · cases hp
      intro r hr
      cases hr
    · rw [List.mem_singleton.mp hn'] at hg' ⊢
      exact ih (q + 1) (by omega) l' m' (by rw [show lo + ((q + 1 : Nat) : Int) = lo + q + 1 by omega]; exact hg') f' hf'
theorem chkL_ok (hT : ∀ c ∈ T, vC tS tR J D c) (hst : ∀ m0 m, gM m0 c.2.2.2.2 m → J m0 → J m) (h0 : chkL0 tS c a i lo n = true) (h : ∀ q, q < n → chkL1 tS tR fu T c pc L a i (lo + q) = true) : vC tS tR J (D + 1) c := by
  intro d hd m vs P hI hj hv hF hP
  have hJ : ∀ m', gM m c.2.2.2.2 m' → J m' := fun m' h => hst m m' h hj
  unfold chkL0 at h0
  rw [Bool.and_eq_true, Bool.and_eq_true, Bool.and_eq_true, Bool.and_eq_true] at h0
  obtain ⟨h1, h2, h3, h4, h5⟩ := h0
  have h1 := bltN.mp h1
  have h2 := beqN.mp h2
  have h3 := beqN.mp h3
  have h4 := bleN.mp h4
  obtain ⟨d, rfl⟩ : ∃ e, d = e + 1 := ⟨d - 1, by omega⟩
  show bif Nat.ble 271 c.1 then _ else _
  have e : Nat.ble 271 c.1 = false := by
    cases e : Nat.ble 271 c.1 with
    | false => rfl
    | true => have := bleN.mp e; omega
  rw [e]
  refine ⟨h2, h3, by rw [sl_len hv]; exact h4, fu + n * fu, ?_⟩
  have h6 := h5
  simp only [Bool.and_eq_true, ile_iff] at h6
  have g := hI.1 a i
  have hq : lo + ((((m.1 a i).toInt - lo).toNat : Nat) : Int) = (m.1 a i).toInt := by omega
  have hqn : ((m.1 a i).toInt - lo).toNat < n := by omega
  have h7 := h _ hqn
  unfold chkL1 at h7
  rw [Bool.and_eq_true] at h7
  refine wkA_ok (m0 := m) (base := n * fu) (s0 := xv (lv_args 0 vs)) hT (by omega) hJ (fun nd hn => ?_) (fun p hp => by cases hp) (fun nd hn l' m' hg' _ f' hf' => ?_) (retA_ok (fun _ => rfl) hv hP) fu _ false 0 _ [] _ _ [] m h7.1 (Nat.le_refl _) hI (fun a i _ => rfl) (gL_tagL (gL_argL hv (posP_0 vs))) trivial (gF_1 hq.symm hF)
  · rw [List.mem_singleton.mp hn]
    rfl
  · rw [List.mem_singleton.mp hn] at hg' ⊢
    exact loopL_ok hT (by omega) hJ hv hP h5 h (n - ((m.1 a i).toInt - lo).toNat) _ (by omega) l' m' hg' f' (Nat.le_trans (Nat.mul_le_mul_right _ (by omega)) hf')
theorem rng_of {n : Nat} {p : Nat → Bool} (h : (List.range n).all p = true) : ∀ q, q < n → p q = true := fun q hq => List.all_eq_true.mp h q (List.mem_range.mpr hq)
end CHKL
end NC
