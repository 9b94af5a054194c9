/-! L2: a loop over a local, value by value -/
noncomputable section NC
def nOk (tS : Nat → List (Nat × Int × Int)) (tR : Nat → Nat → Option Nat) (m0 : xM) (c : aCt) (d : Nat) (P : Option Value → xM → Prop) (K : Nat) (nd : aNd) : Prop := ∀ l m, gNd tS tR m0 c nd l m → ∀ f, K ≤ f → xe c.1 (xw d) P f nd.1 l [] m
def chkC0 (c : aCt) : Bool := Nat.blt c.1 271 && (Nat.beq (kmc c.1) 0 && (Nat.beq (kms c.1) 0 && Nat.ble (c.2.1.map aCat).sum (knl c.1)))
def chN (pc j : Nat) (L : aLs) (F : aFs) (q : Nat) : aNd := (pc, (j, aI q q) :: L, F, 0, [])
def chkC1 (tS : Nat → List (Nat × Int × Int)) (tR : Nat → Nat → Option Nat) (fu : Nat) (T : List aCt) (c : aCt) (X : List aNd) (nd : aNd) : Bool := wkA tS tR T c (argP 0 c.2.1) X [] (some (1, [])) fu true nd.1 (tagL nd.2.1) [] nd.2.2.1
section CHAIN
variable {J : xM → Prop} {tS : Nat → List (Nat × Int × Int)} {tR : Nat → Nat → Option Nat} {m0 : xM} {T : List aCt} {c : aCt} {D d fu : Nat}
theorem nOk_step (hT : ∀ c ∈ T, vC tS tR J D c) (hd : D ≤ d) (hJ : ∀ m, gM m0 c.2.2.2.2 m → J m) {vs : List Value} (hv : aMt vs c.2.1) {P : Option Value → xM → Prop} (hP : ∀ rv m', cPo tS tR c m0 vs rv m' → P rv m') {X : List aNd} {nd : aNd} {K : Nat} (hW : ∀ x ∈ X, wfN x = true) (hX : ∀ x ∈ X, nOk tS tR m0 c d P K x) (h : chkC1 tS tR fu T c X nd = true) : nOk tS tR m0 c d P (K + fu) nd := by
  intro l m hg f hf
  unfold chkC1 at h
  refine wkA_ok (m0 := m0) (base := K) (s0 := xv l) hT hd hJ hW (fun p hp => ?_) (fun nd' hn' l' m' hg' _ f' hf' => hX nd' hn' l' m' hg' f' hf') (retA_ok (fun z => by cases z) hv hP) fu f true nd.1 (tagL nd.2.1) [] _ l [] m h (by omega) hg.1 hg.2.1 (gL_tagL hg.2.2.1) trivial hg.2.2.2
  cases hp
  intro r hr
  cases hr
theorem chN_wf {pc j q : Nat} {L : aLs} {F : aFs} : wfN (chN pc j L F q) = true := rfl
theorem nOk_chain (hT : ∀ c ∈ T, vC tS tR J D c) (hd : D ≤ d) (hJ : ∀ m, gM m0 c.2.2.2.2 m → J m) {vs : List Value} (hv : aMt vs c.2.1) {P : Option Value → xM → Prop} (hP : ∀ rv m', cPo tS tR c m0 vs rv m' → P rv m') {pc j n : Nat} {L : aLs} {F : aFs} {X : List aNd} {K : Nat} (hW : ∀ x ∈ X, wfN x = true) (hX : ∀ x ∈ X, nOk tS tR m0 c d P K x) (hn : chkC1 tS tR fu T c X (chN pc j L F n) = true) (h : ∀ q, q < n → chkC1 tS tR fu T c (chN pc j L F (q + 1) :: X) (chN pc j L F q) = true) : ∀ k q, q + k = n → nOk tS tR m0 c d P (K + (k + 1) * fu) (chN pc j L F q) := by
  intro k
  induction k with
  | zero =>
    intro q hq
    obtain rfl : q = n := by omega
    have h1 := nOk_step hT hd hJ hv hP hW hX hn
    rw [show K + (0 + 1) * fu = K + fu by omega]
    exact h1
  | succ k ih =>
    intro q hq
    have h1 := ih (q + 1) (by omega)
    have h2 := nOk_step (K := K + (k + 1) * fu) hT hd hJ hv hP (X := chN pc j L F (q + 1) :: X) (fun x hx => by
      rcases List.mem_cons.mp hx with e | e
      · rw [e]; exact chN_wf
      · exact hW x e) (fun x hx => by
      rcases List.mem_cons.mp hx with e | e
      · rw [e]; exact h1
      · exact fun l m hg f hf => hX x e l m hg f (by omega)) (h q (by omega))
    intro l m hg f hf
    refine h2 l m hg f ?_
    have : (k + 1 + 1) * fu = (k + 1) * fu + fu := by rw [Nat.add_mul (k + 1) 1 fu]; omega
    omega
theorem chkC_ok (hT : ∀ c ∈ T, vC tS tR J D c) (hst : ∀ m0 m, gM m0 c.2.2.2.2 m → J m0 → J m) {pc j n : Nat} {L : aLs} {F : aFs} (h0 : chkC0 c = true) (he : wkA tS tR T c (argP 0 c.2.1) [chN pc j L F 0] [] none fu false 0 (tagL (argL 0 c.2.1)) [] c.2.2.1 = true) (hn : chkC1 tS tR fu T c [] (chN pc j L F n) = true) (h : ∀ q, q < n → chkC1 tS tR fu T c [chN pc j L F (q + 1)] (chN pc j L F q) = true) : vC tS tR J (D + 1) c := by
  intro d hd m vs P hI hj hv hF hP
  have hJ : ∀ m', gM m c.2.2.2.2 m' → J m' := fun m' h => hst m m' h hj
  unfold chkC0 at h0
  simp only [Bool.and_eq_true, beqN, bleN, bltN] at h0
  obtain ⟨h1, h2, h3, h4⟩ := h0
  obtain ⟨d, rfl⟩ : ∃ e, d = e + 1 := ⟨d - 1, by omega⟩
  show bif Nat.ble 271 c.1 then _ else _
  have e : Nat.ble 271 c.1 = false := by
    cases e : Nat.ble 271 c.1 with
    | false => rfl
    | true => have := bleN.mp e; omega
  rw [e]
  refine ⟨h2, h3, by rw [sl_len hv]; exact h4, fu + (0 + (n + 1) * fu), ?_⟩
  have hk := nOk_chain (K := 0) hT (show D ≤ d by omega) hJ hv hP (X := []) (fun x hx => by cases hx) (fun x hx => by cases hx) hn h n 0 (by omega)
  exact wkA_ok (m0 := m) (base := 0 + (n + 1) * fu) (s0 := xv (lv_args 0 vs)) hT (by omega) hJ (fun x hx => by rw [List.mem_singleton.mp hx]; exact chN_wf) (fun p hp => by cases hp) (fun nd hn' l' m' hg' _ f' hf' => by
    rw [List.mem_singleton.mp hn'] at hg' ⊢
    exact hk l' m' hg' f' hf') (retA_ok (fun _ => rfl) hv hP) fu _ false 0 _ [] _ _ [] m he (Nat.le_refl _) hI (fun a i _ => rfl) (gL_tagL (gL_argL hv (posP_0 vs))) trivial hF
end CHAIN
end NC
