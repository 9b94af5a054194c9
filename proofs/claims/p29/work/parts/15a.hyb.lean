/-! L2: nodes over nodes that are known to hold; families of contracts -/
noncomputable section NC
def nE (tS : Nat → List (Nat × Int × Int)) (tR : Nat → Nat → Option Nat) (m0 : xM) (c : aCt) (d : Nat) (P : Option Value → xM → Prop) (nd : aNd) : Prop := ∃ K, nOk tS tR m0 c d P K nd
theorem nOk_mono {tS : Nat → List (Nat × Int × Int)} {tR : Nat → Nat → Option Nat} {m0 : xM} {c : aCt} {d : Nat} {P : Option Value → xM → Prop} {nd : aNd} {K L : Nat} (h : nOk tS tR m0 c d P K nd) (hk : K ≤ L) : nOk tS tR m0 c d P L nd := fun l m hg f hf => h l m hg f (Nat.le_trans hk hf)
theorem nE_all {tS : Nat → List (Nat × Int × Int)} {tR : Nat → Nat → Option Nat} {m0 : xM} {c : aCt} {d : Nat} {P : Option Value → xM → Prop} : ∀ {X : List aNd}, (∀ x ∈ X, nE tS tR m0 c d P x) → ∃ K, ∀ x ∈ X, nOk tS tR m0 c d P K x
  | [], _ => ⟨0, fun x hx => by cases hx⟩
  | y :: t, h => by
    obtain ⟨K1, h1⟩ := h y List.mem_cons_self
    obtain ⟨K2, h2⟩ := nE_all (X := t) (fun x hx => h x (List.mem_cons_of_mem _ hx))
    refine ⟨K1 + K2, fun x hx => ?_⟩
    rcases List.mem_cons.mp hx with e | e
    · rw [e]
      exact nOk_mono h1 (Nat.le_add_right _ _)
    · exact nOk_mono (h2 x e) (Nat.le_add_left _ _)
/-- a block from a node, over nodes Y; a node with a rank -/
def chkX (tS : Nat → List (Nat × Int × Int)) (tR : Nat → Nat → Option Nat) (fu : Nat) (T : List aCt) (c : aCt) (sp : List (Nat × Nat)) (Y : List aNd) (nd : aNd) : Bool := wkA tS tR T c (argP 0 c.2.1) Y sp (some (1000000000, [])) fu true nd.1 (tagL nd.2.1) [] nd.2.2.1
def chkR (tS : Nat → List (Nat × Int × Int)) (tR : Nat → Nat → Option Nat) (fu : Nat) (T : List aCt) (c : aCt) (sp : List (Nat × Nat)) (Y : List aNd) (nd : aNd) : Bool := wkA tS tR T c (argP 0 c.2.1) Y sp (some (nd.2.2.2.1, nd.2.2.2.2)) fu true nd.1 (tagL nd.2.1) [] nd.2.2.1
/-- a node, or its local's least value and the rest -/
def chkS (tS : Nat → List (Nat × Int × Int)) (tR : Nat → Nat → Option Nat) (fu : Nat) (T : List aCt) (c : aCt) (sp : List (Nat × Nat)) (sj : Option Nat) (u : Int) (N X : List aNd) (nd : aNd) : Bool := match sj with
  | none => chkX tS tR fu T c sp (N ++ X) nd
  | some j => match lkA j nd.2.1 with
    | some v => Nat.beq v.1 1 && (ile u v.2.2.1 && (chkX tS tR fu T c sp (N ++ X) (nd.1, rfL j u u nd.2.1, nd.2.2.1, 0, []) && X.any (fun y => Nat.beq y.1 nd.1 && (lLe (rfL j (u + 1) v.2.2.2.1 nd.2.1) y.2.1 && fLe tS nd.2.2.1 y.2.2.1))))
    | none => false
section HYB
variable {J : xM → Prop} {tS : Nat → List (Nat × Int × Int)} {tR : Nat → Nat → Option Nat} {m0 : xM} {T : List aCt} {c : aCt} {D d fu : Nat} {sp : List (Nat × Nat)}
theorem cur_nil {n : Int} {s0 : Nat → Int} : ∀ q : Int × aRk, some (n, []) = some q → ∀ r ∈ q.2, 0 ≤ muT r s0 := fun q hq r hr => by
  cases hq
  cases hr
theorem stepX (hT : ∀ c ∈ T, vC tS tR J D c) (hd : D ≤ d) (hJ : ∀ m, gM m0 c.2.2.2.2 m → J m) {vs : List Value} (hv : aMt vs c.2.1) {P : Option Value → xM → Prop} (hP : ∀ rv m', cPo tS tR c m0 vs rv m' → P rv m') {Y : List aNd} {nd : aNd} (hW : ∀ x ∈ Y, wfN x = true) (hY : ∀ x ∈ Y, nE tS tR m0 c d P x) (h : chkX tS tR fu T c sp Y nd = true) : nE tS tR m0 c d P nd := by
  obtain ⟨K, hK⟩ := nE_all hY
  refine ⟨fu + K, fun l m hg f hf => ?_⟩
  unfold chkX at h
  exact wkA_ok (m0 := m0) (base := K) (s0 := xv l) hT hd hJ hW cur_nil (fun nd' hn' l' m' hg' _ f' hf' => hK nd' hn' l' m' hg' f' hf') (retA_ok (fun z => by cases z) hv hP) fu f true nd.1 (tagL nd.2.1) [] _ l [] m h hf hg.1 hg.2.1 (gL_tagL hg.2.2.1) trivial hg.2.2.2
theorem rankX0 (hT : ∀ c ∈ T, vC tS tR J D c) (hd : D ≤ d) (hJ : ∀ m, gM m0 c.2.2.2.2 m → J m) {vs : List Value} (hv : aMt vs c.2.1) {P : Option Value → xM → Prop} (hP : ∀ rv m', cPo tS tR c m0 vs rv m' → P rv m') {N X : List aNd} {K : Nat} (hW : ∀ x ∈ N ++ X, wfN x = true) (hX : ∀ x ∈ X, nOk tS tR m0 c d P K x) (h : ∀ nd ∈ N, chkR tS tR fu T c sp (N ++ X) nd = true) : ∀ u : Nat, ∀ nd ∈ N, ∀ l m, gNd tS tR m0 c nd l m → muN nd l ≤ (u : Int) → ∀ f, K + (u + 1) * fu ≤ f → xe c.1 (xw d) P f nd.1 l [] m := by
  intro u
  induction u with
  | zero =>
    intro nd hn l m hg hu f hf
    have hc := h nd hn
    unfold chkR at hc
    have hwn := hW nd (List.mem_append.mpr (Or.inl hn))
    refine wkA_ok (m0 := m0) (base := K) (s0 := xv l) hT hd hJ hW (fun q hq => ?_) (fun nd' hn' l' m' hg' hq' f' hf' => ?_) (retA_ok (fun z => by cases z) hv hP) fu f true nd.1 (tagL nd.2.1) [] nd.2.2.1 l [] m hc (by omega) hg.1 hg.2.1 (gL_tagL hg.2.2.1) trivial hg.2.2.2
    · cases hq
      exact (wfN_ok hwn hg.2.2.1).2.2
    · rcases List.mem_append.mp hn' with e | e
      · have h1 := hq' _ rfl
        have h2 := wfN_ok (hW nd' hn') hg'.2.2.1
        have h3 := muR_nn h2.2.2
        have h1 : muN nd' l' + 1 ≤ muN nd l := h1
        unfold muN at h1 hu
        omega
      · exact hX nd' e l' m' hg' f' hf'
  | succ u ih =>
    intro nd hn l m hg hu f hf
    have hc := h nd hn
    unfold chkR at hc
    have hwn := hW nd (List.mem_append.mpr (Or.inl hn))
    refine wkA_ok (m0 := m0) (base := K + (u + 1) * fu) (s0 := xv l) hT hd hJ hW (fun q hq => ?_) (fun nd' hn' l' m' hg' hq' f' hf' => ?_) (retA_ok (fun z => by cases z) hv hP) fu f true nd.1 (tagL nd.2.1) [] nd.2.2.1 l [] m hc (by rw [Nat.add_mul] at hf; omega) hg.1 hg.2.1 (gL_tagL hg.2.2.1) trivial hg.2.2.2
    · cases hq
      exact (wfN_ok hwn hg.2.2.1).2.2
    · rcases List.mem_append.mp hn' with e | e
      · have h1 := hq' _ rfl
        have h1 : muN nd' l' + 1 ≤ muN nd l := h1
        exact ih nd' e l' m' hg' (by omega) f' hf'
      · exact hX nd' e l' m' hg' f' (by omega)
theorem rankX (hT : ∀ c ∈ T, vC tS tR J D c) (hd : D ≤ d) (hJ : ∀ m, gM m0 c.2.2.2.2 m → J m) {vs : List Value} (hv : aMt vs c.2.1) {P : Option Value → xM → Prop} (hP : ∀ rv m', cPo tS tR c m0 vs rv m' → P rv m') {N X : List aNd} (hW : ∀ x ∈ N ++ X, wfN x = true) (hX : ∀ x ∈ X, nE tS tR m0 c d P x) (h : ∀ nd ∈ N, chkR tS tR fu T c sp (N ++ X) nd = true) : ∀ x ∈ N ++ X, nE tS tR m0 c d P x := by
  obtain ⟨K, hK⟩ := nE_all hX
  obtain ⟨B, hB⟩ := muN_b (N := N) (fun nd hn => hW nd (List.mem_append.mpr (Or.inl hn)))
  intro x hx
  rcases List.mem_append.mp hx with e | e
  · exact ⟨K + (B + 1) * fu, fun l m hg f hf => rankX0 hT hd hJ hv hP hW hK h B x e l m hg (hB x e l) f hf⟩
  · exact hX x e
theorem entX (hT : ∀ c ∈ T, vC tS tR J D c) (hst : ∀ m0 m, gM m0 c.2.2.2.2 m → J m0 → J m) {N X : List aNd} (hX : ∀ d, D ≤ d → ∀ m0 vs P, gI tS tR m0 → J m0 → aMt vs c.2.1 → gF m0 c.2.2.1 → (∀ rv m', cPo tS tR c m0 vs rv m' → P rv m') → ∀ x ∈ X, nE tS tR m0 c d P x) (h0 : chkC0 c = true) (hW : (N ++ X).all wfN = true) (he : wkA tS tR T c (argP 0 c.2.1) (N ++ X) sp none fu false 0 (tagL (argL 0 c.2.1)) [] c.2.2.1 = true) (h : N.all (chkR tS tR fu T c sp (N ++ X)) = true) : vC tS tR J (D + 1) c := by
  intro d hd m vs P hI hj hv hF hP
  have hJ : ∀ m', gM m c.2.2.2.2 m' → J m' := fun m' h => hst m m' h hj
  unfold chkC0 at h0
  simp only [Bool.and_eq_true, beqN, bleN, bltN] at h0
  obtain ⟨h1, h2, h3, h4⟩ := h0
  obtain ⟨d, rfl⟩ : ∃ e, d = e + 1 := ⟨d - 1, by omega⟩
  show bif Nat.ble 271 c.1 then _ else _
  have e : Nat.ble 271 c.1 = false := by
    cases e : Nat.ble 271 c.1 with
    | false => rfl
    | true => have := bleN.mp e; omega
  rw [e]
  have hY := rankX (fu := fu) (sp := sp) hT (show D ≤ d by omega) hJ hv hP (fun x hx => List.all_eq_true.mp hW x hx) (hX d (by omega) m vs P hI hj hv hF hP) (fun nd hn => List.all_eq_true.mp h nd hn)
  obtain ⟨K, hK⟩ := nE_all hY
  refine ⟨h2, h3, by rw [sl_len hv]; exact h4, fu + K, ?_⟩
  exact wkA_ok (m0 := m) (base := K) (s0 := xv (lv_args 0 vs)) hT (by omega) hJ (fun x hx => List.all_eq_true.mp hW x hx) (fun q hq => by cases hq) (fun nd hn' l' m' hg' _ f' hf' => hK nd hn' l' m' hg' f' hf') (retA_ok (fun _ => rfl) hv hP) fu _ false 0 _ [] _ _ [] m he (Nat.le_refl _) hI (fun a i _ => rfl) (gL_tagL (gL_argL hv (posP_0 vs))) trivial hF
/-- facts that can't be -/
def vacF (F : aFs) : Bool := F.any (fun f => match fct f.1 f.2.1 F with
  | some r => ile (r.2 + 1) r.1
  | none => false)
theorem vacF_no {m : xM} {F : aFs} (h : vacF F = true) (hF : gF m F) : False := by
  unfold vacF at h
  obtain ⟨f, hf, h⟩ := List.any_eq_true.mp h
  split at h
  · rename_i r e
    have h1 := hF _ _ _ e
    have h2 := ile_iff.mp h
    omega
  · cases h
theorem vC_vac {c : aCt} (h : vacF c.2.2.1 = true) : vC tS tR J D c := fun d _ m vs P _ _ _ hF _ => (vacF_no h hF).elim
theorem nE_vac {P : Option Value → xM → Prop} {nd : aNd} (h : vacF nd.2.2.1 = true) : nE tS tR m0 c d P nd := ⟨0, fun l m hg => (vacF_no h hg.2.2.2).elim⟩
/-- ends below ends -/
def oLe (tS : Nat → List (Nat × Int × Int)) (A B : List (Option aV × List (Int × Int) × aFs)) : Bool := A.all (fun o => B.any (fun p => (match o.1, p.1 with
  | none, none => true
  | some v, some w => aLe (aCl v) w
  | _, _ => false) && (bLe o.2.1 p.2.1 && fLe tS o.2.2 p.2.2)))
where
  bLe : List (Int × Int) → List (Int × Int) → Bool
    | r :: rs, s :: ss => ile s.1 r.1 && (ile r.2 s.2 && bLe rs ss)
    | _, [] => true
    | [], _ :: _ => false
theorem bLe_ok : ∀ {rs ss : List (Int × Int)} {vs : List Value}, oLe.bLe rs ss = true → argB vs rs → argB vs ss
  | _, [], [], _, _ => trivial
  | _, [], _ :: _, _, _ => trivial
  | _, _ :: _, [], _, _ => trivial
  | r :: rs, s :: ss, v :: vs, h, hb => by
    have h : (ile s.1 r.1 && (ile r.2 s.2 && oLe.bLe rs ss)) = true := h
    simp only [Bool.and_eq_true, ile_iff] at h
    exact ⟨⟨fun z hz => by have := hb.1.1 z hz; omega, fun w hw => by have := hb.1.2 w hw; omega⟩, bLe_ok h.2.2 hb.2⟩
  | [], _ :: _, _ :: _, h, _ => by cases h
theorem cPo_le {k : Nat} {as : List aV} {F G : aFs} {A B : List (Option aV × List (Int × Int) × aFs)} {md : List (Nat × Nat × Nat)} {vs : List Value} {rv : Option Value} {m' : xM} (h : oLe tS A B = true) (hp : cPo tS tR (k, as, F, A, md) m0 vs rv m') : cPo tS tR (k, as, G, B, md) m0 vs rv m' := by
  obtain ⟨g1, g2, o, ho, g3, g4, g5⟩ := hp
  obtain ⟨p, hp, h⟩ := List.any_eq_true.mp (List.all_eq_true.mp h o ho)
  simp only [Bool.and_eq_true] at h
  obtain ⟨h1, h2, h3⟩ := h
  refine ⟨g1, g2, p, hp, ?_, bLe_ok h2 g4, fLe_ok g1 g5 h3⟩
  split at h1
  · rename_i e1 e2
    rw [e1] at g3
    rw [e2]
    exact g3
  · rename_i v w e1 e2
    rw [e1] at g3
    rw [e2]
    obtain ⟨x, k1, k2⟩ := g3
    exact ⟨x, k1, aH_cl (aLe_ok (s1 := fun _ => 0) k2 h1)⟩
  · cases h1
/-- one round of a family: nodes N with ranks over X', the nodes X over them -/
def chkU (tS : Nat → List (Nat × Int × Int)) (tR : Nat → Nat → Option Nat) (fu : Nat) (T : List aCt) (c c' : aCt) (sp : List (Nat × Nat)) (sj : Option Nat) (u : Int) (N X X' : List aNd) : Bool := (N ++ X').all wfN && (N.all (chkR tS tR fu T c sp (N ++ X')) && (X.all (chkS tS tR fu T c sp sj u N X') && oLe tS c'.2.2.2.1 c.2.2.2.1))
theorem famX {k : Nat} {as : List aV} {md : List (Nat × Nat × Nat)} {Fu : Nat → aFs} {Ou : Nat → List (Option aV × List (Int × Int) × aFs)} {Tu : Nat → List aCt} {N X : Nat → List aNd} {sj : Option Nat} {w U : Nat} (hT : ∀ u, w ≤ u → u < U → ∀ t ∈ Tu u, vC tS tR J D t) (hd : D ≤ d) (hJ : ∀ m, gM m0 md m → J m) {vs : List Value} (hv : aMt vs as) (hc : ∀ u, w ≤ u → u < U → chkU tS tR fu (Tu u) (k, as, Fu u, Ou u, md) (k, as, Fu (u + 1), Ou (u + 1), md) sp sj u (N u) (X u) (X (u + 1)) = true) (hU : (X U).all (fun x => vacF x.2.2.1) = true) : ∀ n u, u + n = U → w ≤ u → ∀ P, (∀ rv m', cPo tS tR (k, as, Fu u, Ou u, md) m0 vs rv m' → P rv m') → ∀ x ∈ X u, nE tS tR m0 (k, as, Fu u, Ou u, md) d P x := by
  intro n
  induction n with
  | zero =>
    intro u hu _ P _ x hx
    obtain rfl : u = U := by omega
    exact nE_vac (List.all_eq_true.mp hU x hx)
  | succ n ih =>
    intro u hu hw P hP x hx
    have h := hc u hw (by omega)
    unfold chkU at h
    simp only [Bool.and_eq_true] at h
    obtain ⟨h1, h2, h3, h4⟩ := h
    have hW : ∀ x ∈ N u ++ X (u + 1), wfN x = true := fun x hx => List.all_eq_true.mp h1 x hx
    have hX' : ∀ x ∈ X (u + 1), nE tS tR m0 (k, as, Fu u, Ou u, md) d P x := ih (u + 1) (by omega) (by omega) P (fun rv m' hp => hP rv m' (cPo_le h4 hp))
    have hY := rankX (fu := fu) (sp := sp) (c := (k, as, Fu u, Ou u, md)) (hT u hw (by omega)) hd hJ hv hP hW hX' (fun nd hn => List.all_eq_true.mp h2 nd hn)
    have hx2 := List.all_eq_true.mp h3 x hx
    unfold chkS at hx2
    split at hx2
    · exact stepX (hT u hw (by omega)) hd hJ hv hP hW hY hx2
    · rename_i j
      split at hx2
      · rename_i v e
        simp only [Bool.and_eq_true, beqN, ile_iff] at hx2
        obtain ⟨k1, k2, k3, k4⟩ := hx2
        obtain ⟨y, hy, k5⟩ := List.any_eq_true.mp k4
        simp only [Bool.and_eq_true, beqN] at k5
        obtain ⟨k5, k6, k7⟩ := k5
        obtain ⟨K1, hK1⟩ := stepX (c := (k, as, Fu u, Ou u, md)) (hT u hw (by omega)) hd hJ hv hP hW hY k3
        obtain ⟨K2, hK2⟩ := hX' y hy
        refine ⟨K1 + K2, fun l m hg f hf => ?_⟩
        obtain ⟨q, e1, g1⟩ := hg.2.2.1 j v e
        obtain ⟨z, e2, g2, -⟩ := aH_int g1 k1
        subst e2
        by_cases hz : z.toInt = u
        · refine hK1 l m ⟨hg.1, hg.2.1, gL_rfL hg.2.2.1 (fun x9 h9 => ?_), hg.2.2.2⟩ f (by omega)
          rw [e1] at h9
          cases h9
          omega
        · rw [← k5]
          have hL2 : gL (fun _ => 0) l (rfL j (u + 1) v.2.2.2.1 x.2.1) := gL_rfL hg.2.2.1 (fun x9 h9 => by
            rw [e1] at h9
            cases h9
            omega)
          exact hK2 l m ⟨hg.1, hg.2.1, lLe_ok hL2 k6, fLe_ok hg.1 hg.2.2.2 k7⟩ f (by omega)
      · cases hx2
/-- a family's contract at w -/
theorem famC {k : Nat} {as : List aV} {md : List (Nat × Nat × Nat)} {Fu : Nat → aFs} {Ou : Nat → List (Option aV × List (Int × Int) × aFs)} {Tu : Nat → List aCt} {N X : Nat → List aNd} {sj : Option Nat} {w U : Nat} {N0 : List aNd} (hT : ∀ c ∈ T, vC tS tR J D c) (hTu : ∀ u, w ≤ u → u < U → ∀ t ∈ Tu u, vC tS tR J D t) (hst : ∀ m0 m, gM m0 md m → J m0 → J m) (hw : w ≤ U) (hc : ∀ u, w ≤ u → u < U → chkU tS tR fu (Tu u) (k, as, Fu u, Ou u, md) (k, as, Fu (u + 1), Ou (u + 1), md) sp sj u (N u) (X u) (X (u + 1)) = true) (hU : (X U).all (fun x => vacF x.2.2.1) = true) (h0 : chkC0 (k, as, Fu w, Ou w, md) = true) (hW : (N0 ++ X w).all wfN = true) (he : wkA tS tR T (k, as, Fu w, Ou w, md) (argP 0 as) (N0 ++ X w) sp none fu false 0 (tagL (argL 0 as)) [] (Fu w) = true) (h : N0.all (chkR tS tR fu T (k, as, Fu w, Ou w, md) sp (N0 ++ X w)) = true) : vC tS tR J (D + 1) (k, as, Fu w, Ou w, md) :=
  entX hT hst (fun _ hd m0 _ P _ hj hv _ hP => famX (m0 := m0) hTu hd (fun m' hm => hst m0 m' hm hj) hv hc hU (U - w) w (by omega) (Nat.le_refl _) P hP) h0 hW he h
end HYB
theorem vUq {J : xM → Prop} {tS : Nat → List (Nat × Int × Int)} {tR : Nat → Nat → Option Nat} {D E : Nat} {c : aCt} (h : vC tS tR J D c) (hd : D ≤ E) : vC tS tR J E c := fun d h2 => h d (Nat.le_trans hd h2)
theorem rng_k {n U s : Nat} {p : Nat → Bool} (h : ∀ k, k < n → (List.range s).all (fun q => Nat.ble U (s * k + q) || p (s * k + q)) = true) (hs : 0 < s) (hn : U ≤ s * n) : ∀ u, u < U → p u = true := fun u hu => by
  have h1 : u / s < n := (Nat.div_lt_iff_lt_mul hs).mpr (by rw [Nat.mul_comm]; omega)
  have h2 := rng_of (h (u / s) h1) (u % s) (Nat.mod_lt _ hs)
  rw [Nat.div_add_mod] at h2
  cases e : Nat.ble U u with
  | true => have := bleN.mp e; omega
  | false => rw [e] at h2; exact h2
/-- a contract's start over nodes N0, X -/
def chkW (tS : Nat → List (Nat × Int × Int)) (tR : Nat → Nat → Option Nat) (fu : Nat) (T : List aCt) (c : aCt) (sp : List (Nat × Nat)) (N0 X : List aNd) : Bool := chkC0 c && ((N0 ++ X).all wfN && (wkA tS tR T c (argP 0 c.2.1) (N0 ++ X) sp none fu false 0 (tagL (argL 0 c.2.1)) [] c.2.2.1 && N0.all (chkR tS tR fu T c sp (N0 ++ X))))
section FAMW
variable {J : xM → Prop} {tS : Nat → List (Nat × Int × Int)} {tR : Nat → Nat → Option Nat} {D fu : Nat} {sp : List (Nat × Nat)}
theorem chkW_ok {T : List aCt} {c : aCt} {N : List aNd} (hT : ∀ c ∈ T, vC tS tR J D c) (hst : ∀ m0 m, gM m0 c.2.2.2.2 m → J m0 → J m) (h : chkW tS tR fu T c sp N [] = true) : vC tS tR J (D + 1) c := by
  unfold chkW at h
  simp only [Bool.and_eq_true] at h
  obtain ⟨h1, h2, h3, h4⟩ := h
  exact entX (X := []) hT hst (fun _ _ _ _ _ _ _ _ _ _ x hx => by cases hx) h1 h2 h3 h4
theorem famW {k : Nat} {as : List aV} {md : List (Nat × Nat × Nat)} {Fu : Nat → aFs} {Ou : Nat → List (Option aV × List (Int × Int) × aFs)} {T0 Tu : Nat → List aCt} {N0 N X : Nat → List aNd} {sj : Option Nat} {U : Nat} (hst : ∀ m0 m, gM m0 md m → J m0 → J m) (hc : ∀ u, u < U → chkU tS tR fu (Tu u) (k, as, Fu u, Ou u, md) (k, as, Fu (u + 1), Ou (u + 1), md) sp sj u (N u) (X u) (X (u + 1)) = true) (hU : (X U).all (fun x => vacF x.2.2.1) = true) (he : ∀ u, u < U → chkW tS tR fu (T0 u) (k, as, Fu u, Ou u, md) sp (N0 u) (X u) = true) {w : Nat} (hw : w < U) (hT : ∀ c ∈ T0 w, vC tS tR J D c) (hTu : ∀ u, w ≤ u → u < U → ∀ t ∈ Tu u, vC tS tR J D t) : vC tS tR J (D + 1) (k, as, Fu w, Ou w, md) := by
  have h := he w hw
  unfold chkW at h
  simp only [Bool.and_eq_true] at h
  obtain ⟨h1, h2, h3, h4⟩ := h
  exact famC hT hTu hst (Nat.le_of_lt hw) (fun u _ h => hc u h) hU h1 h2 h3 h4
theorem famE {k : Nat} {as : List aV} {md : List (Nat × Nat × Nat)} {Fu : Nat → aFs} {Ou : Nat → List (Option aV × List (Int × Int) × aFs)} {T0 : Nat → List aCt} {N0 : Nat → List aNd} {U : Nat} (hst : ∀ m0 m, gM m0 md m → J m0 → J m) (he : ∀ u, u < U → chkW tS tR fu (T0 u) (k, as, Fu u, Ou u, md) sp (N0 u) [] = true) {w : Nat} (hw : w < U) (hT : ∀ c ∈ T0 w, vC tS tR J D c) : vC tS tR J (D + 1) (k, as, Fu w, Ou w, md) := chkW_ok (c := (k, as, Fu w, Ou w, md)) hT hst (he w hw)
theorem vacAt {a i w : Nat} {hi : Int} {F : aFs} (h : hi < w) : vacF ((a, i, Int.ofNat w, hi) :: F) = true := List.any_eq_true.mpr ⟨(a, i, Int.ofNat w, hi), List.mem_cons_self, by
  show (match fct a i ((a, i, Int.ofNat w, hi) :: F) with
    | some r => ile (r.2 + 1) r.1
    | none => false) = true
  rw [fct_h]
  exact ile_iff.mpr (by show hi + 1 ≤ (w : Int); omega)⟩
theorem str_len {a x n : Nat} {lo hi : Int} {ab : List (Int × Int)} (h : lay a = (5, x, n)) (hb : lo ≤ (Int32.ofNat n).toInt ∧ (Int32.ofNat n).toInt ≤ hi) (hab : ab = [(lLo, lHi)]) : vC tS tR J 1 (271, [aR [a]], [], [(some (aI lo hi), ab, [])], []) := by
  subst hab
  intro d hd m vs P hI _ hv hF hP
  obtain ⟨d, rfl⟩ : ∃ e, d = e + 1 := ⟨d - 1, by omega⟩
  match vs, hv with
  | [v], hv =>
    obtain ⟨b, rfl, hb2⟩ := aH_ref hv.1 rfl
    have hb2 : b ∈ [a] := hb2
    rw [List.mem_singleton.mp hb2] at *
    show xstr 271 [.ref a] m P
    unfold xstr
    refine ⟨rfl, ?_⟩
    rw [h]
    refine hP _ _ ⟨hI, fun a i _ => rfl, _, List.mem_singleton.mpr rfl, ⟨_, rfl, Or.inr (Or.inl ⟨rfl, _, rfl, hb, trivial⟩)⟩, ⟨⟨fun z9 h9 => (by cases h9), fun w9 h9 => (by cases h9)⟩, trivial⟩, gF_nil⟩
  | [], hv => exact hv.elim
  | _ :: _ :: _, hv => exact hv.2.elim
theorem str_at {a x n i0 i1 : Nat} {lo hi : Int} (h : lay a = (5, x, n)) (hn : i1 < n) (hn2 : n < 2 ^ 31) (hb : ∀ q, q < i1 + 1 → (Nat.blt q i0 || (ile lo (cst a q).toInt && ile (cst a q).toInt hi)) = true) : vC tS tR J 1 (272, [aR [a], aI i0 i1], [], [(some (aI lo hi), [(lLo, lHi), (lLo, lHi)], [])], []) := by
  intro d hd m vs P hI _ hv hF hP
  obtain ⟨d, rfl⟩ : ∃ e, d = e + 1 := ⟨d - 1, by omega⟩
  match vs, hv with
  | [v, w], hv =>
    obtain ⟨b, rfl, hb2⟩ := aH_ref hv.1 rfl
    have hb2 : b ∈ [a] := hb2
    rw [List.mem_singleton.mp hb2] at *
    obtain ⟨y, rfl, hy, -⟩ := aH_int hv.2.1 rfl
    have hy : (i0 : Int) ≤ y.toInt ∧ y.toInt ≤ (i1 : Int) := hy
    show xstr 272 [.ref a, .int y] m P
    unfold xstr
    refine ⟨rfl, ?_⟩
    rw [h]
    have e : y = nI y.toInt.toNat := Int32.toInt_inj.mp (by rw [nI_toInt (by omega)]; omega)
    have e2 : y.toNatClampNeg = y.toInt.toNat := rfl
    have h3 := hb y.toInt.toNat (by omega)
    have h4 : Nat.blt y.toInt.toNat i0 = false := by
      cases e9 : Nat.blt y.toInt.toNat i0 with
      | false => rfl
      | true => have := bltN.mp e9; omega
    rw [h4] at h3
    simp only [Bool.false_or, Bool.and_eq_true, ile_iff] at h3
    refine ⟨?_, ?_⟩
    · rw [e]
      unfold vp_in
      rw [nI_clamp (by omega)]
      rintro (h1 | h1)
      · exact nI_pos (by omega) h1
      · omega
    · rw [e2]
      exact hP _ _ ⟨hI, fun a i _ => rfl, _, List.mem_singleton.mpr rfl, ⟨_, rfl, Or.inr (Or.inl ⟨rfl, _, rfl, h3, trivial⟩)⟩, ⟨⟨fun z9 h9 => (by cases h9), fun w9 h9 => (by cases h9)⟩, ⟨fun z9 h9 => ⟨by have := i32_rng z9; unfold iLo iHi at this; show lLo ≤ _; unfold lLo; omega, by have := i32_rng z9; unfold iLo iHi at this; show _ ≤ lHi; unfold lHi; omega⟩, fun w9 h9 => (by cases h9)⟩, trivial⟩, gF_nil⟩
  | [], hv => exact hv.elim
  | [_], hv => exact hv.2.elim
  | _ :: _ :: _ :: _, hv => exact hv.2.2.elim
end FAMW
end NC
