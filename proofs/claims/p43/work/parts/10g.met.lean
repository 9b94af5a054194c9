/-! L1: the contract of every method out of its call on the small machine -/
theorem lga_q {q : Nat → Nat} : ∀ (i : Nat) (as : List Value), lv_args i (as.map (xq q)) = (lv_args i as).map (xql q)
  | _, [] => rfl
  | i, v :: vs => by
    show (i, xq q v) :: lv_args (if (xq q v).category = 2 then i + 2 else i + 1) (vs.map (xq q)) = (i, xq q v) :: (lv_args (if v.category = 2 then i + 2 else i + 1) vs).map (xql q)
    rw [xq_cat, lga_q]
theorem lgs_q {q : Nat → Nat} : ∀ (as : List Value), (lg_sl (as.map (xq q))).length = (lg_sl as).length
  | [] => rfl
  | v :: vs => by
    have h := lgs_q (q := q) vs
    unfold lg_sl at h ⊢
    rw [List.map_cons, List.flatMap_cons, List.flatMap_cons, List.length_append, List.length_append, h, xq_cat]
    congr 1
    split <;> rfl
set_option maxRecDepth 100000 in
theorem pn_all : (List.range 265).all (fun j => plainName (kY j).cls) = true := by decide +kernel
theorem ow_of {j : Nat} (h : j < 271) : (kY j).cls = cln (kcl j) := by
  have h1 := mo1_all (show j < 273 by omega)
  unfold mo1 at h1
  simp only [Bool.and_eq_true, Bool.or_eq_true, decide_eq_true_eq, beq_iff_eq] at h1
  rcases h1.2.2.2 with h2 | h2
  · have h3 : (List.range 271).all (fun j => decide (kcl j ≠ 15)) = true := by decide +kernel
    exact absurd h2 (of_decide_eq_true (List.all_eq_true.mp h3 j (List.mem_range.mpr h)))
  · exact h2
section XMET
variable {l : Launch} {dC : Nat → ClassId} {dI : Nat → Nat → Nat} {cA : Nat → ClassId} {q sv : Nat → Nat}
theorem x_body {d j : Nat} (hj : j < 271) (ih : ∀ j, j < 273 → ∀ as m post sz, xw d j as m post → Met l (kY j) (kW j) (rmd d) (va_Pc (as.map (xq q)) (xP dC dI cA q sv m sz)) (xQ q post (xB dC dI cA q) (xA q sz)) 0 0 (xA q sz)) {as : List Value} {m : xM} {post : Option Value → xM → Prop} {sz n : Nat} (hlen : (lg_sl as).length ≤ knl j) (h : xe j (xw d) post n 0 (lv_args 0 as) [] m)
    (p : Program) (e : Env) (s : State) (mid : MethodId) (args : Array Value) (below : List Frame) (meth : Method) (c : Code) (s₁ : State) (B : BodyLoose p l (kY j) (headSpec (kW j) (rmd (d + 1))) (kB j) (knl j) (krt j) e s mid args below meth c s₁) (hml : c.maxLocals = knl j) (hv : va_Pc (as.map (xq q)) (xP dC dI cA q sv m sz) args s) :
    W p l e (rmd (d + 1)) s mid args below meth c s.heap [] 0 0 (MQ below (xQ q post (xB dC dI cA q) (xA q sz)) args s 0 0 (xA q sz)) (entryFrame mid args (knl j)) := by
  obtain ⟨rfl, hsz, hP, hK, hqi, hG, hE⟩ := hv
  have hts := atoms_spec (ws := kW j) B.pre
  have hown : s.vm.findClass (cln (kcl j)) = some mid.cls := by rw [← ow_of hj]; exact findClass_of_methodNamed B.named
  subst hsz
  have hl := lv_entry (as.map (xq q)) (n := knl j) (by rw [lgs_q]; exact hlen)
  rw [lg_entry_eq]
  generalize (lg_sl (as.map (xq q)) ++ List.replicate (knl j - (lg_sl (as.map (xq q))).length) Slot.unset).toArray = ls at hl ⊢
  rw [lga_q] at hl
  exact x_walk (ca := xw d) ⟨⟨B.exec, B.bytes, hml, hown, hts⟩, hK, hG, hE, fun a h => Or.inr h, fun i h => Or.inl ⟨i, h, rfl⟩, hqi, rfl, ih⟩ hj B.returns B.notSynchronized n 0 (lv_args 0 as) [] m ls s.heap [] h hl hP va_S.rf
theorem x_met : ∀ d j, j < 273 → ∀ as m post sz, xw d j as m post → Met l (kY j) (kW j) (rmd d) (va_Pc (as.map (xq q)) (xP dC dI cA q sv m sz)) (xQ q post (xB dC dI cA q) (xA q sz)) 0 0 (xA q sz) := by
  intro d
  induction d with
  | zero => exact fun j hj as m post sz h => h.elim
  | succ d ih =>
    intro j hj as m post sz h
    unfold xw at h
    by_cases h271 : 271 ≤ j
    · rw [show Nat.ble 271 j = true from Nat.ble_eq.mpr h271] at h
      replace h : xstr j as m post := h
      unfold xstr at h
      split at h
      · rename_i a
        obtain ⟨e1, h⟩ := h
        split at h
        · rename_i x n e2
          obtain ⟨i, hi, ei⟩ := lay_str (a := a) (by rw [e2])
          subst e1 ei
          have h2 := j_len l dC dI cA q sv m sz hi (n := d + 4) (post := post) (by rw [e2]; exact h)
          exact h2
        · exact h.elim
      · rename_i a i9
        obtain ⟨e1, h⟩ := h
        split at h
        · rename_i x n e2
          obtain ⟨h0, h⟩ := h
          obtain ⟨i, hi, ei⟩ := lay_str (a := a) (by rw [e2])
          subst e1 ei
          have hn6 : n ≤ 6 := by
            have e3 : n = (lay (1000 + i)).2.2 := by rw [e2]
            have : i = 0 ∨ i = 1 ∨ i = 2 ∨ i = 3 ∨ i = 4 := by omega
            rw [e3]
            rcases this with e | e | e | e | e <;> subst e <;> decide
          obtain ⟨z, hz, rfl⟩ := vp_in_of h0 (by omega)
          rw [nI_clamp (by omega)] at h
          have h2 := j_char l dC dI cA q sv m sz hi (j := z) (by rw [e2]; exact hz) (n := d + 2) (post := post) h
          exact h2
        · exact h.elim
      · exact h.elim
    · have hj2 : j < 271 := by omega
      rw [show Nat.ble 271 j = false by
        cases e : Nat.ble 271 j with
        | false => rfl
        | true => exact absurd (Nat.ble_eq.mp e) h271] at h
      obtain ⟨-, -, hlen, n, h⟩ : kmc j = 0 ∧ kms j = 0 ∧ (lg_sl as).length ≤ knl j ∧ ∃ n, xe j (xw d) post n 0 (lv_args 0 as) [] m := h
      by_cases h265 : j < 265
      · exact Met.ofW (cc := kB j) (maxL := knl j) (ret := krt j) (List.all_eq_true.mp pn_all j (List.mem_range.mpr h265)) rfl (x_body hj2 ih hlen h)
      · have : plainFor (kY j) = true := by
          have : j = 265 ∨ j = 266 ∨ j = 267 ∨ j = 268 ∨ j = 269 ∨ j = 270 := by omega
          rcases this with e | e | e | e | e | e <;> subst e
          · exact pf265
          · exact pf266
          · exact pf267
          · exact pf268
          · exact pf269
          · exact pf270
        exact va_MetF (cc := kB j) (maxL := knl j) (ret := krt j) this rfl (x_body hj2 ih hlen h)
end XMET
