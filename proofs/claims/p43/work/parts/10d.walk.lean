/-! L1: a walk of the small machine is one of the machine's -/
section XONE
variable {p : Program} {l : Launch} {e : Env} {R : Room} {s : State} {mid : MethodId} {args : Array Value} {below : List Frame} {meth : Method} {c : Code} {Q : State → Prop}
variable {dC : Nat → ClassId} {dI : Nat → Nat → Nat} {cA : Nat → ClassId} {q sv : Nat → Nat} {k d : Nat} {A : Nat → Prop} {ca : Nat → List Value → xM → (Option Value → xM → Prop) → Prop} {kk : Nat → List (Nat × Value) → List Value → xM → Prop} {Qp : Option Value → xM → Prop}
def xIH (p : Program) (l : Launch) (e : Env) (R : Room) (s : State) (mid : MethodId) (args : Array Value) (below : List Frame) (meth : Method) (c : Code) (Q : State → Prop) (dC : Nat → ClassId) (dI : Nat → Nat → Nat) (cA : Nat → ClassId) (q : Nat → Nat) (k : Nat) (A : Nat → Prop) (kk : Nat → List (Nat × Value) → List Value → xM → Prop) : Prop :=
  ∀ pc lo st m ls H locs, kk pc lo st m → lv_has ls (knl k) (lo.map (xql q)) → va_P (dC, dI) vwCl (wd q cA m) H → va_S A s.heap H locs → W p l e R s mid args below meth c H locs 0 0 Q (F0 mid pc ls (st.map (xq q)))
/-- what is the same throughout a method's run -/
def xCtx (p : Program) (l : Launch) (R : Room) (s : State) (mid : MethodId) (args : Array Value) (c : Code) (dC : Nat → ClassId) (dI : Nat → Nat → Nat) (cA : Nat → ClassId) (q sv : Nat → Nat) (k d : Nat) (A : Nat → Prop) (ca : Nat → List Value → xM → (Option Value → xM → Prop) → Prop) : Prop :=
  (p.tables.exec = Jvm.exec ∧ c.code = kB k ∧ c.maxLocals = knl k ∧ s.vm.findClass (cln (kcl k)) = some mid.cls ∧ ∀ w ∈ kW k, w.before args s = true) ∧ va_K (dC, dI) vwCl (xty cA) s ∧ gxP s ∧ xE q sv A s s.heap ∧ (∀ a, s.heap.size ≤ a → A a) ∧ (∀ i, i < 335 → A (q i)) ∧ (∀ i j, i < 335 → j < 335 → q i = q j → i = j) ∧ R = rmd (d + 1) ∧
  ∀ j, j < 273 → ∀ as m post sz, ca j as m post → Met l (kY j) (kW j) (rmd d) (va_Pc (as.map (xq q)) (xP dC dI cA q sv m sz)) (xQ q post (xB dC dI cA q) (xA q sz)) 0 0 (xA q sz)
theorem x_fld (C : xCtx p l R s mid args c dC dI cA q sv k d A ca) (ih : xIH p l e R s mid args below meth c Q dC dI cA q k A kk) {idx pc len : Nat} {lo : List (Nat × Value)} {st : List Value} {m : xM} {ls : Array Slot} {H : Heap} {locs : List Loc} (hd : decode (kB k) pc = .ok (.getfield idx, len)) (hlen : xsw (.getfield idx) = false → len = xlen (.getfield idx)) (h : xi k ca kk Qp (.getfield idx) pc lo st m) (hl : lv_has ls (knl k) (lo.map (xql q))) (hP : va_P (dC, dI) vwCl (wd q cA m) H) (hS : va_S A s.heap H locs) : W p l e R s mid args below meth c H locs 0 0 Q (F0 mid pc ls (st.map (xq q))) := by
  obtain ⟨⟨hx, hb, hml, hown, hts⟩, hK, hG, hE, hA, hqA, hqi, hR, hca⟩ := C
  obtain rfl := hlen rfl
  simp only [xi] at h
  obtain ⟨a, r, rfl, h2⟩ := pR_of h
  clear h
  split at h2
  · rename_i ci f e1
    obtain ⟨h1, h⟩ := h2
    obtain ⟨hf, hc, hw⟩ := fd_of e1
    have hw' := wd_at (q := q) (cA := cA) (m := m) (lay_lt h1 (by decide))
    rw [en_3 h1] at hw'
    have hv : ((List.range (kNf ci)).map (fun f => xq q (fvl m a ci f)))[f]? = some (xq q (fvl m a ci f)) := by rw [List.getElem?_map, List.getElem?_range hf]; rfl
    rcases hw with hw | hw
    · exact va_getN (D := (dC, dI)) hx hb hts (uw_in hc) hown hK hP a hw' (vw_of hc) f hf (va_Nw.use rfl (hG.1 _ hw rfl)) (fun _ h9 => h9) hv hd (ih _ _ _ _ _ _ _ h hl hP hS)
    · exact va_get (D := (dC, dI)) hx hb hts (uw_in hc) hown hK hP a hw' (vw_of hc) f hf (hw_of hts hw rfl) (fun _ h9 => h9) hv hd (ih _ _ _ _ _ _ _ h hl hP hS)
  · exact h2.elim
theorem x_put (C : xCtx p l R s mid args c dC dI cA q sv k d A ca) (ih : xIH p l e R s mid args below meth c Q dC dI cA q k A kk) {idx pc ci f a : Nat} {lo : List (Nat × Value)} {st : List Value} {m m' : xM} {ls : Array Slot} {H : Heap} {locs : List Loc} {v : Value} {ty : FieldType} (hd : decode (kB k) pc = .ok (.putfield idx, 3)) (e1 : kFd (kcl k) idx = some (ci, f)) (hfn : fn ci f = false) (h1 : lay a = (3, ci, kNf ci)) (hty : kty ci f = ty) (hn : narrow ty (xq q v) = xq q v) (hfit : fits ty (xq q v) = true) (ho : ∀ j, j ≠ a → en q cA m' j = en q cA m j) (hg : ∀ j, j ≠ f → fvl m' a ci j = fvl m a ci j) (hv : fvl m' a ci f = v)
    (h : kk (pc + 3) lo st m') (hl : lv_has ls (knl k) (lo.map (xql q))) (hP : va_P (dC, dI) vwCl (wd q cA m) H) (hS : va_S A s.heap H locs) : W p l e R s mid args below meth c H locs 0 0 Q (F0 mid pc ls (xq q v :: .ref (q a) :: st.map (xq q))) := by
  obtain ⟨⟨hx, hb, hml, hown, hts⟩, hK, hG, hE, hA, hqA, hqi, hR, hca⟩ := C
  obtain ⟨hf, hc, hw⟩ := fd_of e1
  have ha := lay_lt h1 (by decide)
  have hD : va_D A (wd q cA m) := wd_D hqi hqA
  have hw' := wd_at (q := q) (cA := cA) (m := m) ha
  rw [en_3 h1] at hw'
  obtain ⟨t1, t2, t3, -⟩ := ty_of hc hf
  have hL : f < ((List.range (kNf ci)).map (fun f => xq q (fvl m a ci f))).length := by simpa using hf
  have go : ∀ (H1 : Heap) (locs1 : List Loc), va_P (dC, dI) vwCl ((wd q cA m).set a (q a, .inr (ci, ((List.range (kNf ci)).map (fun f => xq q (fvl m a ci f))).set f (xq q v)))) H1 → va_D A ((wd q cA m).set a (q a, .inr (ci, ((List.range (kNf ci)).map (fun f => xq q (fvl m a ci f))).set f (xq q v)))) → va_S A s.heap H1 locs1 → W p l e R s mid args below meth c H1 locs1 0 0 Q (F0 mid (pc + 3) ls (st.map (xq q))) := by
    intro H1 locs1 hP1 _ hS1
    rw [fl_put h1 ha hf ho hg hv] at hP1
    exact ih _ _ _ _ _ _ _ h hl hP1 hS1
  rcases hw with hw | hw
  · exact va_putN (D := (dC, dI)) hx hb hts (uw_in hc) (kty ci) (fun j hj => (ty_of hc hj).1) (nm_of hc) hown hK hP hD hS a hw' (vw_of hc) f hf (va_Nw.use rfl (hG.1 _ hw rfl)) (fun _ h9 => h9) (t2.trans hfn) (t1.trans (congrArg some hty)) hn hfit hL hd go
  · exact va_put (D := (dC, dI)) hx hb hts (uw_in hc) (kty ci) (fun j hj => (ty_of hc hj).1) (nm_of hc) hown hK hP hD hS a hw' (vw_of hc) f hf (hw_of hts hw rfl) (fun _ h9 => h9) (t2.trans hfn) (t1.trans (congrArg some hty)) hn hfit hL hd go
theorem fv_I {m : xM} {a ci f j : Nat} {x : Int32} (h : j ≠ f) : fvl (mI m a f x) a ci j = fvl m a ci j := by
  have e : (mI m a f x).1 a j = m.1 a j := by simp [mI, u2, h]
  unfold fvl
  rw [e]
  rfl
theorem fv_J {m : xM} {a ci f j : Nat} {x : Int64} (h : j ≠ f) : fvl (mJ m a f x) a ci j = fvl m a ci j := by
  have e : (mJ m a f x).2.1 a j = m.2.1 a j := by simp [mJ, u2, h]
  unfold fvl
  rw [e]
  rfl
theorem fv_R {m : xM} {a ci f j : Nat} {x : Option Nat} (h : j ≠ f) : fvl (mR m a f x) a ci j = fvl m a ci j := by
  have e : (mR m a f x).2.2 a j = m.2.2 a j := by simp [mR, u2, h]
  unfold fvl
  rw [e]
  rfl
theorem fv_Is {m : xM} {a ci f : Nat} {x : Int32} (h : fk ci f = 0 ∨ fk ci f = 1) : fvl (mI m a f x) a ci f = .int x := by
  have e : (mI m a f x).1 a f = x := by simp [mI, u2]
  unfold fvl
  rcases h with h | h <;> rw [h] <;> exact congrArg Value.int e
theorem fv_Js {m : xM} {a ci f : Nat} {x : Int64} (h : fk ci f = 2) : fvl (mJ m a f x) a ci f = .long x := by
  have e : (mJ m a f x).2.1 a f = x := by simp [mJ, u2]
  unfold fvl
  rw [h]
  exact congrArg Value.long e
theorem fv_Rs {m : xM} {a ci f : Nat} {x : Nat} (h : fk ci f = 3) : fvl (mR m a f (some x)) a ci f = .ref x := by
  have e : (mR m a f (some x)).2.2 a f = some x := by simp [mR, u2]
  unfold fvl
  rw [h]
  exact congrArg rvl e
theorem x_putf (C : xCtx p l R s mid args c dC dI cA q sv k d A ca) (ih : xIH p l e R s mid args below meth c Q dC dI cA q k A kk) {idx pc len : Nat} {lo : List (Nat × Value)} {st : List Value} {m : xM} {ls : Array Slot} {H : Heap} {locs : List Loc} (hd : decode (kB k) pc = .ok (.putfield idx, len)) (hlen : xsw (.putfield idx) = false → len = xlen (.putfield idx)) (h : xi k ca kk Qp (.putfield idx) pc lo st m) (hl : lv_has ls (knl k) (lo.map (xql q))) (hP : va_P (dC, dI) vwCl (wd q cA m) H) (hS : va_S A s.heap H locs) : W p l e R s mid args below meth c H locs 0 0 Q (F0 mid pc ls (st.map (xq q))) := by
  obtain rfl := hlen rfl
  simp only [xi] at h
  split at h
  · rename_i ci f e1
    obtain ⟨hfn, h⟩ := h
    obtain ⟨hf, hc, hw⟩ := fd_of e1
    obtain ⟨t1, t2, t3, t4⟩ := ty_of hc hf
    split at h
    · rename_i e2
      rw [e2] at t4
      obtain ⟨x, r, rfl, h2⟩ := pI_of h
      obtain ⟨a, r, rfl, h1, h3⟩ := pR_of h2
      have t5 : kty ci f = .int := by
        generalize kty ci f = t at t4
        cases t <;> first | rfl | cases t4
      exact x_put (m := m) (m' := mI m a f x) C ih hd e1 hfn h1 (v := .int x) t5 rfl rfl (fun j hj => en_eq (u2_ne hj) rfl rfl) (fun j hj => fv_I hj) (fv_Is (Or.inl e2)) h3 hl hP hS
    · rename_i e2
      rw [e2] at t4
      obtain ⟨x, r, rfl, h2⟩ := pI_of h
      obtain ⟨a, r, rfl, h0, h1, h3⟩ := pR_of h2
      have t5 : kty ci f = .boolean := by
        generalize kty ci f = t at t4
        cases t <;> first | rfl | cases t4
      exact x_put (m := m) (m' := mI m a f x) C ih hd e1 hfn h1 (v := .int x) t5 (by rcases h0 with h0 | h0 <;> rw [h0] <;> rfl) (by rcases h0 with h0 | h0 <;> rw [h0] <;> rfl) (fun j hj => en_eq (u2_ne hj) rfl rfl) (fun j hj => fv_I hj) (fv_Is (Or.inr e2)) h3 hl hP hS
    · rename_i e2
      rw [e2] at t4
      obtain ⟨x, r, rfl, h2⟩ := pL_of h
      obtain ⟨a, r, rfl, h1, h3⟩ := pR_of h2
      have t5 : kty ci f = .long := by
        generalize kty ci f = t at t4
        cases t <;> first | rfl | cases t4
      exact x_put (m := m) (m' := mJ m a f x) C ih hd e1 hfn h1 (v := .long x) t5 rfl rfl (fun j hj => en_eq rfl (u2_ne hj) rfl) (fun j hj => fv_J hj) (fv_Js e2) h3 hl hP hS
    · rename_i e2
      rw [e2] at t4
      obtain ⟨x, r, rfl, h2⟩ := pR_of h
      obtain ⟨a, r, rfl, h1, h3⟩ := pR_of h2
      generalize t5 : kty ci f = t at t4
      cases t with
      | object C9 => exact x_put (m := m) (m' := mR m a f (some x)) C ih hd e1 hfn h1 (v := .ref x) t5 rfl rfl (fun j hj => en_eq rfl rfl (u2_ne hj)) (fun j hj => fv_R hj) (fv_Rs e2) h3 hl hP hS
      | array C9 => exact x_put (m := m) (m' := mR m a f (some x)) C ih hd e1 hfn h1 (v := .ref x) t5 rfl rfl (fun j hj => en_eq rfl rfl (u2_ne hj)) (fun j hj => fv_R hj) (fv_Rs e2) h3 hl hP hS
      | _ => cases t4
    · exact h.elim
  · exact h.elim
set_option maxHeartbeats 4000000 in
set_option maxRecDepth 20000 in
theorem x_inv (C : xCtx p l R s mid args c dC dI cA q sv k d A ca) (ih : xIH p l e R s mid args below meth c Q dC dI cA q k A kk) {idx pc len : Nat} {lo : List (Nat × Value)} {st : List Value} {m : xM} {ls : Array Slot} {H : Heap} {locs : List Loc} (hd : decode (kB k) pc = .ok (.invokevirtual idx, len)) (hlen : xsw (.invokevirtual idx) = false → len = xlen (.invokevirtual idx)) (h : xi k ca kk Qp (.invokevirtual idx) pc lo st m) (hl : lv_has ls (knl k) (lo.map (xql q))) (hP : va_P (dC, dI) vwCl (wd q cA m) H) (hS : va_S A s.heap H locs) : W p l e R s mid args below meth c H locs 0 0 Q (F0 mid pc ls (st.map (xq q))) := by
  obtain ⟨F, hK, hG, hE, hA, hqA, hqi, hR, hca⟩ := C
  obtain ⟨hx, hb, hml, hown, hts⟩ := F
  obtain rfl := hlen rfl
  have hf := x_free hqA hS hA
  simp only [xi] at h
  split at h
  · rename_i j e1
    split at h
    · rename_i as b r e2
      obtain ⟨h1, h2, h3, h4, h5⟩ := h
      obtain ⟨e3, e4⟩ := pops_of e2
      subst e3
      obtain ⟨c1, -, c3, c4, -, -⟩ := cl_of e1
      obtain ⟨c5, c6, c7, c8⟩ := c4 rfl
      obtain ⟨-, w2, w3⟩ := mw_of c1
      obtain ⟨w4, w5⟩ := w2 c5
      have hb9 : b < 335 := lay_lt h1 (by decide)
      have he : (wd q cA m)[b]? = some (q b, .inr (kcl j, (List.range (kNf (kcl j))).map (fun f => xq q (fvl m b (kcl j) f)))) := by rw [wd_at hb9, en_3 h1]
      have hM := hca j c1 _ _ _ H.size h5
      have hrm : (rmd d).frames + 1 ≤ R.frames ∧ 8 + (knl j + 11) + (rmd d).locals ≤ R.locals := by
        have := nl_of c1
        rw [hR]
        simp only [rmd]
        omega
      have hpre : PreV s H (cln (kcl j)) (q b) (va_Pc (((Value.ref b) :: as).map (xq q)) (xP dC dI cA q sv m H.size)) (as.map (xq q)) := ⟨xP_blind, va_recv hK hP (vw_of c8) he, fun U hU hW => ⟨rfl, xP_use hU hW hP hK hqi hG hS hf hE⟩⟩
      have hrest : 2 * (F0 mid pc ls ((as.reverse ++ Value.ref b :: r).map (xq q))).monitorRoom + ((r.map (xq q)).map fun v => v.category).sum ≤ 8 := lv_room (by rw [cat_q]; exact h2)
      have hst : (F0 mid pc ls ((as.reverse ++ Value.ref b :: r).map (xq q))).stack = (as.map (xq q)).reverse ++ .ref (q b) :: r.map (xq q) := by
        show (as.reverse ++ Value.ref b :: r).map (xq q) = _
        rw [List.map_append, List.map_reverse]
        rfl
      have go : ∀ (rv : Option Value) (u : xM) (t : State) (H1 : Heap) (locs1 : List Loc), t.heap = H1 → s.vm.Alike t.vm → kk (pc + 3) lo (rv.toList ++ r) u → xB dC dI cA q u t → H.size ≤ H1.size → va_S A s.heap H1 locs1 → W p l e R s mid args below meth c H1 locs1 (0 + 0) (0 + 0) Q (F0 mid (pc + 3) ls ((rv.map (xq q)).toList ++ r.map (xq q))) := by
        intro rv u t H1 locs1 ht _ hp hB _ hS1
        rw [tl_q]
        exact ih _ _ _ _ _ _ _ hp hl (by rw [← ht]; exact hB) hS1
      rcases c3 (Or.inl rfl) with hw | hw
      · refine x_call (va_runVN (As := as.map (xq q)) (rest := r.map (xq q)) (C := cln (kcl j)) ⟨hx, hb, hml, hown, hts⟩ hM ⟨va_cnB (knp j) hts (kW_good (cd_in c1)) rfl rfl rfl (hG.1 _ hw rfl) (hw_of hts w3 rfl) (md_of c1) hrm, hw_of hts w4 rfl, ?_⟩ hpre rfl (by rw [List.length_map]; exact e4) hl.1 hst hrest hd ⟨Nat.zero_le _, Nat.zero_le _⟩) hS (fun a _ h9 => hf a h9) hf go
        rw [← c7]
        exact hw_of hts (w5 c6) rfl
      · refine x_call (va_runV (As := as.map (xq q)) (rest := r.map (xq q)) (C := cln (kcl j)) ⟨hx, hb, hml, hown, hts⟩ hM ⟨callB_of (knp j) hts (kW_good (cd_in c1)) rfl rfl rfl (hw_of hts w3 rfl) (hw_of hts hw rfl) (md_of c1) hrm, hw_of hts w4 rfl, ?_⟩ hpre rfl (by rw [List.length_map]; exact e4) hl.1 hst hrest hd ⟨Nat.zero_le _, Nat.zero_le _⟩) hS (fun a _ h9 => hf a h9) hf go
        rw [← c7]
        exact hw_of hts (w5 c6) rfl
    · exact h.elim
  · rename_i j e1
    split at h
    · rename_i as b r e2
      obtain ⟨h1, h2, h5⟩ := h
      obtain ⟨e3, e4⟩ := pops_of e2
      subst e3
      obtain ⟨c1, -, c3, -, -, c4⟩ := cl_of e1
      obtain ⟨c5, c6, c7, c8⟩ := c4 rfl
      obtain ⟨-, w2, w3⟩ := mw_of c1
      obtain ⟨w4, w5⟩ := w2 c5
      have hM := hca j c1 _ _ _ H.size h5
      have hrm : (rmd d).frames + 1 ≤ R.frames ∧ 8 + (knl j + 11) + (rmd d).locals ≤ R.locals := by
        have := nl_of c1
        rw [hR]
        simp only [rmd]
        omega
      obtain ⟨i9, hi9, hb9⟩ := lay_str h1
      have hpre : PreV s H "java/lang/String" (q b) (va_Pc (((Value.ref b) :: as).map (xq q)) (xP dC dI cA q sv m H.size)) (as.map (xq q)) := ⟨xP_blind, by rw [hb9]; exact vk_recv hE.1 (i := i9) hi9 hS, fun U hU hW => ⟨rfl, xP_use hU hW hP hK hqi hG hS hf hE⟩⟩
      have hrest : 2 * (F0 mid pc ls ((as.reverse ++ Value.ref b :: r).map (xq q))).monitorRoom + ((r.map (xq q)).map fun v => v.category).sum ≤ 8 := lv_room (by rw [cat_q]; exact h2)
      have hst : (F0 mid pc ls ((as.reverse ++ Value.ref b :: r).map (xq q))).stack = (as.map (xq q)).reverse ++ .ref (q b) :: r.map (xq q) := by
        show (as.reverse ++ Value.ref b :: r).map (xq q) = _
        rw [List.map_append, List.map_reverse]
        rfl
      have go : ∀ (rv : Option Value) (u : xM) (t : State) (H1 : Heap) (locs1 : List Loc), t.heap = H1 → s.vm.Alike t.vm → kk (pc + 3) lo (rv.toList ++ r) u → xB dC dI cA q u t → H.size ≤ H1.size → va_S A s.heap H1 locs1 → W p l e R s mid args below meth c H1 locs1 (0 + 0) (0 + 0) Q (F0 mid (pc + 3) ls ((rv.map (xq q)).toList ++ r.map (xq q))) := by
        intro rv u t H1 locs1 ht _ hp hB _ hS1
        rw [tl_q]
        exact ih _ _ _ _ _ _ _ hp hl (by rw [← ht]; exact hB) hS1
      rcases c3 (Or.inr (Or.inr rfl)) with hw | hw
      · refine x_call (va_runVN (As := as.map (xq q)) (rest := r.map (xq q)) (C := "java/lang/String") ⟨hx, hb, hml, hown, hts⟩ hM ⟨va_cnB (knp j) hts (kW_good (cd_in c1)) rfl rfl rfl (hG.1 _ hw rfl) (hw_of hts w3 rfl) (md_of c1) hrm, hw_of hts w4 rfl, ?_⟩ hpre rfl (by rw [List.length_map]; exact e4) hl.1 hst hrest hd ⟨Nat.zero_le _, Nat.zero_le _⟩) hS (fun a _ h9 => hf a h9) hf go
        rw [← c7]
        exact hw_of hts (w5 c6) rfl
      · refine x_call (va_runV (As := as.map (xq q)) (rest := r.map (xq q)) (C := "java/lang/String") ⟨hx, hb, hml, hown, hts⟩ hM ⟨callB_of (knp j) hts (kW_good (cd_in c1)) rfl rfl rfl (hw_of hts w3 rfl) (hw_of hts hw rfl) (md_of c1) hrm, hw_of hts w4 rfl, ?_⟩ hpre rfl (by rw [List.length_map]; exact e4) hl.1 hst hrest hd ⟨Nat.zero_le _, Nat.zero_le _⟩) hS (fun a _ h9 => hf a h9) hf go
        rw [← c7]
        exact hw_of hts (w5 c6) rfl
    · exact h.elim
  · exact h.elim
set_option maxHeartbeats 4000000 in
set_option maxRecDepth 20000 in
theorem x_ins (C : xCtx p l R s mid args c dC dI cA q sv k d A ca) (ih : xIH p l e R s mid args below meth c Q dC dI cA q k A kk) {idx pc len : Nat} {lo : List (Nat × Value)} {st : List Value} {m : xM} {ls : Array Slot} {H : Heap} {locs : List Loc} (hd : decode (kB k) pc = .ok (.invokestatic idx, len)) (hlen : xsw (.invokestatic idx) = false → len = xlen (.invokestatic idx)) (h : xi k ca kk Qp (.invokestatic idx) pc lo st m) (hl : lv_has ls (knl k) (lo.map (xql q))) (hP : va_P (dC, dI) vwCl (wd q cA m) H) (hS : va_S A s.heap H locs) : W p l e R s mid args below meth c H locs 0 0 Q (F0 mid pc ls (st.map (xq q))) := by
  obtain ⟨F, hK, hG, hE, hA, hqA, hqi, hR, hca⟩ := C
  obtain ⟨hx, hb, hml, hown, hts⟩ := F
  obtain rfl := hlen rfl
  have hf := x_free hqA hS hA
  simp only [xi] at h
  split at h
  · rename_i j e1
    split at h
    · rename_i as r e2
      obtain ⟨h2, h3, h4, h5⟩ := h
      obtain ⟨e3, e4⟩ := pops_of e2
      subst e3
      obtain ⟨c1, -, c3, -, c4, -⟩ := cl_of e1
      have c5 := c4 rfl
      obtain ⟨w2, -, w3⟩ := mw_of c1
      have w4 := w2 c5
      have hM := hca j c1 _ _ _ H.size h5
      have hrm : (rmd d).frames + 1 ≤ R.frames ∧ 8 + (knl j + 11) + (rmd d).locals ≤ R.locals := by
        have := nl_of c1
        rw [hR]
        simp only [rmd]
        omega
      have hpre : PreS s H (va_Pc (as.map (xq q)) (xP dC dI cA q sv m H.size)) (as.map (xq q)) := ⟨xP_blind, fun U hU hW => ⟨rfl, xP_use hU hW hP hK hqi hG hS hf hE⟩⟩
      have hrest : 2 * (F0 mid pc ls ((as.reverse ++ r).map (xq q))).monitorRoom + ((r.map (xq q)).map fun v => v.category).sum ≤ 8 := lv_room (by rw [cat_q]; exact h2)
      have hst : (F0 mid pc ls ((as.reverse ++ r).map (xq q))).stack = (as.map (xq q)).reverse ++ r.map (xq q) := by
        show (as.reverse ++ r).map (xq q) = _
        rw [List.map_append, List.map_reverse]
      have go : ∀ (rv : Option Value) (u : xM) (t : State) (H1 : Heap) (locs1 : List Loc), t.heap = H1 → s.vm.Alike t.vm → kk (pc + 3) lo (rv.toList ++ r) u → xB dC dI cA q u t → H.size ≤ H1.size → va_S A s.heap H1 locs1 → W p l e R s mid args below meth c H1 locs1 (0 + 0) (0 + 0) Q (F0 mid (pc + 3) ls ((rv.map (xq q)).toList ++ r.map (xq q))) := by
        intro rv u t H1 locs1 ht _ hp hB _ hS1
        rw [tl_q]
        exact ih _ _ _ _ _ _ _ hp hl (by rw [← ht]; exact hB) hS1
      rcases c3 (Or.inr (Or.inl rfl)) with hw | hw
      · exact x_call (va_runSN (As := as.map (xq q)) (rest := r.map (xq q)) ⟨hx, hb, hml, hown, hts⟩ hM ⟨va_cnB (knp j) hts (kW_good (cd_in c1)) rfl rfl rfl (hG.1 _ hw rfl) (hw_of hts w3 rfl) (md_of c1) hrm, hw_of hts w4 rfl, trivial⟩ hpre rfl (by rw [List.length_map]; exact e4) hl.1 hst hrest hd ⟨Nat.zero_le _, Nat.zero_le _⟩) hS (fun a _ h9 => hf a h9) hf go
      · exact x_call (va_runS (As := as.map (xq q)) (rest := r.map (xq q)) ⟨hx, hb, hml, hown, hts⟩ hM ⟨callB_of (knp j) hts (kW_good (cd_in c1)) rfl rfl rfl (hw_of hts w3 rfl) (hw_of hts hw rfl) (md_of c1) hrm, hw_of hts w4 rfl⟩ hpre rfl (by rw [List.length_map]; exact e4) hl.1 hst hrest hd ⟨Nat.zero_le _, Nat.zero_le _⟩) hS (fun a _ h9 => hf a h9) hf go
    · exact h.elim
  · rename_i z9 e1
    obtain ⟨n, r0, rfl, h1⟩ := pI_of h
    obtain ⟨dp, r1, rfl, h2⟩ := pI_of h1
    obtain ⟨b, r2, rfl, h3⟩ := pR_of h2
    obtain ⟨sp, r3, rfl, h4⟩ := pI_of h3
    obtain ⟨a, r, rfl, h5, h6, h7, h8, h9⟩ := pR_of h4
    obtain ⟨-, c3, -⟩ := cl_of e1
    have hw := c3 rfl
    have hD : va_D A (wd q cA m) := wd_D hqi hqA
    have hfr : 1 ≤ R.frames := by
      rw [hR]
      show 1 ≤ d + 1 + 4
      omega
    have hlo : ((r.map (xq q)).map fun v => v.category).sum + (nativeFrameWords "java/lang/System" "arraycopy" 5 + 11) ≤ R.locals := by
      have h0 : nativeFrameWords "java/lang/System" "arraycopy" 5 + 11 ≤ 100 := by decide +kernel
      rw [cat_q, hR]
      show _ ≤ 64 * (d + 1 + 4)
      omega
    split at h9
    · rename_i nb e2
      obtain ⟨h10, h11⟩ := h9
      have hb1 := lay_lt e2 (by decide)
      have hb2 := wd_at (q := q) (cA := cA) (m := m) hb1
      rw [en_0 e2] at hb2
      split at h11
      · rename_i na e3
        obtain ⟨h12, h13⟩ := h11
        have ha2 := wd_at (q := q) (cA := cA) (m := m) (lay_lt e3 (by decide))
        rw [en_0 e3] at ha2
        exact va_copyi (D := (dC, dI)) hx hb (hml.trans hl.1.symm) hown (hw_of hts hw rfl) (hw_of hts ac_nat rfl) (hw_of hts ac_st rfl) (hw_of hts ac_ini rfl) hK hP hD hS a b 0 0 ha2 hb2 rfl rfl rfl h6 h7 h8 h12 h10 (fun _ _ => rfl) hfr hlo hd (fun H1 locs1 hP1 _ hS1 => ih _ _ _ _ _ _ _ h13 hl (by rw [← ar_setC e2 hb1]; exact hP1) hS1)
      · rename_i na e3
        obtain ⟨h12, h13⟩ := h11
        obtain ⟨j, hj, ej, en⟩ := lay_cst e3
        obtain ⟨-, hT⟩ := hE.2.2.2.1 j hj
        rw [← ej, en.2 rfl, e3] at hT
        exact my_copyT (D := (dC, dI)) hx hb (hml.trans hl.1.symm) hown (hw_of hts hw rfl) (hw_of hts ac_nat rfl) (hw_of hts ac_st rfl) (hw_of hts ac_ini rfl) hK hP hD hS hT b 0 hb2 rfl h6 h7 h8 h12 h10 hfr hlo hd (fun H1 locs1 hP1 _ hS1 => ih _ _ _ _ _ _ _ h13 hl (by rw [← ar_setC e2 hb1]; exact hP1) hS1)
      · exact h11.elim
    · exact h9.elim
  · exact h.elim
end XONE
