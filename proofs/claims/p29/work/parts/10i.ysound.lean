/-! the evaluator's run is the machine's -/
def insL : List (Nat × Nat) := [(465, 158), (363, 155), (252, 151), (270, 152), (485, 159), (207, 150), (423, 157), (395, 156), (181, 149), (317, 153), (343, 154), (173, 148), (1281, 160)]
set_option maxRecDepth 100000 in
theorem nwi_all : (List.range 13).all (fun c => decide (lwA ((insL.getD c (0, 0)).1) = some (.instantiable (cln c) (kNf c))) && decide (lwA ((insL.getD c (0, 0)).2) = some (.initialized (cln c)))) = true := by decide +kernel
set_option maxRecDepth 100000 in
theorem nw_all : (List.range 16).all (fun c => (NWL.getD c []).all (fun e => decide (lwA e.2.2 = some (.classLink (cln c) e.1 (match Nat.beq e.2.1 50 with | true => "[[I" | false => cln e.2.1))))) = true := by decide +kernel
theorem nw_of {c i ci : Nat} (h : kNw c i = some ci) : Cond.classLink (cln c) i (match Nat.beq ci 50 with | true => "[[I" | false => cln ci) ∈ lw_tbl := by
  unfold kNw at h
  by_cases hc : c < 16
  · obtain ⟨e, he, hce⟩ := Option.map_eq_some_iff.mp h
    obtain ⟨v', ps⟩ := e
    have hce : v' = ci := hce
    subst hce
    have h1 := List.all_eq_true.mp (List.all_eq_true.mp nw_all c (List.mem_range.mpr hc)) _ (lku_in he)
    exact lwA_in (of_decide_eq_true h1)
  · rw [getD_out (show NWL.length ≤ c from Nat.not_lt.mp hc)] at h
    cases h
theorem nwi_of {c : Nat} (h : c < 13) : Cond.instantiable (cln c) (kNf c) ∈ lw_tbl ∧ Cond.initialized (cln c) ∈ lw_tbl := by
  have h1 := List.all_eq_true.mp nwi_all c (List.mem_range.mpr h)
  simp only [Bool.and_eq_true, decide_eq_true_eq] at h1
  exact ⟨lwA_in h1.1, lwA_in h1.2⟩
set_option maxRecDepth 100000 in
theorem ak_int : Cond.arrayClass .int ∈ lw_tbl := lwA_in (i := 205) (by decide +kernel)
set_option maxRecDepth 100000 in
theorem ak_byte : Cond.arrayClass .byte ∈ lw_tbl := lwA_in (i := 1279) (by decide +kernel)
set_option maxRecDepth 100000 in
theorem ak_bool : Cond.arrayClass .boolean ∈ lw_tbl := lwA_in (i := 421) (by decide +kernel)
set_option maxRecDepth 100000 in
theorem ak_long : Cond.arrayClass .long ∈ lw_tbl := lwA_in (i := 1451) (by decide +kernel)
set_option maxRecDepth 100000 in
theorem oj_ini : Cond.instanceMethod objectInit ∈ lw_tbl := lwA_in (i := 178) (by decide +kernel)
set_option maxRecDepth 100000 in
theorem oj_cod : Cond.code objectInit ⟨#[0xb1]⟩ 1 none ∈ lw_tbl := List.mem_of_getElem? (i := 179) rfl
def rmy (d j : Nat) : Room := { frames := d + 1, cells := kmc j, slots := kms j, locals := 64 * (d + 1) }
def wdn (q : Nat → Nat) (cA : Nat → ClassId) (n : Nat) (m : xM) : va_W := (List.range n).map (fun k => (q k, en q cA m k))
theorem wdn_at {q : Nat → Nat} {cA : Nat → ClassId} {n : Nat} {m : xM} {k : Nat} (h : k < n) : (wdn q cA n m)[k]? = some (q k, en q cA m k) := by
  unfold wdn
  rw [List.getElem?_map, List.getElem?_range h]
  rfl
theorem wdn_out {q : Nat → Nat} {cA : Nat → ClassId} {n : Nat} {m : xM} {k : Nat} {x : Nat × va_E} (h : (wdn q cA n m)[k]? = some x) : k < n ∧ x = (q k, en q cA m k) := by
  by_cases hk : k < n
  · rw [wdn_at hk] at h
    exact ⟨hk, (Option.some.inj h).symm⟩
  · unfold wdn at h
    rw [List.getElem?_eq_none (by simpa using hk)] at h
    cases h
theorem wdn_set {q : Nat → Nat} {cA : Nat → ClassId} {n : Nat} {m m' : xM} {k : Nat} (h : k < n) (ho : ∀ j, j ≠ k → en q cA m' j = en q cA m j) : (wdn q cA n m).set k (q k, en q cA m' k) = wdn q cA n m' := by
  apply List.ext_getElem?
  intro j
  unfold wdn
  by_cases hj : j = k
  · subst hj
    rw [List.getElem?_set_self (by simpa using h), List.getElem?_map, List.getElem?_range h]
    rfl
  · rw [List.getElem?_set_ne (Ne.symm hj), List.getElem?_map, List.getElem?_map]
    by_cases hl : j < n
    · rw [List.getElem?_range hl]
      simp [ho j hj]
    · rw [List.getElem?_eq_none (by simpa using hl)]
      rfl
def yG (q1 : Nat → Nat) (n1 bs n : Nat) (q : Nat → Nat) : Prop := n1 ≤ n ∧ (∀ k, k < n1 ∨ 1000 ≤ k → q k = q1 k) ∧ (∀ i j, i < n → j < n → q i = q j → i = j) ∧ ∀ k, k < n → bs ≤ q k
theorem wdn_D {q1 q : Nat → Nat} {cA : Nat → ClassId} {n1 n bs : Nat} {m : xM} (h : yG q1 n1 bs n q) : va_D (fun a => bs ≤ a) (wdn q cA n m) := by
  refine ⟨fun i j x y hx hy hxy => ?_, fun k x hx => ?_⟩
  · obtain ⟨h1, h2⟩ := wdn_out hx
    obtain ⟨h3, h4⟩ := wdn_out hy
    exact h.2.2.1 i j h1 h3 (by rw [h2, h4] at hxy; exact hxy)
  · obtain ⟨h1, h2⟩ := wdn_out hx
    rw [h2]
    exact h.2.2.2 k h1
/-- two address maps that agree below n and on the constants -/
def yA (n : Nat) (q q2 : Nat → Nat) : Prop := ∀ k, k < n ∨ 1000 ≤ k → q2 k = q k
theorem ycv_q {n : Nat} {q q2 : Nat → Nat} (h : yA n q q2) {v : Value} (hv : ycv n v = true) : xq q2 v = xq q v := by
  cases v with
  | ref a =>
    simp only [ycv, Bool.or_eq_true] at hv
    refine congrArg Value.ref (h a ?_)
    rcases hv with hv | hv
    · left; simpa [Nat.blt_eq] using hv
    · right; exact Nat.le_of_ble_eq_true hv
  | _ => rfl
theorem ycs_q {n : Nat} {q q2 : Nat → Nat} (h : yA n q q2) {l : List (Nat × Value)} {st : List Value} (hc : ycs n l st = true) : l.map (xql q2) = l.map (xql q) ∧ st.map (xq q2) = st.map (xq q) := by
  unfold ycs at hc
  simp only [Bool.and_eq_true] at hc
  exact ⟨List.map_congr_left fun p hp => by
    show (p.1, xq q2 p.2) = (p.1, xq q p.2)
    rw [ycv_q h (List.all_eq_true.mp hc.1 p hp)], List.map_congr_left fun v hv => ycv_q h (List.all_eq_true.mp hc.2 v hv)⟩
theorem ycm_q {n : Nat} {q q2 : Nat → Nat} (h : yA n q q2) : ∀ {L : List (Nat × Nat × Nat)}, ycm n L = true → ∀ a i, (yR L a i).map q2 = (yR L a i).map q
  | [], _, _, _ => rfl
  | (b, j, v) :: t, hc, a, i => by
    unfold ycm at hc
    simp only [List.all_cons, Bool.and_eq_true, Bool.or_eq_true] at hc
    have h2 := ycm_q (q := q) (q2 := q2) h (L := t) hc.2 a i
    show (bif Nat.beq b a then (bif Nat.beq j i then some v else yR t a i) else yR t a i).map q2 = (bif Nat.beq b a then (bif Nat.beq j i then some v else yR t a i) else yR t a i).map q
    cases Nat.beq b a
    · exact h2
    · cases Nat.beq j i
      · exact h2
      · refine congrArg some (h v ?_)
        rcases hc.1 with hv | hv
        · left; simpa [Nat.blt_eq] using hv
        · right; exact Nat.le_of_ble_eq_true hv
theorem en_q {n : Nat} {q q2 : Nat → Nat} {cA : Nat → ClassId} {y : yS} (h : yA n q q2) (hc : ycm n y.2.1 = true) (k : Nat) : en q2 cA (ym y) k = en q cA (ym y) k := by
  have h1 : ∀ i, ((ym y).2.2 k i).map q2 = ((ym y).2.2 k i).map q := fun i => ycm_q h hc k i
  have h2 : ∀ x f, xq q2 (fvl (ym y) k x f) = xq q (fvl (ym y) k x f) := by
    intro x f
    unfold fvl
    split
    · rfl
    · rfl
    · rfl
    · rw [xq_rvl, xq_rvl, h1]
  unfold en
  split
  · rfl
  · rfl
  · rename_i x n e
    have : (fun i => ((ym y).2.2 k i).map q2) = (fun i => ((ym y).2.2 k i).map q) := funext h1
    rw [this]
  · have h3 : ∀ x, (fun f => xq q2 (fvl (ym y) k x f)) = (fun f => xq q (fvl (ym y) k x f)) := fun x => funext (h2 x)
    rw [h3]
theorem wdn_q {n : Nat} {q q2 : Nat → Nat} {cA : Nat → ClassId} {y : yS} (h : yA n q q2) (hc : ycm n y.2.1 = true) : wdn q2 cA n (ym y) = wdn q cA n (ym y) := by
  unfold wdn
  refine List.map_congr_left fun k hk => ?_
  rw [en_q h hc, h k (Or.inl (List.mem_range.mp hk))]
def qup (q : Nat → Nat) (n a : Nat) : Nat → Nat := fun k => if k = n then a else q k
theorem yA_up {q : Nat → Nat} {n a : Nat} (hn : n ≤ 999) : yA n q (qup q n a) := fun k hk => by
  unfold qup
  rw [if_neg (by omega)]
theorem yG_up {q1 q : Nat → Nat} {n1 bs n a : Nat} (hn : n ≤ 999) (h : yG q1 n1 bs n q) (ha : bs ≤ a) (hf : ∀ k, k < n → q k ≠ a) : yG q1 n1 bs (n + 1) (qup q n a) := by
  obtain ⟨h1, h2, h3, h4⟩ := h
  refine ⟨by omega, fun k hk => ?_, fun i j hi hj hij => ?_, fun k hk => ?_⟩
  · unfold qup
    rw [if_neg (by omega)]
    exact h2 k hk
  · unfold qup at hij
    by_cases e1 : i = n <;> by_cases e2 : j = n
    · omega
    · rw [if_pos e1, if_neg e2] at hij
      exact absurd hij.symm (hf j (by omega))
    · rw [if_neg e1, if_pos e2] at hij
      exact absurd hij (hf i (by omega))
    · rw [if_neg e1, if_neg e2] at hij
      exact h3 i j (by omega) (by omega) hij
  · unfold qup
    by_cases e1 : k = n
    · rw [if_pos e1]; exact ha
    · rw [if_neg e1]; exact h4 k (by omega)
/-- one cell more: what the row of the world says of the list is what the numbered world says -/
theorem wdn_app {q : Nat → Nat} {cA : Nat → ClassId} {y : yS} {a : Nat} {e : va_E} (hn : y.2.2 ≤ 999) (hc : ycm y.2.2 y.2.1 = true) (he : en (qup q y.2.2 a) cA (ym y) y.2.2 = e) : wdn q cA y.2.2 (ym y) ++ [(a, e)] = wdn (qup q y.2.2 a) cA (y.2.2 + 1) (ym y) := by
  have h1 : wdn (qup q y.2.2 a) cA (y.2.2 + 1) (ym y) = wdn (qup q y.2.2 a) cA y.2.2 (ym y) ++ [(qup q y.2.2 a y.2.2, en (qup q y.2.2 a) cA (ym y) y.2.2)] := by
    unfold wdn
    rw [List.range_succ, List.map_append]
    rfl
  rw [h1, wdn_q (yA_up hn) hc, he]
  unfold qup
  rw [if_pos rfl]
theorem wdn_free {q : Nat → Nat} {cA : Nat → ClassId} {m : xM} {n a : Nat} {e : va_E} {A : Nat → Prop} (h : va_D A (wdn q cA n m ++ [(a, e)])) : ∀ k, k < n → q k ≠ a := by
  intro k hk e1
  have hl : (wdn q cA n m).length = n := by unfold wdn; simp
  have h1 : (wdn q cA n m ++ [(a, e)])[k]? = some (q k, en q cA m k) := by rw [List.getElem?_append_left (by omega), wdn_at hk]
  have h2 : (wdn q cA n m ++ [(a, e)])[n]? = some (a, e) := by rw [List.getElem?_append_right (by omega), hl]; simp
  have := h.1 k n _ _ h1 h2 e1
  omega
theorem xE_q {q q2 sv : Nat → Nat} {A : Nat → Prop} {U : State} {H : Heap} (h : ∀ k, 1000 ≤ k → q2 k = q k) (hE : xE q sv A U H) : xE q2 sv A U H := by
  obtain ⟨e1, e2, e3, e4, e5⟩ := hE
  have f1 : (fun i => q2 (1000 + i)) = (fun i => q (1000 + i)) := funext fun i => h _ (by omega)
  exact ⟨by rw [f1]; exact e1, e2, e3, fun j hj => by rw [h (1005 + j) (by omega)]; exact e4 j hj, fun i hi => by rw [h (1000 + i) (by omega)]; exact e5 i hi⟩
theorem va_at.lt' {D : va_G} {cl : List vw_C} {ws : va_W} {H : Heap} (h : va_P D cl ws H) {k : Nat} {x : Nat × va_E} (hx : ws[k]? = some x) : x.1 < H.size := (h k x hx).lt
theorem fl_putn {q : Nat → Nat} {cA : Nat → ClassId} {n : Nat} {m m' : xM} {a ci f : Nat} {v : Value} (h : lay a = (3, ci, kNf ci)) (ha : a < n) (hf : f < kNf ci) (ho : ∀ j, j ≠ a → en q cA m' j = en q cA m j) (hg : ∀ j, j ≠ f → fvl m' a ci j = fvl m a ci j) (hv : fvl m' a ci f = v) : (wdn q cA n m).set a (q a, .inr (ci, ((List.range (kNf ci)).map (fun f => xq q (fvl m a ci f))).set f (xq q v))) = wdn q cA n m' := by
  rw [← wdn_set (m' := m') ha ho, en_3 h, ← hv, fl_set (g' := fun f => xq q (fvl m' a ci f)) hf (fun j hj => by rw [hg j hj])]
theorem va_P.grow {D : va_G} {cl : List vw_C} {ws : va_W} {H H1 : Heap} (h : va_P D cl ws H) (hk : ∀ x : Nat, x < H.size → H1[x]? = H[x]?) : va_P D cl ws H1 := h.kept (fun k x hx => hk x.1 ((h k x hx).lt))
def yP (dC : Nat → ClassId) (dI : Nat → Nat → Nat) (cA : Nat → ClassId) (q sv : Nat → Nat) (bs : Nat) (y : yS) (U : State) : Prop :=
  bs ≤ U.heap.size ∧ va_P (dC, dI) vwCl (wdn q cA y.2.2 (ym y)) U.heap ∧ va_K (dC, dI) vwCl (xty cA) U ∧ yG q y.2.2 bs y.2.2 q ∧ gxP U ∧ xE q sv (fun a => bs ≤ a) U U.heap
theorem yP_blind {dC : Nat → ClassId} {dI : Nat → Nat → Nat} {cA : Nat → ClassId} {q sv : Nat → Nat} {bs : Nat} {y : yS} {av : List Value} : FrameBlind (va_Pc av (yP dC dI cA q sv bs y)) := fun a U g mk z => by
  obtain ⟨q0, q1, qP, qK, qD, qG, qE⟩ := z
  exact ⟨q0, q1, qP, va_K.moved (u := U) (U := U.calling g mk a) (Vm.Alike.refl U.vm) qK, qD, gx_same (u := U) (U := U.calling g mk a) rfl qG, xE_same (u := U) (U := U.calling g mk a) rfl rfl qE⟩
/-- a constructor's end: the addresses as they were, and those of the new cells -/
abbrev yQ (dC : Nat → ClassId) (dI : Nat → Nat → Nat) (cA : Nat → ClassId) (q1 : Nat → Nat) (n1 bs : Nat) (y : yS) : Array Value → State → Outcome → State → Prop := va_Qv (S := Nat → Nat) (fun q => yG q1 n1 bs y.2.2 q) (fun q t => va_P (dC, dI) vwCl (wdn q cA y.2.2 (ym y)) t.heap) (fun a => bs ≤ a)
section YONE
variable {p : Program} {l : Launch} {e : Env} {R : Room} {s : State} {mid : MethodId} {args : Array Value} {below : List Frame} {meth : Method} {c0 : Code}
variable {dC : Nat → ClassId} {dI : Nat → Nat → Nat} {cA : Nat → ClassId} {q1 sv : Nat → Nat} {k d bs n1 : Nat} {ca : Nat → List Value → yS → Option yS} {kk : Nat → List (Nat × Value) → List Value → yS → Nat → Nat → Option yS} {yF : yS}
def yCtx (p : Program) (l : Launch) (R : Room) (s : State) (mid : MethodId) (args : Array Value) (meth : Method) (c0 : Code) (dC : Nat → ClassId) (dI : Nat → Nat → Nat) (cA : Nat → ClassId) (q1 sv : Nat → Nat) (k d bs : Nat) (ca : Nat → List Value → yS → Option yS) : Prop :=
  (p.tables.exec = Jvm.exec ∧ c0.code = kB k ∧ c0.maxLocals = knl k ∧ s.vm.findClass (cln (kcl k)) = some mid.cls ∧ ∀ w ∈ kW k, w.before args s = true) ∧ va_K (dC, dI) vwCl (xty cA) s ∧ gxP s ∧ xE q1 sv (fun a => bs ≤ a) s s.heap ∧ bs ≤ s.heap.size ∧ meth.name = "<init>" ∧ meth.sig.returnType = none ∧ meth.locks = false ∧ R = rmy (d + 1) k ∧
  ∀ j, j < 265 → ∀ as y y' q, ca j as y = some y' → y.2.2 ≤ 999 → Met l (kY j) (kW j) (rmy d j) (va_Pc (as.map (xq q)) (yP dC dI cA q sv bs y)) (yQ dC dI cA q y.2.2 bs y') (kmc j) (kms j) (fun a => bs ≤ a)
def yIH (p : Program) (l : Launch) (e : Env) (R : Room) (s : State) (mid : MethodId) (args : Array Value) (below : List Frame) (meth : Method) (c0 : Code) (dC : Nat → ClassId) (dI : Nat → Nat → Nat) (cA : Nat → ClassId) (q1 : Nat → Nat) (n1 k bs : Nat) (yF : yS) (kk : Nat → List (Nat × Value) → List Value → yS → Nat → Nat → Option yS) : Prop :=
  ∀ q pc lo st y ls H locs c z, kk pc lo st y c z = some yF → yG q1 n1 bs y.2.2 q → lv_has ls (knl k) (lo.map (xql q)) → y.2.2 ≤ 999 → va_P (dC, dI) vwCl (wdn q cA y.2.2 (ym y)) H → va_S (fun a => bs ≤ a) s.heap H locs → W p l e R s mid args below meth c0 H locs c z (MQ below (yQ dC dI cA q1 n1 bs yF) args s (kmc k) (kms k) (fun a => bs ≤ a)) (F0 mid pc ls (st.map (xq q)))
theorem bif_t {α : Type} {b : Bool} {x : Option α} {v : α} (h : (bif b then x else none) = some v) : b = true ∧ x = some v := by
  cases b
  · cases h
  · exact ⟨rfl, h⟩
theorem beq_t {a b : Nat} (h : Nat.beq a b = true) : a = b := Nat.eq_of_beq_eq_true h
theorem blt_t {a b : Nat} (h : Nat.blt a b = true) : a < b := by simpa [Nat.blt_eq] using h
theorem ble_t {a b : Nat} (h : Nat.ble a b = true) : a ≤ b := Nat.le_of_ble_eq_true h
theorem vpV_map {N j : Nat} {g : Nat → Value} (h : j < N) : vp_V ((List.range N).map g) j = g j := by
  unfold vp_V
  rw [List.getD_eq_getElem?_getD, List.getElem?_map, List.getElem?_range h]
  rfl
theorem df_of {ci f : Nat} (hc : ci < 13) (hf : f < kNf ci) {m : xM} {n : Nat} (h1 : m.1 n = fun _ => 0) (h2 : m.2.1 n = fun _ => 0) (h3 : m.2.2 n = fun _ => none) (q : Nat → Nat) : defaultValue (kty ci f) = xq q (fvl m n ci f) := by
  obtain ⟨-, -, -, t4⟩ := ty_of hc hf
  unfold fvl
  rw [h1, h2, h3]
  split at t4
  · rename_i e1 e2; rw [e1, e2]; rfl
  · rename_i e1 e2; rw [e1, e2]; rfl
  · rename_i e1 e2; rw [e1, e2]; rfl
  · rename_i e1 e2; rw [e1, e2]; rfl
  · rename_i e1 e2; rw [e1, e2]; rfl
  · cases t4
theorem yrows_R {n : Nat} : ∀ {N : Nat} {L : List (Nat × Nat × Nat)} {b j : Nat}, yR (yrows n N L) b j = if b = n ∧ j < N then some (n + 1 + j) else yR L b j
  | 0, L, b, j => by simp [yrows]
  | N + 1, L, b, j => by
    show (bif Nat.beq n b then (bif Nat.beq N j then some (n + 1 + N) else yR (yrows n N L) b j) else yR (yrows n N L) b j) = _
    rw [nb_if, nb_if, yrows_R]
    by_cases h1 : b = n
    · subst h1
      by_cases h2 : j = N
      · subst h2
        simp
      · simp only [h2, if_false, if_true, true_and]
        by_cases h3 : j < N
        · simp [h3, show j < N + 1 by omega]
        · simp [h3, show ¬ j < N + 1 by omega]
    · simp [h1]
theorem ap_cong {α : Type} {a b c d : List α} (h1 : a = c) (h2 : b = d) : a ++ b = c ++ d := by rw [h1, h2]
theorem yG_of {q1 q q2 : Nat → Nat} {cA : Nat → ClassId} {m : xM} {n1 n n2 bs : Nat} (h : yG q1 n1 bs n q) (hA : yA n q q2) (hn : n ≤ n2) (hD : va_D (fun a => bs ≤ a) (wdn q2 cA n2 m)) : yG q1 n1 bs n2 q2 := by
  obtain ⟨h1, h2, h3, h4⟩ := h
  refine ⟨Nat.le_trans h1 hn, fun k hk => ?_, fun i j hi hj hij => hD.1 i j _ _ (wdn_at hi) (wdn_at hj) hij, fun k hk => hD.2 k _ (wdn_at hk)⟩
  rw [hA k (by omega)]
  exact h2 k hk
theorem yK_prim {D : va_G} {cl : List vw_C} {cA : Nat → ClassId} {s : State} {c1 : ClassId} {ty : FieldType} {x : Nat} (hK : va_K D cl (xty cA) s) (hK1 : va_K D cl (xty cA ++ [(c1, ty)]) s) (hx : (xty cA)[x]? = some (cA x, ty)) (hty : ∀ c, va_RA s c ty → s.vm.findClass ("[" ++ ty.toString) = some c) : c1 = cA x := by
  have h1 := hty _ (hK1.2 7 (c1, ty) (by unfold xty; rfl)).2
  have h2 := hty _ (hK.2 x _ hx).2
  exact Option.some.inj (h1.symm.trans h2)
def quN (q : Nat → Nat) (n a N : Nat) (r : Nat → Nat) : Nat → Nat := fun k => if k = n then a else if n < k ∧ k ≤ n + N then r (k - n - 1) else q k
theorem yA_N {q : Nat → Nat} {n a N : Nat} {r : Nat → Nat} (hn : n + N ≤ 999) : yA n q (quN q n a N r) := fun k hk => by
  unfold quN
  rw [if_neg (by omega), if_neg (by omega)]
theorem en_rows {q : Nat → Nat} {cA : Nat → ClassId} {y : yS} {N k : Nat} (hk : k ≠ y.2.2) : en q cA (ym (y.1, yrows y.2.2 N y.2.1, y.2.2 + 1 + N)) k = en q cA (ym y) k := by
  refine en_eq rfl rfl ?_
  funext j
  show yR (yrows y.2.2 N y.2.1) k j = yR y.2.1 k j
  rw [yrows_R, if_neg (fun z => hk z.1)]
theorem wdn_rows {q : Nat → Nat} {cA : Nat → ClassId} {y : yS} {a N w : Nat} {r : Nat → Nat} (hn : y.2.2 + N < 999) (hc : ycm y.2.2 y.2.1 = true) (hf : yfr y = true) (h1 : lay y.2.2 = (2, 6, N)) (h2 : ∀ j, j < N → lay (y.2.2 + 1 + j) = (0, 0, w)) :
    (wdn q cA y.2.2 (ym y) ++ [(a, .inl (cA 6, N, .inr (.inr (.inr (.inr (fun i => if i < N then some (r i) else none))))))]) ++ (List.range N).map (fun i => (r i, .inl (cA 0, w, .inl (fun _ => 0)))) = wdn (quN q y.2.2 a N r) cA (y.2.2 + 1 + N) (ym (y.1, yrows y.2.2 N y.2.1, y.2.2 + 1 + N)) := by
  unfold yfr at hf
  simp only [Bool.and_eq_true] at hf
  have g0 : wdn q cA y.2.2 (ym y) = (List.range y.2.2).map (fun k => (quN q y.2.2 a N r k, en (quN q y.2.2 a N r) cA (ym (y.1, yrows y.2.2 N y.2.1, y.2.2 + 1 + N)) k)) := by
    unfold wdn
    refine List.map_congr_left fun k hk => ?_
    have hk := List.mem_range.mp hk
    rw [en_rows (by omega), en_q (yA_N (by omega)) hc, yA_N (a := a) (r := r) (N := N) (by omega) k (Or.inl hk)]
  have g1 : en (quN q y.2.2 a N r) cA (ym (y.1, yrows y.2.2 N y.2.1, y.2.2 + 1 + N)) y.2.2 = .inl (cA 6, N, .inr (.inr (.inr (.inr (fun i => if i < N then some (r i) else none))))) := by
    rw [en_2 h1]
    have : (fun i => ((ym (y.1, yrows y.2.2 N y.2.1, y.2.2 + 1 + N)).2.2 y.2.2 i).map (quN q y.2.2 a N r)) = (fun i => if i < N then some (r i) else none) := by
      funext i
      show (yR (yrows y.2.2 N y.2.1) y.2.2 i).map _ = _
      rw [yrows_R]
      by_cases hi : i < N
      · rw [if_pos ⟨rfl, hi⟩, if_pos hi]
        show some (quN q y.2.2 a N r (y.2.2 + 1 + i)) = _
        unfold quN
        rw [if_neg (by omega), if_pos (by omega)]
        congr 2
        omega
      · rw [if_neg (fun z => hi z.2), if_neg hi, yR_fr hf.2]
        rfl
    rw [this]
  have g2 : ∀ j, j < N → en (quN q y.2.2 a N r) cA (ym (y.1, yrows y.2.2 N y.2.1, y.2.2 + 1 + N)) (y.2.2 + 1 + j) = .inl (cA 0, w, .inl (fun _ => 0)) := by
    intro j hj
    rw [en_rows (by omega), en_0 (h2 j hj)]
    have : (ym y).1 (y.2.2 + 1 + j) = fun _ => 0 := by
      show yI y.1 (y.2.2 + 1 + j) = _
      refine yI_fr (List.all_eq_true.mpr fun e he => ?_)
      have := List.all_eq_true.mp hf.1 e he
      simp only [Nat.blt_eq] at this ⊢
      omega
    rw [this]
  have g3 : quN q y.2.2 a N r y.2.2 = a := if_pos rfl
  have g4 : ∀ j, j < N → quN q y.2.2 a N r (y.2.2 + 1 + j) = r j := by
    intro j hj
    unfold quN
    rw [if_neg (by omega), if_pos (by omega)]
    congr 1
    omega
  rw [g0]
  unfold wdn
  rw [List.range_add, List.map_append, List.range_succ, List.map_append]
  refine ap_cong (ap_cong rfl ?_) ?_
  · rw [List.map_singleton, g1, g3]
  · rw [List.map_map]
    refine List.map_congr_left fun j hj => ?_
    have hj := List.mem_range.mp hj
    show _ = (quN q y.2.2 a N r (y.2.2 + 1 + j), en (quN q y.2.2 a N r) cA _ (y.2.2 + 1 + j))
    rw [g2 j hj, g4 j hj]
theorem cl4_of {c i j : Nat} (h : kCl c i = some (4, j)) : Cond.methodLink (cln c) i objectInit ∈ lw_tbl := by
  unfold kCl at h
  by_cases hc : c < 16
  · obtain ⟨e, he, hce⟩ := Option.map_eq_some_iff.mp h
    obtain ⟨⟨a, b⟩, ne, ps⟩ := e
    cases hce
    have h1 := List.all_eq_true.mp (List.all_eq_true.mp cl_all c (List.mem_range.mpr hc)) _ (lku_in he)
    simp only [Bool.and_eq_true, decide_eq_true_eq] at h1
    exact lwA_in h1.1
  · rw [getD_out (show CLL.length ≤ c from Nat.not_lt.mp hc)] at h
    cases h
def c6B (e : Nat × (Nat × Nat) × Bool × Nat) : Bool := !(Nat.beq e.2.1.1 6) || (Nat.blt e.2.1.2 265 && (!(kst e.2.1.2) && ((kY e.2.1.2).name == "<init>" && decide (krt e.2.1.2 = none))))
set_option maxRecDepth 100000 in
theorem c6_all : (List.range 16).all (fun c => (CLL.getD c []).all c6B) = true := by decide +kernel
theorem cl6_of {c i j : Nat} (h : kCl c i = some (6, j)) : j < 265 ∧ (Cond.methodLinkNest (cln c) i (kY j) "WallChapels" ∈ lw_tbl ∨ Cond.methodLink (cln c) i (kY j) ∈ lw_tbl) ∧ kst j = false ∧ (kY j).name = "<init>" ∧ krt j = none := by
  unfold kCl at h
  by_cases hc : c < 16
  · obtain ⟨e, he, hce⟩ := Option.map_eq_some_iff.mp h
    obtain ⟨⟨a, b⟩, ne, ps⟩ := e
    cases hce
    have h1 := List.all_eq_true.mp (List.all_eq_true.mp cl_all c (List.mem_range.mpr hc)) _ (lku_in he)
    have h2 := List.all_eq_true.mp (List.all_eq_true.mp c6_all c (List.mem_range.mpr hc)) _ (lku_in he)
    simp only [Bool.and_eq_true, decide_eq_true_eq] at h1
    have h3 := lwA_in h1.1
    simp only [c6B, Bool.or_eq_true, Bool.and_eq_true, Bool.not_eq_true', beq_iff_eq, decide_eq_true_eq] at h2
    rcases h2 with h2 | ⟨h4, h5, h6, h7⟩
    · cases h2
    · refine ⟨blt_t h4, ?_, h5, h6, h7⟩
      cases ne
      · exact Or.inr h3
      · exact Or.inl h3
  · rw [getD_out (show CLL.length ≤ c from Nat.not_lt.mp hc)] at h
    cases h
theorem fdo_all : (List.range 16).all (fun c => (FDL.getD c []).all (fun e => !(Nat.beq e.2.1.1 c) || !e.2.2.1)) = true := by decide +kernel
theorem fd_own {c i ci f : Nat} (h : kFd c i = some (ci, f)) (hc9 : c = ci) : Cond.fieldLink (cln c) i (kT ci f).1 (kT ci f).2.1 (kT ci f).2.2.1 ∈ lw_tbl := by
  unfold kFd at h
  by_cases hc : c < 16
  · obtain ⟨e, he, hce⟩ := Option.map_eq_some_iff.mp h
    obtain ⟨⟨a, b⟩, ne, ps⟩ := e
    cases hce
    have h1 := List.all_eq_true.mp (List.all_eq_true.mp fd_all c (List.mem_range.mpr hc)) _ (lku_in he)
    have h3 := List.all_eq_true.mp (List.all_eq_true.mp fdo_all c (List.mem_range.mpr hc)) _ (lku_in he)
    simp only [Bool.and_eq_true, decide_eq_true_eq] at h1
    have h2 := lwA_in h1.1
    cases ne
    · exact h2
    · subst hc9
      simp at h3
  · rw [getD_out (show FDL.length ≤ c from Nat.not_lt.mp hc)] at h
    cases h
set_option maxHeartbeats 8000000 in
set_option maxRecDepth 20000 in
theorem y_one (C : yCtx p l R s mid args meth c0 dC dI cA q1 sv k d bs ca) (ih : yIH p l e R s mid args below meth c0 dC dI cA q1 n1 k bs yF kk) (i : Instr) {q : Nat → Nat} {pc len : Nat} {lo : List (Nat × Value)} {st : List Value} {y : yS} {ls : Array Slot} {H : Heap} {locs : List Loc} {c z : Nat} (hd : decode (kB k) pc = .ok (i, len)) (hlen : xsw i = false → len = xlen i) (htg : xtg (pc, i) = true) (h : yo k ca kk i pc lo st y c z = some yF) (hq : yG q1 n1 bs y.2.2 q) (hl : lv_has ls (knl k) (lo.map (xql q))) (hn9 : y.2.2 ≤ 999) (hP : va_P (dC, dI) vwCl (wdn q cA y.2.2 (ym y)) H) (hS : va_S (fun a => bs ≤ a) s.heap H locs) : W p l e R s mid args below meth c0 H locs c z (MQ below (yQ dC dI cA q1 n1 bs yF) args s (kmc k) (kms k) (fun a => bs ≤ a)) (F0 mid pc ls (st.map (xq q))) := by
  obtain ⟨⟨hx, hb, hml, hown, hts⟩, hK, hG, hE1, hbs, hnm, hrt, hlocks, hR, hca⟩ := C
  have hD : va_D (fun a => bs ≤ a) (wdn q cA y.2.2 (ym y)) := wdn_D hq
  have hE : xE q sv (fun a => bs ≤ a) s s.heap := xE_q (fun k hk => hq.2.1 k (Or.inr hk)) hE1
  have hA : ∀ a, s.heap.size ≤ a → bs ≤ a := fun a ha => Nat.le_trans hbs ha
  cases i
  case iconst n =>
    obtain rfl := hlen rfl
    exact lv_iconst hx hb hd rfl (ih _ _ _ _ _ _ _ _ _ _ h hq hl hn9 hP hS)
  case bipush n =>
    obtain rfl := hlen rfl
    exact lv_bipush hx hb hd rfl (ih _ _ _ _ _ _ _ _ _ _ h hq hl hn9 hP hS)
  case sipush n =>
    obtain rfl := hlen rfl
    exact lv_sipush hx hb hd rfl (ih _ _ _ _ _ _ _ _ _ _ h hq hl hn9 hP hS)
  case iload_n n =>
    obtain rfl := hlen rfl
    simp only [yo] at h
    split at h
    · rename_i x e1
      exact lv_iload_n hx hb hd rfl (lk_at hl e1) (ih _ _ _ _ _ _ _ _ _ _ h hq hl hn9 hP hS)
    · cases h
  case aload_n n =>
    obtain rfl := hlen rfl
    simp only [yo] at h
    split at h
    · rename_i x e1
      exact lv_aload_n hx hb hd rfl (lk_at hl e1) (ih _ _ _ _ _ _ _ _ _ _ h hq hl hn9 hP hS)
    · cases h
  case istore_n n =>
    obtain rfl := hlen rfl
    simp only [yo] at h
    split at h
    · rename_i x r
      obtain ⟨h1, h2⟩ := bif_t h
      exact lv_istore_n hx hb hd rfl hl (blt_t h1) (sv1_q (v := .int x)) (fun ls2 hl2 => ih _ _ _ _ _ _ _ _ _ _ h2 hq hl2 hn9 hP hS)
    · cases h
  case iinc n d9 =>
    obtain rfl := hlen rfl
    simp only [yo] at h
    split at h
    · rename_i x e1
      obtain ⟨h1, h2⟩ := bif_t h
      obtain ⟨ix, hix⟩ := lkl_ix e1
      exact lv_iinc hx hb hd hl (k := ix) (by rw [List.getElem?_map, hix]; rfl) rfl (blt_t h1) (sv1_q (v := .int (x + Int32.ofInt d9))) (fun ls2 hl2 => ih _ _ _ _ _ _ _ _ _ _ h2 hq hl2 hn9 hP hS)
    · cases h
  case dup =>
    obtain rfl := hlen rfl
    simp only [yo] at h
    split at h
    · exact lv_dup hx hb hd rfl (ih _ _ _ _ _ _ _ _ _ _ h hq hl hn9 hP hS)
    · cases h
  case goto o =>
    obtain rfl := hlen rfl
    exact lv_goto hx hb hd (tg_of (of_decide_eq_true htg)) (ih _ _ _ _ _ _ _ _ _ _ h hq hl hn9 hP hS)
  case if_icmp cc o =>
    obtain rfl := hlen rfl
    cases cc <;> try (cases h; done)
    simp only [yo] at h
    split at h
    · rename_i b a r
      exact lv_icmp_ge hx hb hd (tg_of (of_decide_eq_true htg)) (fun c9 => by rw [if_pos c9] at h; exact ih _ _ _ _ _ _ _ _ _ _ h hq hl hn9 hP hS) (fun c9 => by rw [if_neg c9] at h; exact ih _ _ _ _ _ _ _ _ _ _ h hq hl hn9 hP hS)
    · cases h
  case ldc n =>
    obtain rfl := hlen rfl
    simp only [yo] at h
    split at h
    · rename_i a e1
      obtain ⟨j, hj, ej, hv⟩ := ld_ref hE.2.2.2.2 e1
      rw [ej] at h
      exact va_ldcS hx hb hown hv hd (ih _ _ _ _ _ _ _ _ _ _ h hq hl hn9 hP hS)
    · cases h
  case getfield n =>
    obtain rfl := hlen rfl
    simp only [yo] at h
    split at h
    · rename_i a r
      split at h
      · rename_i ci f e1
        obtain ⟨h1, h2⟩ := bif_t h
        simp only [Bool.and_eq_true, decide_eq_true_eq] at h1
        obtain ⟨h3, h4, h5⟩ := h1
        split at h2
        · rename_i b e2
          obtain ⟨hf, hc, hw⟩ := fd_of e1
          have hw' := wdn_at (q := q) (cA := cA) (m := ym y) (blt_t h5)
          rw [en_3 h3] at hw'
          have hfv : xq q (fvl (ym y) a ci f) = .ref (q b) := by
            unfold fvl
            rw [beq_t h4]
            show xq q (rvl (yR y.2.1 a f)) = _
            rw [e2]
            rfl
          have hv : ((List.range (kNf ci)).map (fun f => xq q (fvl (ym y) a ci f)))[f]? = some (.ref (q b)) := by rw [List.getElem?_map, List.getElem?_range hf]; exact congrArg some hfv
          rcases hw with hw | hw
          · exact va_getN (D := (dC, dI)) hx hb hts (uw_in hc) hown hK hP a hw' (vw_of hc) f hf (va_Nw.use rfl (hG.1 _ hw rfl)) (fun _ h9 => h9) hv hd (ih _ _ _ _ _ _ _ _ _ _ h2 hq hl hn9 hP hS)
          · exact va_get (D := (dC, dI)) hx hb hts (uw_in hc) hown hK hP a hw' (vw_of hc) f hf (hw_of hts hw rfl) (fun _ h9 => h9) hv hd (ih _ _ _ _ _ _ _ _ _ _ h2 hq hl hn9 hP hS)
        · cases h2
      · cases h
    · cases h
  case putfield n =>
    obtain rfl := hlen rfl
    simp only [yo] at h
    split at h
    · rename_i ci f e1
      obtain ⟨hf, hc, hw⟩ := fd_of e1
      obtain ⟨t1, t2, t3, t4⟩ := ty_of hc hf
      have put : ∀ (a : Nat) (v : Value) (y2 : yS) (r : List Value) (ty : FieldType), kty ci f = ty → lay a = (3, ci, kNf ci) → a < y.2.2 → kcl k = ci → narrow ty (xq q v) = xq q v → fits ty (xq q v) = true → (∀ j, j ≠ a → en q cA (ym y2) j = en q cA (ym y) j) → (∀ j, j ≠ f → fvl (ym y2) a ci j = fvl (ym y) a ci j) → fvl (ym y2) a ci f = v → y2.2.2 = y.2.2 → kk (pc + 3) lo r y2 c z = some yF → W p l e R s mid args below meth c0 H locs c z (MQ below (yQ dC dI cA q1 n1 bs yF) args s (kmc k) (kms k) (fun a => bs ≤ a)) (F0 mid pc ls (xq q v :: .ref (q a) :: r.map (xq q))) := by
        intro a v y2 r ty hty h1 ha hkc hn hfit ho hg hv hy h2
        have hw' := wdn_at (q := q) (cA := cA) (m := ym y) ha
        rw [en_3 h1] at hw'
        have hL : f < ((List.range (kNf ci)).map (fun f => xq q (fvl (ym y) a ci f))).length := by simpa using hf
        have go : ∀ (H1 : Heap) (locs1 : List Loc), va_P (dC, dI) vwCl ((wdn q cA y.2.2 (ym y)).set a (q a, .inr (ci, ((List.range (kNf ci)).map (fun f => xq q (fvl (ym y) a ci f))).set f (xq q v)))) H1 → va_D (fun a => bs ≤ a) ((wdn q cA y.2.2 (ym y)).set a (q a, .inr (ci, ((List.range (kNf ci)).map (fun f => xq q (fvl (ym y) a ci f))).set f (xq q v)))) → va_S (fun a => bs ≤ a) s.heap H1 locs1 → W p l e R s mid args below meth c0 H1 locs1 c z (MQ below (yQ dC dI cA q1 n1 bs yF) args s (kmc k) (kms k) (fun a => bs ≤ a)) (F0 mid (pc + 3) ls (r.map (xq q))) := by
          intro H1 locs1 hP1 _ hS1
          rw [fl_putn h1 ha hf ho hg hv] at hP1
          exact ih _ _ _ _ _ _ _ _ _ _ h2 (by rw [hy]; exact hq) hl (by rw [hy]; exact hn9) (by rw [hy]; exact hP1) hS1
        have hdecl : (kT ci f).1 = cln (kcl k) := by rw [hkc]; exact t3
        have hw2 := fd_own e1 hkc
        cases hfn : fn ci f with
        | true => exact va_putF (D := (dC, dI)) hx hb hts (uw_in hc) (kty ci) (fun j hj => (ty_of hc hj).1) (nm_of hc) hown hK hP hD hS a hw' (vw_of hc) f hf (hw_of hts hw2 rfl) (fun _ h9 => h9) (t2.trans hfn) hnm hdecl (t1.trans (congrArg some hty)) hn hfit hL hd go
        | false => exact va_put (D := (dC, dI)) hx hb hts (uw_in hc) (kty ci) (fun j hj => (ty_of hc hj).1) (nm_of hc) hown hK hP hD hS a hw' (vw_of hc) f hf (hw_of hts hw2 rfl) (fun _ h9 => h9) (t2.trans hfn) (t1.trans (congrArg some hty)) hn hfit hL hd go
      split at h
      · rename_i x a r
        obtain ⟨h1, h2⟩ := bif_t h
        simp only [Bool.and_eq_true, decide_eq_true_eq] at h1
        obtain ⟨h3, h4, h5, h6⟩ := h1
        have e2 := beq_t h4
        rw [e2] at t4
        have t5 : kty ci f = .int := by
          generalize kty ci f = t at t4
          cases t <;> first | rfl | cases t4
        refine put a (.int x) ((a, f, x) :: y.1, y.2.1, y.2.2) r .int t5 h3 (blt_t h5) (beq_t h6) rfl rfl ?_ ?_ ?_ rfl h2
        · rw [yI_put]; exact fun j hj => en_eq (u2_ne hj) rfl rfl
        · rw [yI_put]; exact fun j hj => fv_I hj
        · rw [yI_put]; exact fv_Is (Or.inl e2)
      · rename_i x a r
        obtain ⟨h1, h2⟩ := bif_t h
        simp only [Bool.and_eq_true, decide_eq_true_eq] at h1
        obtain ⟨h3, h4, h5, h6⟩ := h1
        have e2 := beq_t h4
        rw [e2] at t4
        have e3 : ∀ t, kty ci f = t → narrow t (xq q (.ref x)) = xq q (.ref x) ∧ fits t (xq q (.ref x)) = true := by
          intro t ht
          rw [ht] at t4
          cases t <;> first | exact ⟨rfl, rfl⟩ | cases t4
        refine put a (.ref x) (y.1, (a, f, x) :: y.2.1, y.2.2) r _ rfl h3 (blt_t h5) (beq_t h6) (e3 _ rfl).1 (e3 _ rfl).2 ?_ ?_ ?_ rfl h2
        · rw [yR_put]; exact fun j hj => en_eq rfl rfl (u2_ne hj)
        · rw [yR_put]; exact fun j hj => fv_R hj
        · rw [yR_put]; exact fv_Rs e2
      · cases h
    · cases h
  case aastore =>
    obtain rfl := hlen rfl
    simp only [yo] at h
    split at h
    · rename_i x i9 a r
      obtain ⟨h1, h2⟩ := bif_t h
      simp only [Bool.and_eq_true, decide_eq_true_eq] at h1
      obtain ⟨h3, h4, h5, h6, h7, h8⟩ := h1
      have ha := wdn_at (q := q) (cA := cA) (m := ym y) (blt_t h5)
      rw [en_2 h3] at ha
      have hv := wdn_at (q := q) (cA := cA) (m := ym y) (blt_t h6)
      rw [en_3 h4] at hv
      refine va_astq (D := (dC, dI)) hx hb hK hP hD hS a 5 x 6 ha rfl hv (vw_of (by decide)) (fun hz => hz.elim (fun hz => h7 hz) (fun hz => Nat.not_lt.mpr hz (blt_t h8))) hd (fun H1 locs1 hP1 _ hS1 => ?_)
      have e9 : (wdn q cA y.2.2 (ym y)).set a (q a, .inl (cA 5, 40, .inr (.inr (.inr (.inr (va_up (fun i => ((ym y).2.2 a i).map q) i9.toNatClampNeg (some (q x)))))))) = wdn q cA y.2.2 (ym (y.1, (a, i9.toNatClampNeg, x) :: y.2.1, y.2.2)) := by
        rw [← wdn_set (q := q) (cA := cA) (n := y.2.2) (m := ym y) (m' := ym (y.1, (a, i9.toNatClampNeg, x) :: y.2.1, y.2.2)) (blt_t h5) (by rw [yR_put]; exact fun j hj => en_eq rfl rfl (u2_ne hj)), en_2 h3, yR_put]
        have : (fun i => ((mR (ym y) a i9.toNatClampNeg (some x)).2.2 a i).map q) = va_up (fun i => ((ym y).2.2 a i).map q) i9.toNatClampNeg (some (q x)) := by
          funext i
          unfold va_up mR u2
          by_cases hi : i = i9.toNatClampNeg <;> simp [hi]
        rw [this]
      rw [e9] at hP1
      exact ih _ _ _ _ (y.1, (a, i9.toNatClampNeg, x) :: y.2.1, y.2.2) _ _ _ _ _ h2 hq hl hn9 hP1 hS1
    · cases h
  case new n =>
    obtain rfl := hlen rfl
    simp only [yo] at h
    split at h
    · rename_i ci e1
      obtain ⟨h1, h2⟩ := bif_t h
      simp only [Bool.and_eq_true, decide_eq_true_eq] at h1
      obtain ⟨h3, h4, ⟨hfr, hcm, hcs⟩, h5, h6, h7⟩ := h1
      have hc : ci < 13 := blt_t h4
      have hw := nw_of e1
      rw [show Nat.beq ci 50 = false by
        cases e : Nat.beq ci 50 with
        | false => rfl
        | true => exact absurd (beq_t e) (by omega)] at hw
      obtain ⟨w1, w2⟩ := nwi_of hc
      unfold yfr at hfr
      simp only [Bool.and_eq_true] at hfr
      refine va_new (D := (dC, dI)) hx hb hts (uw_in hc) (kty ci) (fun j hj => (ty_of hc hj).1) hown (hw_of hts hw rfl) (hw_of hts w1 rfl) (hw_of hts w2 rfl) hK hP hD hS hA (vw_of hc) (fs := (List.range (kNf ci)).map (fun f => xq q (fvl (ym y) y.2.2 ci f))) (fun j hj => ?_) (by rw [hR]; exact ble_t h6) (by rw [hR]; exact ble_t h7) hd (fun a H1 hP1 hD1 hS1 => ?_)
      · rw [vpV_map hj]
        exact df_of hc hj (yI_fr hfr.1) rfl (yR_fr hfr.2) q
      have e9 := wdn_app (q := q) (cA := cA) (a := a) (e := .inr (ci, (List.range (kNf ci)).map (fun f => xq q (fvl (ym y) y.2.2 ci f)))) hn9 hcm ((en_q (yA_up hn9) hcm _).trans (en_3 h3))
      have hP2 : va_P (dC, dI) vwCl (wdn (qup q y.2.2 a) cA (y.2.2 + 1) (ym y)) H1 := by rw [← e9]; exact hP1
      have hD2 : va_D (fun a => bs ≤ a) (wdn (qup q y.2.2 a) cA (y.2.2 + 1) (ym y)) := by rw [← e9]; exact hD1
      have hq2 := yG_of hq (yA_up (a := a) hn9) (Nat.le_succ _) hD2
      obtain ⟨c1, c2⟩ := ycs_q (yA_up (q := q) (a := a) hn9) hcs
      have hz := ih (qup q y.2.2 a) (pc + 3) lo (.ref y.2.2 :: st) (y.1, y.2.1, y.2.2 + 1) ls H1 locs (c + 1) (z + kNf ci) h2 hq2 (by rw [c1]; exact hl) (blt_t h5) hP2 hS1
      rw [List.map_cons, c2, show xq (qup q y.2.2 a) (.ref y.2.2) = .ref a from congrArg Value.ref (if_pos rfl)] at hz
      exact hz
    · cases h
  case newarray t =>
    obtain rfl := hlen rfl
    simp only [yo] at h
    split at h
    · rename_i n r
      obtain ⟨h1, h2⟩ := bif_t h
      simp only [Bool.and_eq_true, decide_eq_true_eq] at h1
      obtain ⟨h3, h9, h4, h5, ⟨hfr, hcm, hcs⟩, h6, h7, h8⟩ := h1
      unfold yfr at hfr
      simp only [Bool.and_eq_true] at hfr
      have hi9 : (ym y).1 y.2.2 = fun _ => 0 := yI_fr hfr.1
      have hj9 : (ym y).2.1 y.2.2 = fun _ => 0 := rfl
      cases t <;> try (exact absurd (blt_t h9) (by decide))
      · refine va_newa (D := (dC, dI)) (atype := .boolean) (ty := .boolean) (a0 := (n.toNatClampNeg, .inl (fun _ => 0))) hx hb (hw_of hts ak_bool rfl) rfl hK hP hD hS hA (fun _ => rfl) h4 rfl ?_ (by rw [hR]; exact ble_t h7) (by rw [hR]; exact ble_t h8) hd (fun a c9 H1 hK1 hP1 hD1 hS1 => ?_)
        · have := ble_t h5
          have : componentBytes .boolean ≤ 8 := by decide
          exact Nat.le_trans (Nat.mul_le_mul (ble_t h5) this) (by decide)
        obtain rfl := yK_prim (x := 2) hK hK1 rfl (fun _ h => h)
        have e9 := wdn_app (q := q) (cA := cA) (a := a) (e := .inl (cA 2, n.toNatClampNeg, .inl (fun _ => 0))) hn9 hcm ((en_q (yA_up hn9) hcm _).trans ((en_0 h3).trans (by rw [hi9]; rfl)))
        have hP2 : va_P (dC, dI) vwCl (wdn (qup q y.2.2 a) cA (y.2.2 + 1) (ym y)) H1 := by rw [← e9]; exact hP1
        have hD2 : va_D (fun a => bs ≤ a) (wdn (qup q y.2.2 a) cA (y.2.2 + 1) (ym y)) := by rw [← e9]; exact hD1
        have hq2 := yG_of hq (yA_up (a := a) hn9) (Nat.le_succ _) hD2
        obtain ⟨c1, c2⟩ := ycs_q (yA_up (q := q) (a := a) hn9) hcs
        have hz := ih (qup q y.2.2 a) (pc + 2) lo (.ref y.2.2 :: r) (y.1, y.2.1, y.2.2 + 1) ls H1 locs (c + 1) (z + n.toNatClampNeg) h2 hq2 (by rw [c1]; exact hl) (blt_t h6) hP2 hS1
        rw [List.map_cons, c2, show xq (qup q y.2.2 a) (.ref y.2.2) = .ref a from congrArg Value.ref (if_pos rfl)] at hz
        exact hz
      · refine va_newa (D := (dC, dI)) (atype := .byte) (ty := .byte) (a0 := (n.toNatClampNeg, .inl (fun _ => 0))) hx hb (hw_of hts ak_byte rfl) rfl hK hP hD hS hA (fun _ => rfl) h4 rfl ?_ (by rw [hR]; exact ble_t h7) (by rw [hR]; exact ble_t h8) hd (fun a c9 H1 hK1 hP1 hD1 hS1 => ?_)
        · have := ble_t h5
          have : componentBytes .byte ≤ 8 := by decide
          exact Nat.le_trans (Nat.mul_le_mul (ble_t h5) this) (by decide)
        obtain rfl := yK_prim (x := 1) hK hK1 rfl (fun _ h => h)
        have e9 := wdn_app (q := q) (cA := cA) (a := a) (e := .inl (cA 1, n.toNatClampNeg, .inl (fun _ => 0))) hn9 hcm ((en_q (yA_up hn9) hcm _).trans ((en_0 h3).trans (by rw [hi9]; rfl)))
        have hP2 : va_P (dC, dI) vwCl (wdn (qup q y.2.2 a) cA (y.2.2 + 1) (ym y)) H1 := by rw [← e9]; exact hP1
        have hD2 : va_D (fun a => bs ≤ a) (wdn (qup q y.2.2 a) cA (y.2.2 + 1) (ym y)) := by rw [← e9]; exact hD1
        have hq2 := yG_of hq (yA_up (a := a) hn9) (Nat.le_succ _) hD2
        obtain ⟨c1, c2⟩ := ycs_q (yA_up (q := q) (a := a) hn9) hcs
        have hz := ih (qup q y.2.2 a) (pc + 2) lo (.ref y.2.2 :: r) (y.1, y.2.1, y.2.2 + 1) ls H1 locs (c + 1) (z + n.toNatClampNeg) h2 hq2 (by rw [c1]; exact hl) (blt_t h6) hP2 hS1
        rw [List.map_cons, c2, show xq (qup q y.2.2 a) (.ref y.2.2) = .ref a from congrArg Value.ref (if_pos rfl)] at hz
        exact hz
      · refine va_newa (D := (dC, dI)) (atype := .int) (ty := .int) (a0 := (n.toNatClampNeg, .inl (fun _ => 0))) hx hb (hw_of hts ak_int rfl) rfl hK hP hD hS hA (fun _ => rfl) h4 rfl ?_ (by rw [hR]; exact ble_t h7) (by rw [hR]; exact ble_t h8) hd (fun a c9 H1 hK1 hP1 hD1 hS1 => ?_)
        · have := ble_t h5
          have : componentBytes .int ≤ 8 := by decide
          exact Nat.le_trans (Nat.mul_le_mul (ble_t h5) this) (by decide)
        obtain rfl := yK_prim (x := 0) hK hK1 rfl (fun _ h => h)
        have e9 := wdn_app (q := q) (cA := cA) (a := a) (e := .inl (cA 0, n.toNatClampNeg, .inl (fun _ => 0))) hn9 hcm ((en_q (yA_up hn9) hcm _).trans ((en_0 h3).trans (by rw [hi9]; rfl)))
        have hP2 : va_P (dC, dI) vwCl (wdn (qup q y.2.2 a) cA (y.2.2 + 1) (ym y)) H1 := by rw [← e9]; exact hP1
        have hD2 : va_D (fun a => bs ≤ a) (wdn (qup q y.2.2 a) cA (y.2.2 + 1) (ym y)) := by rw [← e9]; exact hD1
        have hq2 := yG_of hq (yA_up (a := a) hn9) (Nat.le_succ _) hD2
        obtain ⟨c1, c2⟩ := ycs_q (yA_up (q := q) (a := a) hn9) hcs
        have hz := ih (qup q y.2.2 a) (pc + 2) lo (.ref y.2.2 :: r) (y.1, y.2.1, y.2.2 + 1) ls H1 locs (c + 1) (z + n.toNatClampNeg) h2 hq2 (by rw [c1]; exact hl) (blt_t h6) hP2 hS1
        rw [List.map_cons, c2, show xq (qup q y.2.2 a) (.ref y.2.2) = .ref a from congrArg Value.ref (if_pos rfl)] at hz
        exact hz
      · refine va_newa (D := (dC, dI)) (atype := .long) (ty := .long) (a0 := (n.toNatClampNeg, .inr (.inl (fun _ => 0)))) hx hb (hw_of hts ak_long rfl) rfl hK hP hD hS hA (fun _ => rfl) h4 rfl ?_ (by rw [hR]; exact ble_t h7) (by rw [hR]; exact ble_t h8) hd (fun a c9 H1 hK1 hP1 hD1 hS1 => ?_)
        · have := ble_t h5
          have : componentBytes .long ≤ 8 := by decide
          exact Nat.le_trans (Nat.mul_le_mul (ble_t h5) this) (by decide)
        obtain rfl := yK_prim (x := 4) hK hK1 rfl (fun _ h => h)
        have e9 := wdn_app (q := q) (cA := cA) (a := a) (e := .inl (cA 4, n.toNatClampNeg, .inr (.inl (fun _ => 0)))) hn9 hcm ((en_q (yA_up hn9) hcm _).trans ((en_1 h3).trans (by rw [hj9]; rfl)))
        have hP2 : va_P (dC, dI) vwCl (wdn (qup q y.2.2 a) cA (y.2.2 + 1) (ym y)) H1 := by rw [← e9]; exact hP1
        have hD2 : va_D (fun a => bs ≤ a) (wdn (qup q y.2.2 a) cA (y.2.2 + 1) (ym y)) := by rw [← e9]; exact hD1
        have hq2 := yG_of hq (yA_up (a := a) hn9) (Nat.le_succ _) hD2
        obtain ⟨c1, c2⟩ := ycs_q (yA_up (q := q) (a := a) hn9) hcs
        have hz := ih (qup q y.2.2 a) (pc + 2) lo (.ref y.2.2 :: r) (y.1, y.2.1, y.2.2 + 1) ls H1 locs (c + 1) (z + n.toNatClampNeg) h2 hq2 (by rw [c1]; exact hl) (blt_t h6) hP2 hS1
        rw [List.map_cons, c2, show xq (qup q y.2.2 a) (.ref y.2.2) = .ref a from congrArg Value.ref (if_pos rfl)] at hz
        exact hz
    · cases h
  case anewarray n9 =>
    obtain rfl := hlen rfl
    simp only [yo] at h
    split at h
    · rename_i n r
      obtain ⟨h1, h2⟩ := bif_t h
      simp only [Bool.and_eq_true, decide_eq_true_eq] at h1
      obtain ⟨g1, g2, h3, h4, h5, ⟨hfr, hcm, hcs⟩, h6, h7, h8⟩ := h1
      unfold yfr at hfr
      simp only [Bool.and_eq_true] at hfr
      have hw := nw_of (c := 0) (i := 9) (ci := 6) rfl
      have k0 := beq_t g1
      obtain rfl := beq_t g2
      refine va_newq (D := (dC, dI)) (C := "WallChapels$Scene") hx hb hown (hw_of hts (by rw [k0]; exact hw) rfl) hG.2.2 hK hP hD hS hA h4 rfl ?_ (by rw [hR]; exact ble_t h7) (by rw [hR]; exact ble_t h8) hd (fun a c9 H1 hK1 hP1 hD1 hS1 => ?_)
      · exact Nat.le_trans (Nat.mul_le_mul_right 4 (ble_t h5)) (by decide)
      obtain rfl := yK_prim (x := 5) hK hK1 rfl (fun _ h => by obtain ⟨_, _, _, _, _, h5⟩ := h; exact h5)
      have e9 := wdn_app (q := q) (cA := cA) (a := a) (e := .inl (cA 5, n.toNatClampNeg, .inr (.inr (.inr (.inr (fun _ => none)))))) hn9 hcm ((en_q (yA_up hn9) hcm _).trans ((en_2 h3).trans (by rw [show (ym y).2.2 y.2.2 = fun _ => none from yR_fr hfr.2]; rfl)))
      have hP2 : va_P (dC, dI) vwCl (wdn (qup q y.2.2 a) cA (y.2.2 + 1) (ym y)) H1 := by rw [← e9]; exact hP1
      have hD2 : va_D (fun a => bs ≤ a) (wdn (qup q y.2.2 a) cA (y.2.2 + 1) (ym y)) := by rw [← e9]; exact hD1
      have hq2 := yG_of hq (yA_up (a := a) hn9) (Nat.le_succ _) hD2
      obtain ⟨c1, c2⟩ := ycs_q (yA_up (q := q) (a := a) hn9) hcs
      have hz := ih (qup q y.2.2 a) (pc + 3) lo (.ref y.2.2 :: r) (y.1, y.2.1, y.2.2 + 1) ls H1 locs (c + 1) (z + n.toNatClampNeg) h2 hq2 (by rw [c1]; exact hl) (blt_t h6) hP2 hS1
      rw [List.map_cons, c2, show xq (qup q y.2.2 a) (.ref y.2.2) = .ref a from congrArg Value.ref (if_pos rfl)] at hz
      exact hz
    · cases h
  case multianewarray n9 dm =>
    obtain rfl := hlen rfl
    simp only [yo] at h
    split at h
    · rename_i w n r
      split at h
      · rename_i ci e1
        obtain ⟨h1, h2⟩ := bif_t h
        simp only [Bool.and_eq_true, decide_eq_true_eq] at h1
        obtain ⟨⟨g0, g1⟩, h3, g2, h4, g4, h5, g5, ⟨hfr, hcm, hcs⟩, h6, h7, h8⟩ := h1
        obtain rfl := beq_t g0
        have g6 : ∀ j, j < n.toNatClampNeg → lay (y.2.2 + 1 + j) = (0, 0, w.toNatClampNeg) := fun j hj => of_decide_eq_true (List.all_eq_true.mp g2 j (List.mem_range.mpr hj))
        have hw := nw_of e1
        rw [g1] at hw
        obtain ⟨cy, kA, comp, k1, k2, k3⟩ := Cond.arrayClass_spec (hw_of hts ak_int rfl)
        have hcy : cy = cA 0 := Option.some.inj (k1.symm.trans (hK.2 0 (cA 0, .int) rfl).2)
        have hnil : ∀ f : Nat → va_E, wdn q cA y.2.2 (ym y) ++ va_pl [] f = wdn q cA y.2.2 (ym y) := fun f => List.append_nil _
        have e2 : ("[" ++ (FieldType.array .int).toString) = "[[I" := by decide +kernel
        refine va_mna (D := (dC, dI)) (X := wdn q cA y.2.2 (ym y)) (L := []) (f := fun _ => .inl (0, 0, .inl (fun _ => 0))) (ty := .int) (cy := cy) (z := (w.toNatClampNeg, .inl (fun _ => 0))) hx hb hown (by rw [e2]; exact hw_of hts hw rfl) hG.2.1 (hw_of hts ak_int rfl) k1 hK (by rw [hnil]; exact hP) (by rw [hnil]; exact hD) hS hA h4 g4 rfl rfl ?_ ?_ ?_ rfl rfl (by rw [hR]; exact ble_t h7) (by rw [hR]; exact ble_t h8) (fun c9 => ?_) hd (fun a r9 c9 H1 _ _ hK1 hP1 hD1 hS1 => ?_)
        · exact Nat.le_trans (Nat.mul_le_mul_right 4 (ble_t h5)) (by decide)
        · exact Nat.le_trans (Nat.mul_le_mul_right 4 (ble_t g5)) (by decide)
        · exact Nat.le_trans (ble_t g5) (by decide)
        · show Jvm.Free.Multi.innerC c9 w.toNatClampNeg (.int 0) = arrV c9 w.toNatClampNeg (fun _ => .int 0)
          rw [← arrV_new]
          rfl
        have hc6 : c9 = cA 6 := yK_prim (x := 6) hK hK1 rfl (fun _ h => h)
        rw [hcy] at hP1 hD1
        rw [hc6] at hP1 hD1
        have e3 : va_pl ([] ++ (List.range n.toNatClampNeg).map r9) (vr_up (fun _ => .inl (0, 0, .inl (fun _ => 0))) ((List.range n.toNatClampNeg).map r9) (.inl (cA 0, w.toNatClampNeg, .inl (fun _ => 0)))) = (List.range n.toNatClampNeg).map (fun i => (r9 i, .inl (cA 0, w.toNatClampNeg, .inl (fun _ => 0)))) := by
          rw [List.nil_append]
          unfold va_pl
          rw [List.map_map]
          refine List.map_congr_left fun j hj => ?_
          show (r9 j, vr_up _ _ _ (r9 j)) = _
          rw [vr_up_in (List.mem_map.mpr ⟨j, hj, rfl⟩)]
        rw [e3, wdn_rows (blt_t h6) hcm hfr h3 g6] at hP1 hD1
        have hN := blt_t h6
        have hq2 := yG_of hq (yA_N (a := a) (r := r9) (N := n.toNatClampNeg) (by omega)) (by omega) hD1
        obtain ⟨c1, c2⟩ := ycs_q (yA_N (q := q) (n := y.2.2) (a := a) (r := r9) (N := n.toNatClampNeg) (by omega)) hcs
        have hz := ih (quN q y.2.2 a n.toNatClampNeg r9) (pc + 4) lo (.ref y.2.2 :: r) (y.1, yrows y.2.2 n.toNatClampNeg y.2.1, y.2.2 + 1 + n.toNatClampNeg) ls H1 locs (c + 1 + n.toNatClampNeg) (z + n.toNatClampNeg + n.toNatClampNeg * w.toNatClampNeg) h2 hq2 (by rw [c1]; exact hl) (by show y.2.2 + 1 + n.toNatClampNeg ≤ 999; omega) hP1 hS1
        rw [List.map_cons, c2, show xq (quN q y.2.2 a n.toNatClampNeg r9) (.ref y.2.2) = .ref a from congrArg Value.ref (if_pos rfl)] at hz
        exact hz
      · cases h
    · cases h
  case invokespecial n =>
    obtain rfl := hlen rfl
    simp only [yo] at h
    split at h
    · rename_i z9 e1
      split at h
      · rename_i a r
        obtain ⟨h1, h2⟩ := bif_t h
        have hw := cl4_of e1
        refine W.objInit hx hb hown (hw_of hts hw rfl) (hw_of hts oj_ini rfl) (hw_of hts oj_cod rfl) rfl (by rw [hml]; exact hl.1) rfl hd (by rw [hR]; show 1 ≤ d + 1 + 1; omega) ?_ ?_
        · have h3 := ble_t h1
          show 2 * 0 + ((r.map (xq q)).map fun v => v.category).sum + 12 ≤ R.locals
          rw [cat_q, hR]
          show _ ≤ 64 * (d + 1 + 1)
          omega
        · exact ih _ _ _ _ _ _ _ _ _ _ h2 hq hl hn9 hP hS
      · cases h
    · rename_i j e1
      split at h
      · rename_i as b r e2
        obtain ⟨h1, h2⟩ := bif_t h
        simp only [Bool.and_eq_true] at h1
        obtain ⟨h3, ⟨hcs, h4⟩, h5⟩ := h1
        split at h2
        · rename_i y2 e3
          obtain ⟨h6, h7⟩ := bif_t h2
          simp only [Bool.and_eq_true] at h6
          obtain ⟨e4, e5⟩ := pops_of e2
          subst e4
          obtain ⟨c1, c3, c5, c6, c7⟩ := cl6_of e1
          obtain ⟨-, w2, w3⟩ := mw_of (show j < 273 by omega)
          obtain ⟨w4, -⟩ := w2 c5
          have hM := hca j c1 _ _ _ q e3 hn9
          have hrm : (rmy d j).frames + 1 ≤ R.frames ∧ 8 + (knl j + 11) + (rmy d j).locals ≤ R.locals := by
            have := nl_of (show j < 273 by omega)
            rw [hR]
            show d + 1 + 1 ≤ d + 1 + 1 ∧ 8 + (knl j + 11) + 64 * (d + 1) ≤ 64 * (d + 1 + 1)
            omega
          have hpre : PreS s H (va_Pc ((Value.ref b :: as).map (xq q)) (yP dC dI cA q sv bs y)) (.ref (q b) :: as.map (xq q)) := ⟨yP_blind, fun U hU hW => ⟨rfl, by rw [hU]; exact Nat.le_trans hbs hS.1, by rw [hU]; exact hP, va_K.moved hW.alike hK, ⟨Nat.le_refl _, fun _ _ => rfl, hq.2.2.1, hq.2.2.2⟩, gx_warm hW hG, xE_use hE hS (fun _ h => h) hU hW⟩⟩
          have hrest : 2 * (F0 mid pc ls ((as.reverse ++ Value.ref b :: r).map (xq q))).monitorRoom + ((r.map (xq q)).map fun v => v.category).sum ≤ 8 := lv_room (by rw [cat_q]; exact ble_t h3)
          have hst : (F0 mid pc ls ((as.reverse ++ Value.ref b :: r).map (xq q))).stack = (as.map (xq q)).reverse ++ .ref (q b) :: r.map (xq q) := by
            show (as.reverse ++ Value.ref b :: r).map (xq q) = _
            rw [List.map_append, List.map_reverse]
            rfl
          have hroom : c + kmc j ≤ R.cells ∧ z + kms j ≤ R.slots := by
            rw [hR]
            exact ⟨ble_t h4, ble_t h5⟩
          have go : ∀ (q2 : Nat → Nat) (t : State) (H1 : Heap) (locs1 : List Loc), t.heap = H1 → s.vm.Alike t.vm → yG q y.2.2 bs y2.2.2 q2 → va_P (dC, dI) vwCl (wdn q2 cA y2.2.2 (ym y2)) t.heap → H.size ≤ H1.size → (∀ x : Nat, x < H.size → ¬ bs ≤ x → H1[x]? = H[x]?) → va_S (fun a => bs ≤ a) s.heap H1 locs1 → W p l e R s mid args below meth c0 H1 locs1 (c + kmc j) (z + kms j) (MQ below (yQ dC dI cA q1 n1 bs yF) args s (kmc k) (kms k) (fun a => bs ≤ a)) (F0 mid (pc + 3) ls (r.map (xq q))) := by
            intro q2 t H1 locs1 ht _ hpost hB _ _ hS1
            obtain ⟨c8, c9⟩ := ycs_q (q := q) (q2 := q2) hpost.2.1 hcs
            have hq2 : yG q1 n1 bs y2.2.2 q2 := ⟨Nat.le_trans hq.1 hpost.1, fun k hk => by
              have := hq.1
              rw [hpost.2.1 k (by omega)]
              exact hq.2.1 k hk, hpost.2.2.1, hpost.2.2.2⟩
            have hz := ih q2 (pc + 3) lo r y2 ls H1 locs1 (c + kmc j) (z + kms j) h7 hq2 (by rw [c8]; exact hl) (ble_t h6.1) (by rw [← ht]; exact hB) hS1
            rw [c9] at hz
            exact hz
          have hwj : kW j = Cond.code (kY j) (kB j) (knl j) none :: alW := by unfold kW; rw [c7]
          rcases c3 with hw | hw
          · exact va_callv (va_runIN (As := as.map (xq q)) (rest := r.map (xq q)) ⟨hx, hb, hml, hown, hts⟩ hM ⟨va_cnB (knp j) hts (kW_good (cd_in (by omega))) hwj rfl rfl (hG.1 _ hw rfl) (hw_of hts w3 rfl) (md_of (by omega)) hrm, c6, hw_of hts w4 rfl⟩ hpre rfl (by rw [List.length_map]; exact e5) hl.1 hst hrest hd hroom) hS (fun a _ h9 => h9) (fun a h9 => h9) go
          · exact va_callv (va_runI (As := as.map (xq q)) (rest := r.map (xq q)) ⟨hx, hb, hml, hown, hts⟩ hM ⟨callB_of (knp j) hts (kW_good (cd_in (by omega))) hwj rfl rfl (hw_of hts w3 rfl) (hw_of hts hw rfl) (md_of (by omega)) hrm, c6, hw_of hts w4 rfl⟩ hpre rfl (by rw [List.length_map]; exact e5) hl.1 hst hrest hd hroom) hS (fun a _ h9 => h9) (fun a h9 => h9) go
        · cases h2
      · cases h
    · cases h
  case return_ =>
    obtain rfl := hlen rfl
    simp only [yo] at h
    split at h
    · obtain ⟨h1, h2⟩ := bif_t h
      simp only [Bool.and_eq_true] at h1
      obtain rfl := beq_t h1.1
      obtain rfl := beq_t h1.2
      cases h2
      exact W.vret hx hb hrt (fun t ht _ => ⟨⟨q, rfl, hq, by show va_P _ _ _ _; rw [ht]; exact hP⟩, hS.F ht⟩) hS.2.2 hd
    · cases h
  all_goals (cases h; done)
theorem y_walk (C : yCtx p l R s mid args meth c0 dC dI cA q1 sv k d bs ca) : ∀ n, yIH p l e R s mid args below meth c0 dC dI cA q1 n1 k bs yF (ye k ca n) := by
  intro n
  induction n with
  | zero => exact fun q pc lo st y ls H locs c z h => by cases h
  | succ n ih =>
    intro q pc lo st y ls H locs c z h hq hl hn9 hP hS
    unfold ye at h
    split at h
    · rename_i i e1
      obtain ⟨len, hd, hlen, htg⟩ := cz_of e1
      exact y_one C ih i hd hlen htg h hq hl hn9 hP hS
    · cases h
end YONE
section YMET
variable {l : Launch} {dC : Nat → ClassId} {dI : Nat → Nat → Nat} {cA : Nat → ClassId} {sv : Nat → Nat} {bs : Nat}
theorem krt_0 {j : Nat} (h : j < 265) (h0 : kr j = 0) : krt j = none := by
  have h1 := List.all_eq_true.mp rt_all j (List.mem_range.mpr (by omega))
  unfold rtB at h1
  rw [h0] at h1
  exact of_decide_eq_true h1
theorem kin_n {j : Nat} (h : j < 265) (h0 : kin j = true) : (kY j).name = "<init>" := by
  have h1 := mo3_all (show j < 273 by omega)
  unfold mo3 at h1
  rw [h0] at h1
  simp only [Bool.and_eq_true, beq_iff_eq] at h1
  have h2 := h1.2
  simpa using h2.symm
theorem y_met : ∀ d j, j < 265 → ∀ as y y' q, yw d j as y = some y' → y.2.2 ≤ 999 → Met l (kY j) (kW j) (rmy d j) (va_Pc (as.map (xq q)) (yP dC dI cA q sv bs y)) (yQ dC dI cA q y.2.2 bs y') (kmc j) (kms j) (fun a => bs ≤ a) := by
  intro d
  induction d with
  | zero => intro j hj as y y' q h; cases h
  | succ d ih =>
    intro j hj as y y' q h hn9
    unfold yw at h
    obtain ⟨h1, h2⟩ := bif_t h
    simp only [Bool.and_eq_true] at h1
    obtain ⟨-, h3, h4, h5⟩ := h1
    refine Met.ofW (cc := kB j) (maxL := knl j) (ret := krt j) (List.all_eq_true.mp pn_all j (List.mem_range.mpr hj)) rfl ?_
    intro p e s mid args below meth c s₁ B hml hv
    obtain ⟨rfl, hbs, hP, hK, hq, hG, hE⟩ := hv
    have hts := atoms_spec (ws := kW j) B.pre
    have hown : s.vm.findClass (cln (kcl j)) = some mid.cls := by rw [← ow_of (show j < 271 by omega)]; exact findClass_of_methodNamed B.named
    have hl := lv_entry (as.map (xq q)) (n := knl j) (by rw [lgs_q]; exact ble_t h5)
    rw [lg_entry_eq]
    generalize (lg_sl (as.map (xq q)) ++ List.replicate (knl j - (lg_sl (as.map (xq q))).length) Slot.unset).toArray = ls at hl ⊢
    rw [lga_q] at hl
    have hnm : meth.name = "<init>" := by rw [(name_of_methodNamed B.named B.method).1]; exact kin_n hj h3
    exact y_walk (ca := yw d) ⟨⟨B.exec, B.bytes, hml, hown, hts⟩, hK, hG, hE, hbs, hnm, B.returns.trans (krt_0 hj (beq_t h4)), B.notSynchronized, rfl, fun j hj as y y' q h hn => ih j hj as y y' q h hn⟩ 1000 q 0 (lv_args 0 as) [] y ls s.heap [] 0 0 h2 hq hl hn9 hP va_S.rf
end YMET

