/-! the evaluator's run is the machine's -/
def insL : List (Nat × Nat) := [(465, 158), (363, 155), (252, 151), (270, 152), (485, 159), (207, 150), (423, 157), (395, 156), (181, 149), (317, 153), (343, 154), (173, 148), (1281, 160)]
set_option maxRecDepth 100000 in
theorem nwi_all : (List.range 13).all (fun c => decide (lw_tbl[(insL.getD c (0, 0)).1]? = some (.instantiable (cln c) (kNf c))) && decide (lw_tbl[(insL.getD c (0, 0)).2]? = some (.initialized (cln c)))) = true := by decide +kernel
set_option maxRecDepth 100000 in
theorem nw_all : (List.range 16).all (fun c => (NWL.getD c []).all (fun e => decide (lw_tbl[e.2.2]? = some (.classLink (cln c) e.1 (match Nat.beq e.2.1 50 with | true => "[[I" | false => cln e.2.1))))) = true := by decide +kernel
theorem nw_of {c i ci : Nat} (h : kNw c i = some ci) : Cond.classLink (cln c) i (match Nat.beq ci 50 with | true => "[[I" | false => cln ci) ∈ lw_tbl := by
  unfold kNw at h
  by_cases hc : c < 16
  · obtain ⟨e, he, hce⟩ := Option.map_eq_some_iff.mp h
    obtain ⟨v', ps⟩ := e
    have hce : v' = ci := hce
    subst hce
    have h1 := List.all_eq_true.mp (List.all_eq_true.mp nw_all c (List.mem_range.mpr hc)) _ (lku_in he)
    exact List.mem_of_getElem? (of_decide_eq_true h1)
  · rw [getD_out (show NWL.length ≤ c from Nat.not_lt.mp hc)] at h
    cases h
theorem nwi_of {c : Nat} (h : c < 13) : Cond.instantiable (cln c) (kNf c) ∈ lw_tbl ∧ Cond.initialized (cln c) ∈ lw_tbl := by
  have h1 := List.all_eq_true.mp nwi_all c (List.mem_range.mpr h)
  simp only [Bool.and_eq_true, decide_eq_true_eq] at h1
  exact ⟨List.mem_of_getElem? h1.1, List.mem_of_getElem? h1.2⟩
set_option maxRecDepth 100000 in
theorem ak_int : Cond.arrayClass .int ∈ lw_tbl := List.mem_of_getElem? (i := 205) (by decide +kernel)
set_option maxRecDepth 100000 in
theorem ak_byte : Cond.arrayClass .byte ∈ lw_tbl := List.mem_of_getElem? (i := 1279) (by decide +kernel)
set_option maxRecDepth 100000 in
theorem ak_bool : Cond.arrayClass .boolean ∈ lw_tbl := List.mem_of_getElem? (i := 421) (by decide +kernel)
set_option maxRecDepth 100000 in
theorem ak_long : Cond.arrayClass .long ∈ lw_tbl := List.mem_of_getElem? (i := 1451) (by decide +kernel)
set_option maxRecDepth 100000 in
theorem oj_ini : Cond.instanceMethod objectInit ∈ lw_tbl := List.mem_of_getElem? (i := 178) (by decide +kernel)
set_option maxRecDepth 100000 in
theorem oj_cod : Cond.code objectInit ⟨#[0xb1]⟩ 1 none ∈ lw_tbl := List.mem_of_getElem? (i := 179) rfl
def rmy (d j : Nat) : Room := { frames := d + 1, cells := kmc j, slots := kms j, locals := 64 * (d + 1) }
def wdn (q : Nat → Nat) (cA : Nat → ClassId) (n : Nat) (m : xM) : va_W := (List.range n).map (fun k => (q k, en q cA m k))
theorem wdn_at {q : Nat → Nat} {cA : Nat → ClassId} {n : Nat} {m : xM} {k : Nat} (h : k < n) : (wdn q cA n m)[k]? = some (q k, en q cA m k) := by
  unfold wdn
  rw [List.getElem?_map, List.getElem?_range h]
  rfl
theorem wdn_out {q : Nat → Nat} {cA : Nat → ClassId} {n : Nat} {m : xM} {k : Nat} {x : Nat × va_E} (h : (wdn q cA n m)[k]? = some x) : k < n ∧ x = (q k, en q cA m k) := by
  by_cases hk : k < n
  · rw [wdn_at hk] at h
    exact ⟨hk, (Option.some.inj h).symm⟩
  · unfold wdn at h
    rw [List.getElem?_eq_none (by simpa using hk)] at h
    cases h
theorem wdn_set {q : Nat → Nat} {cA : Nat → ClassId} {n : Nat} {m m' : xM} {k : Nat} (h : k < n) (ho : ∀ j, j ≠ k → en q cA m' j = en q cA m j) : (wdn q cA n m).set k (q k, en q cA m' k) = wdn q cA n m' := by
  apply List.ext_getElem?
  intro j
  unfold wdn
  by_cases hj : j = k
  · subst hj
    rw [List.getElem?_set_self (by simpa using h), List.getElem?_map, List.getElem?_range h]
    rfl
  · rw [List.getElem?_set_ne (Ne.symm hj), List.getElem?_map, List.getElem?_map]
    by_cases hl : j < n
    · rw [List.getElem?_range hl]
      simp [ho j hj]
    · rw [List.getElem?_eq_none (by simpa using hl)]
      rfl
theorem wdn_D {q : Nat → Nat} {cA : Nat → ClassId} {n bs : Nat} {m : xM} (hq : ∀ a, a < 1000 → q a = bs + a) (hn : n ≤ 999) : va_D (fun a => bs ≤ a) (wdn q cA n m) := by
  refine ⟨fun i j x y hx hy hxy => ?_, fun k x hx => ?_⟩
  · obtain ⟨h1, h2⟩ := wdn_out hx
    obtain ⟨h3, h4⟩ := wdn_out hy
    have h5 : q i = q j := by rw [h2, h4] at hxy; exact hxy
    rw [hq i (by omega), hq j (by omega)] at h5
    omega
  · obtain ⟨h1, h2⟩ := wdn_out hx
    have h5 : x.1 = q k := by rw [h2]
    show bs ≤ x.1
    rw [h5, hq k (by omega)]
    omega
theorem wdn_grow {D : va_G} {cl : List vw_C} {q : Nat → Nat} {cA : Nat → ClassId} {n : Nat} {m : xM} {H H1 : Heap} (hP : va_P D cl (wdn q cA n m) H) (hk : ∀ x : Nat, x < H.size → H1[x]? = H[x]?) (h : va_at D cl (q n, en q cA m n) H1) : va_P D cl (wdn q cA (n + 1) m) H1 := by
  intro k x hx
  obtain ⟨h1, h2⟩ := wdn_out hx
  rw [h2]
  by_cases e : k = n
  · rw [e]; exact h
  · have h3 := hP k _ (wdn_at (show k < n by omega))
    exact h3.kept (hk _ h3.lt)
theorem va_S.grow {A : Nat → Prop} {H0 H H1 : Heap} {locs : List Loc} (h : va_S A H0 H locs) (hs : H.size ≤ H1.size) (hk : ∀ x : Nat, x < H.size → H1[x]? = H[x]?) : va_S A H0 H1 locs := ⟨Nat.le_trans h.1 hs, fun x h1 h2 => (hk x (Nat.lt_of_lt_of_le h1 h.1)).trans (h.2.1 x h1 h2), h.2.2⟩
theorem va_at.lt' {D : va_G} {cl : List vw_C} {ws : va_W} {H : Heap} (h : va_P D cl ws H) {k : Nat} {x : Nat × va_E} (hx : ws[k]? = some x) : x.1 < H.size := (h k x hx).lt
theorem fl_putn {q : Nat → Nat} {cA : Nat → ClassId} {n : Nat} {m m' : xM} {a ci f : Nat} {v : Value} (h : lay a = (3, ci, kNf ci)) (ha : a < n) (hf : f < kNf ci) (ho : ∀ j, j ≠ a → en q cA m' j = en q cA m j) (hg : ∀ j, j ≠ f → fvl m' a ci j = fvl m a ci j) (hv : fvl m' a ci f = v) : (wdn q cA n m).set a (q a, .inr (ci, ((List.range (kNf ci)).map (fun f => xq q (fvl m a ci f))).set f (xq q v))) = wdn q cA n m' := by
  rw [← wdn_set (m' := m') ha ho, en_3 h, ← hv, fl_set (g' := fun f => xq q (fvl m' a ci f)) hf (fun j hj => by rw [hg j hj])]
theorem va_P.grow {D : va_G} {cl : List vw_C} {ws : va_W} {H H1 : Heap} (h : va_P D cl ws H) (hk : ∀ x : Nat, x < H.size → H1[x]? = H[x]?) : va_P D cl ws H1 := h.kept (fun k x hx => hk x.1 ((h k x hx).lt))
def yP (dC : Nat → ClassId) (dI : Nat → Nat → Nat) (cA : Nat → ClassId) (q sv : Nat → Nat) (bs : Nat) (y : yS) (U : State) : Prop :=
  U.heap.size = bs + y.2.2 ∧ va_P (dC, dI) vwCl (wdn q cA y.2.2 (ym y)) U.heap ∧ va_K (dC, dI) vwCl (xty cA) U ∧ gxP U ∧ xE q sv (fun a => bs ≤ a) U U.heap
theorem yP_blind {dC : Nat → ClassId} {dI : Nat → Nat → Nat} {cA : Nat → ClassId} {q sv : Nat → Nat} {bs : Nat} {y : yS} {av : List Value} : FrameBlind (va_Pc av (yP dC dI cA q sv bs y)) := fun a U g mk z => by
  obtain ⟨q0, q1, qP, qK, qG, qE⟩ := z
  exact ⟨q0, q1, qP, va_K.moved (u := U) (U := U.calling g mk a) (Vm.Alike.refl U.vm) qK, gx_same (u := U) (U := U.calling g mk a) rfl qG, xE_same (u := U) (U := U.calling g mk a) rfl rfl qE⟩
def yB (dC : Nat → ClassId) (dI : Nat → Nat → Nat) (cA : Nat → ClassId) (q : Nat → Nat) (bs : Nat) (y : yS) (t : State) : Prop := t.heap.size = bs + y.2.2 ∧ va_P (dC, dI) vwCl (wdn q cA y.2.2 (ym y)) t.heap
abbrev yQ (dC : Nat → ClassId) (dI : Nat → Nat → Nat) (cA : Nat → ClassId) (q : Nat → Nat) (bs : Nat) (y : yS) : Array Value → State → Outcome → State → Prop := va_Qv (S := Unit) (fun _ => True) (fun _ t => yB dC dI cA q bs y t) (fun a => bs ≤ a)
section YONE
variable {p : Program} {l : Launch} {e : Env} {R : Room} {s : State} {mid : MethodId} {args : Array Value} {below : List Frame} {meth : Method} {c0 : Code}
variable {dC : Nat → ClassId} {dI : Nat → Nat → Nat} {cA : Nat → ClassId} {q sv : Nat → Nat} {k d bs : Nat} {ca : Nat → List Value → yS → Option yS} {kk : Nat → List (Nat × Value) → List Value → yS → Nat → Nat → Option yS} {yF : yS}
def yCtx (p : Program) (l : Launch) (R : Room) (s : State) (mid : MethodId) (args : Array Value) (meth : Method) (c0 : Code) (dC : Nat → ClassId) (dI : Nat → Nat → Nat) (cA : Nat → ClassId) (q sv : Nat → Nat) (k d bs : Nat) (ca : Nat → List Value → yS → Option yS) : Prop :=
  (p.tables.exec = Jvm.exec ∧ c0.code = kB k ∧ c0.maxLocals = knl k ∧ s.vm.findClass (cln (kcl k)) = some mid.cls ∧ ∀ w ∈ kW k, w.before args s = true) ∧ va_K (dC, dI) vwCl (xty cA) s ∧ gxP s ∧ xE q sv (fun a => bs ≤ a) s s.heap ∧ (∀ a, a < 1000 → q a = bs + a) ∧ meth.name = "<init>" ∧ meth.sig.returnType = none ∧ meth.locks = false ∧ R = rmy (d + 1) k ∧
  ∀ j, j < 265 → ∀ as y y', ca j as y = some y' → y.2.2 ≤ 999 → Met l (kY j) (kW j) (rmy d j) (va_Pc (as.map (xq q)) (yP dC dI cA q sv bs y)) (yQ dC dI cA q bs y') (kmc j) (kms j) (fun a => bs ≤ a)
def yIH (p : Program) (l : Launch) (e : Env) (R : Room) (s : State) (mid : MethodId) (args : Array Value) (below : List Frame) (meth : Method) (c0 : Code) (dC : Nat → ClassId) (dI : Nat → Nat → Nat) (cA : Nat → ClassId) (q : Nat → Nat) (k bs : Nat) (yF : yS) (kk : Nat → List (Nat × Value) → List Value → yS → Nat → Nat → Option yS) : Prop :=
  ∀ pc lo st y ls H locs c z, kk pc lo st y c z = some yF → lv_has ls (knl k) (lo.map (xql q)) → H.size = bs + y.2.2 → y.2.2 ≤ 999 → va_P (dC, dI) vwCl (wdn q cA y.2.2 (ym y)) H → va_S (fun a => bs ≤ a) s.heap H locs → W p l e R s mid args below meth c0 H locs c z (MQ below (yQ dC dI cA q bs yF) args s (kmc k) (kms k) (fun a => bs ≤ a)) (F0 mid pc ls (st.map (xq q)))
theorem bif_t {α : Type} {b : Bool} {x : Option α} {v : α} (h : (bif b then x else none) = some v) : b = true ∧ x = some v := by
  cases b
  · cases h
  · exact ⟨rfl, h⟩
end YONE

