/-! L1's world: the layout's cells in the heap, and all that a call carries -/
def xq (q : Nat → Nat) (v : Value) : Value := match v with
  | .ref a => .ref (q a)
  | v => v
theorem xq_cat (q : Nat → Nat) (v : Value) : (xq q v).category = v.category := by cases v <;> rfl
def xql (q : Nat → Nat) (p : Nat × Value) : Nat × Value := (p.1, xq q p.2)
theorem xq_rvl (q : Nat → Nat) (o : Option Nat) : xq q (rvl o) = va_rf (o.map q) := by cases o <;> rfl
theorem u2_ne {α : Type} {f : Nat → Nat → α} {k i a : Nat} {v : α} (h : a ≠ k) : u2 f k i v a = f a := by funext b; simp [u2, h]
theorem u2_eq {f : Nat → Nat → Int32} {k i : Nat} {v : Int32} : u2 f k i v k = upd (f k) i v := by funext b; simp [u2, upd]
theorem u2_eqL {f : Nat → Nat → Int64} {k i : Nat} {v : Int64} : u2 f k i v k = vp_updL (f k) i v := by funext b; simp [u2, vp_updL]
def en (q : Nat → Nat) (cA : Nat → ClassId) (m : xM) (k : Nat) : va_E := match lay k with
  | (0, x, n) => .inl (cA x, n, .inl (m.1 k))
  | (1, x, n) => .inl (cA x, n, .inr (.inl (m.2.1 k)))
  | (2, x, n) => .inl (cA x, n, .inr (.inr (.inr (.inr (fun i => (m.2.2 k i).map q)))))
  | (_, x, n) => .inr (x, (List.range n).map (fun f => xq q (fvl m k x f)))
theorem en_eq {q : Nat → Nat} {cA : Nat → ClassId} {m m' : xM} {k : Nat} (h1 : m'.1 k = m.1 k) (h2 : m'.2.1 k = m.2.1 k) (h3 : m'.2.2 k = m.2.2 k) : en q cA m' k = en q cA m k := by
  simp only [en, fvl, h1, h2, h3]
theorem en_0 {q : Nat → Nat} {cA : Nat → ClassId} {m : xM} {k x n : Nat} (h : lay k = (0, x, n)) : en q cA m k = .inl (cA x, n, .inl (m.1 k)) := by simp only [en, h]
theorem en_1 {q : Nat → Nat} {cA : Nat → ClassId} {m : xM} {k x n : Nat} (h : lay k = (1, x, n)) : en q cA m k = .inl (cA x, n, .inr (.inl (m.2.1 k))) := by simp only [en, h]
theorem en_2 {q : Nat → Nat} {cA : Nat → ClassId} {m : xM} {k x n : Nat} (h : lay k = (2, x, n)) : en q cA m k = .inl (cA x, n, .inr (.inr (.inr (.inr (fun i => (m.2.2 k i).map q))))) := by simp only [en, h]
theorem en_3 {q : Nat → Nat} {cA : Nat → ClassId} {m : xM} {k x n : Nat} (h : lay k = (3, x, n)) : en q cA m k = .inr (x, (List.range n).map (fun f => xq q (fvl m k x f))) := by simp only [en, h]
def wd (q : Nat → Nat) (cA : Nat → ClassId) (m : xM) : va_W := (List.range 335).map (fun k => (q k, en q cA m k))
theorem wd_at {q : Nat → Nat} {cA : Nat → ClassId} {m : xM} {k : Nat} (h : k < 335) : (wd q cA m)[k]? = some (q k, en q cA m k) := by
  unfold wd
  rw [List.getElem?_map, List.getElem?_range h]
  rfl
theorem wd_out {q : Nat → Nat} {cA : Nat → ClassId} {m : xM} {k : Nat} {x : Nat × va_E} (h : (wd q cA m)[k]? = some x) : k < 335 ∧ x = (q k, en q cA m k) := by
  by_cases hk : k < 335
  · rw [wd_at hk] at h
    exact ⟨hk, (Option.some.inj h).symm⟩
  · unfold wd at h
    rw [List.getElem?_eq_none (by simpa using hk)] at h
    cases h
theorem wd_set {q : Nat → Nat} {cA : Nat → ClassId} {m m' : xM} {k : Nat} (h : k < 335) (ho : ∀ j, j ≠ k → en q cA m' j = en q cA m j) : (wd q cA m).set k (q k, en q cA m' k) = wd q cA m' := by
  apply List.ext_getElem?
  intro j
  unfold wd
  by_cases hj : j = k
  · subst hj
    rw [List.getElem?_set_self (by simpa using h), List.getElem?_map, List.getElem?_range h]
    rfl
  · rw [List.getElem?_set_ne (Ne.symm hj), List.getElem?_map, List.getElem?_map]
    by_cases hl : j < 335
    · rw [List.getElem?_range hl]
      simp [ho j hj]
    · rw [List.getElem?_eq_none (by simpa using hl)]
      rfl
def xA (q : Nat → Nat) (sz : Nat) : Nat → Prop := fun a => (∃ k, k < 335 ∧ a = q k) ∨ sz ≤ a
theorem wd_A {q : Nat → Nat} {cA : Nat → ClassId} {m : xM} {sz : Nat} : va_A (wd q cA m) sz = xA q sz := by
  funext a
  apply propext
  constructor
  · rintro (⟨k, e, h⟩ | h)
    · obtain ⟨h1, h2⟩ := wd_out h
      exact Or.inl ⟨k, h1, congrArg Prod.fst h2⟩
    · exact Or.inr h
  · rintro (⟨k, h1, h2⟩ | h)
    · exact Or.inl ⟨k, en q cA m k, by rw [wd_at h1, h2]⟩
    · exact Or.inr h
theorem wd_D {q : Nat → Nat} {cA : Nat → ClassId} {m : xM} {A : Nat → Prop} (hi : ∀ i j, i < 335 → j < 335 → q i = q j → i = j) (hA : ∀ k, k < 335 → A (q k)) : va_D A (wd q cA m) := by
  refine ⟨fun i j x y hx hy hxy => ?_, fun k x hx => ?_⟩
  · obtain ⟨h1, h2⟩ := wd_out hx
    obtain ⟨h3, h4⟩ := wd_out hy
    rw [h2, h4] at hxy
    exact hi i j h1 h3 hxy
  · obtain ⟨h1, h2⟩ := wd_out hx
    rw [h2]
    exact hA k h1
theorem fl_set {N f : Nat} {g g' : Nat → Value} (h : f < N) (ho : ∀ j, j ≠ f → g' j = g j) : ((List.range N).map g).set f (g' f) = (List.range N).map g' := by
  apply List.ext_getElem?
  intro j
  by_cases hj : j = f
  · subst hj
    rw [List.getElem?_set_self (by simpa using h), List.getElem?_map, List.getElem?_range h]
    rfl
  · rw [List.getElem?_set_ne (Ne.symm hj), List.getElem?_map, List.getElem?_map]
    by_cases hl : j < N
    · rw [List.getElem?_range hl]
      simp [ho j hj]
    · rw [List.getElem?_eq_none (by simpa using hl)]
      rfl
def xty (cA : Nat → ClassId) : List (ClassId × FieldType) := [(cA 0, .int), (cA 1, .byte), (cA 2, .boolean), (cA 0, .int), (cA 4, .long), (cA 5, .object "WallChapels$Scene"), (cA 6, .array .int)]
-- what else a start gives
def gx_is : Cond → Bool
  | .fieldLinkNest .. => true
  | .methodLinkNest .. => true
  | _ => false
theorem gx_is_on : ∀ w : Cond, gx_is w = true → w.onTables = true := by
  intro w
  cases w <;> first | (intro h; cases h; done) | (intro _; rfl)
theorem gx_is_warm {s U : State} (hW : s.WarmedH U.vm) : ∀ w : Cond, gx_is w = true → va_Nw w s → va_Nw w U := by
  intro w
  cases w <;> first | (intro h; cases h; done) | exact fun _ hZ => va_Nw.warmF hW hZ | exact fun _ hZ => va_Nw.warmM hW hZ
def gxP (U : State) : Prop := (∀ w ∈ lw_tbl, gx_is w = true → va_Nw w U) ∧ va_AOA .int U ∧ va_AO "WallChapels$Scene" U
theorem gx_same {u U : State} (h : u.vm = U.vm) (hG : gxP u) : gxP U := ⟨fun w hw hi => va_Nw.same (gx_is_on w hi) h (hG.1 w hw hi), aoa_moved (by rw [h]; exact Vm.Alike.refl _) hG.2.1, va_AO.moved (by rw [h]; exact Vm.Alike.refl _) hG.2.2⟩
theorem gx_warm {s U : State} (hW : s.WarmedH U.vm) (hG : gxP s) : gxP U := ⟨fun w hw hi => gx_is_warm hW w hi (hG.1 w hw hi), aoa_moved hW.alike hG.2.1, va_AO.moved hW.alike hG.2.2⟩
def srIL : List Nat := [26, 32, 245, 251, 253]
def srTL : List String := ["y", "ywflcd", "nk", "abyw", "hf"]
def srI (i : Nat) : Nat := srIL.getD i 0
def srT (i : Nat) : String := srTL.getD i ""
def saT (j : Nat) : FieldType := match (lay (1005 + j)).2.1 with
  | 3 => .char
  | _ => .int
def xE (q sv : Nat → Nat) (A : Nat → Prop) (U : State) (H : Heap) : Prop := vk_S 5 [1, 6, 2, 4, 2] [[121], [121, 119, 102, 108, 99, 100], [110, 107], [97, 98, 121, 119], [104, 102]] (fun i => q (1000 + i)) sv A U H ∧ va_Z "java/lang/String" "COMPACT_STRINGS" "Z" (.int 1) A U H ∧ va_Zq "jdk/internal/util/Preconditions" "SIOOBE_FORMATTER" "Ljava/util/function/BiFunction;" A U H ∧ (∀ j, j < 12 → va_Z "WallChapels$Plan" (saN j) (saD j) (.ref (q (1005 + j))) A U H ∧ va_T (saT j) (q (1005 + j)) (lay (1005 + j)).2.2 (fun i => .int (cst (1005 + j) i)) A U H) ∧ ∀ i, i < 5 → vk_R (cln 12) (srI i) (srT i) (q (1000 + i)) U
theorem xE_use {q sv : Nat → Nat} {A B : Nat → Prop} {s U : State} {H : Heap} {locs : List Loc} (hE : xE q sv A s s.heap) (hS : va_S A s.heap H locs) (hF : ∀ a, B a → A a) (hU : U.heap = H) (hW : s.WarmedH U.vm) : xE q sv B U U.heap := by
  obtain ⟨e1, e2, e3, e4, e5⟩ := hE
  rw [hU]
  exact ⟨((e1.kept hS.2.1).narrow hF).moved hW.alike, ((e2.kept hS.2.1).narrow hF).moved hW.alike, ((e3.kept hS.2.1).narrow hF).moved hW.alike, fun j hj => ⟨(((e4 j hj).1.kept hS.2.1).narrow hF).moved hW.alike, (((e4 j hj).2.kept hS.2.1).narrow hF).moved hW.alike⟩, fun i hi => (e5 i hi).warm hW⟩
theorem xE_same {q sv : Nat → Nat} {A : Nat → Prop} {u U : State} (hv : U.vm = u.vm) (hh : U.heap = u.heap) (hE : xE q sv A u u.heap) : xE q sv A U U.heap := by
  obtain ⟨e1, e2, e3, e4, e5⟩ := hE
  have ha : u.vm.Alike U.vm := by rw [hv]; exact Vm.Alike.refl _
  rw [hh]
  exact ⟨e1.moved ha, e2.moved ha, e3.moved ha, fun j hj => ⟨(e4 j hj).1.moved ha, (e4 j hj).2.moved ha⟩, fun i hi => (e5 i hi).same hv⟩
def xP (dC : Nat → ClassId) (dI : Nat → Nat → Nat) (cA : Nat → ClassId) (q sv : Nat → Nat) (m : xM) (sz : Nat) (U : State) : Prop :=
  U.heap.size = sz ∧ va_P (dC, dI) vwCl (wd q cA m) U.heap ∧ va_K (dC, dI) vwCl (xty cA) U ∧ (∀ i j, i < 335 → j < 335 → q i = q j → i = j) ∧ gxP U ∧ xE q sv (xA q sz) U U.heap
def xB (dC : Nat → ClassId) (dI : Nat → Nat → Nat) (cA : Nat → ClassId) (q : Nat → Nat) (u : xM) (t : State) : Prop := va_P (dC, dI) vwCl (wd q cA u) t.heap
theorem xP_blind {dC : Nat → ClassId} {dI : Nat → Nat → Nat} {cA : Nat → ClassId} {q sv : Nat → Nat} {m : xM} {sz : Nat} {av : List Value} : FrameBlind (va_Pc av (xP dC dI cA q sv m sz)) := fun a U g mk z => by
  obtain ⟨q0, q1, qP, qK, qD, qG, qE⟩ := z
  exact ⟨q0, q1, qP, va_K.moved (u := U) (U := U.calling g mk a) (Vm.Alike.refl U.vm) qK, qD, gx_same (u := U) (U := U.calling g mk a) rfl qG, xE_same (u := U) (U := U.calling g mk a) rfl rfl qE⟩
theorem xP_use {dC : Nat → ClassId} {dI : Nat → Nat → Nat} {cA : Nat → ClassId} {q sv : Nat → Nat} {m : xM} {A : Nat → Prop} {s U : State} {H : Heap} {locs : List Loc} (hU : U.heap = H) (hW : s.WarmedH U.vm) (hP : va_P (dC, dI) vwCl (wd q cA m) H) (hK : va_K (dC, dI) vwCl (xty cA) s) (hi : ∀ i j, i < 335 → j < 335 → q i = q j → i = j) (hG : gxP s) (hS : va_S A s.heap H locs) (hF : ∀ a, xA q H.size a → A a) (hE : xE q sv A s s.heap) : xP dC dI cA q sv m H.size U :=
  ⟨by rw [hU], by rw [hU]; exact hP, va_K.moved hW.alike hK, hi, gx_warm hW hG, xE_use hE hS hF hU hW⟩
theorem x_free {q : Nat → Nat} {A : Nat → Prop} {H0 H : Heap} {locs : List Loc} (hqA : ∀ k, k < 335 → A (q k)) (hS : va_S A H0 H locs) (hA : ∀ a, H0.size ≤ a → A a) : ∀ a, xA q H.size a → A a := by
  intro a h
  rcases h with ⟨k, e, h⟩ | h
  · rw [h]; exact hqA k e
  · exact hA a (Nat.le_trans hS.1 h)
-- a method's end, and a call
def xQ (q : Nat → Nat) (post : Option Value → xM → Prop) (B : xM → State → Prop) (A : Nat → Prop) : Array Value → State → Outcome → State → Prop := fun _ st oc t => (∃ (r : Option Value) (u : xM), oc = .returned (r.map (xq q)) ∧ post r u ∧ B u t) ∧ va_F A st t
section XCALL
variable {p : Program} {l : Launch} {e : Env} {R : Room} {s : State} {m : MethodId} {args : Array Value} {below : List Frame} {meth : Method} {c : Code} {H : Heap} {locs : List Loc} {cells slots : Nat} {Q : State → Prop}
variable {pc : Nat} {ls : Array Slot} {rest st0 : List Value} {a : Array Value} {A0 A1 : Nat → Prop} {H0 : Heap} {mc ms : Nat} {free : Addr → Prop}
theorem x_call {q : Nat → Nat} {post : Option Value → xM → Prop} {B : xM → State → Prop} (hr : va_Run p l e R s m args below meth c H locs cells slots mc ms (F0 m pc ls st0) rest (xQ q post B A1 a) free) (hS : va_S A0 H0 H locs) (hA : ∀ q, q < H.size → A1 q → A0 q) (hf : ∀ q, free q → A0 q)
    (kk : ∀ (r : Option Value) (u : xM) (t : State) (H1 : Heap) (locs1 : List Loc), t.heap = H1 → s.vm.Alike t.vm → post r u → B u t → H.size ≤ H1.size → va_S A0 H0 H1 locs1 → W p l e R s m args below meth c H1 locs1 (cells + mc) (slots + ms) Q (F0 m (pc + 3) ls ((r.map (xq q)).toList ++ rest))) : W p l e R s m args below meth c H locs cells slots Q (F0 m pc ls st0) := by
  intro T hT X
  obtain ⟨v, st₀, t, T', L, h0, X', hL, e1, e2, ⟨⟨r, u, hv, hp, hb⟩, hz, hk⟩, st⟩ := hr T hT X
  cases hv
  rw [h0] at hz hk
  obtain ⟨t2, a1, b1⟩ := kk r u t T'.heap (locs ++ L) e1.symm (by rw [← e2]; exact X'.warmed.alike) hp hb (by rw [e1]; exact hz)
    ⟨Nat.le_trans hS.1 (by rw [e1]; exact hz), fun q h1 h2 => by rw [e1, hk q (Nat.lt_of_lt_of_le h1 hS.1) (fun z => h2 (hA q (Nat.lt_of_lt_of_le h1 hS.1) z))]; exact hS.2.1 q h1 h2, fun q hq => by
      rcases List.mem_append.mp hq with h | h
      · exact hS.2.2 q h
      · exact hf _ (hL q h)⟩ T' rfl X'
  exact ⟨t2, st t2 a1, b1⟩
end XCALL
-- the words of a method: its code, and all good words of the Statement
def alW : List Cond := lw_tbl.filter goodWord
def kW (k : Nat) : List Cond := Cond.code (kY k) (kB k) (knl k) (krt k) :: alW
theorem al_in {k : Nat} {w : Cond} (h : w ∈ lw_tbl) (g : goodWord w = true) : w ∈ kW k := List.mem_cons_of_mem _ (List.mem_filter.mpr ⟨h, g⟩)
theorem good_al {w : Cond} (h : w ∈ alW) : goodWord w = true := (List.mem_filter.mp h).2
theorem kW_good {k j : Nat} (h : Cond.code (kY j) (kB j) (knl j) (krt j) ∈ lw_tbl) : GoodIn (kW k) (kW j) := by
  intro w hw
  rcases List.mem_cons.mp hw with e | hw
  · rw [e]
    exact ⟨al_in h rfl, Or.inl rfl⟩
  · exact ⟨List.mem_cons_of_mem _ hw, good_of_word (good_al hw)⟩
theorem mem_r {ws : List Cond} (ps : List Nat) (hp : ws = ps.filterMap (fun i => lwA i)) : ∀ w ∈ ws, w ∈ lw_tbl := by
  intro w hw
  rw [hp] at hw
  obtain ⟨i, -, hi⟩ := List.mem_filterMap.mp hw
  exact lwA_in hi
theorem uw_in {c k : Nat} (hc : c < 13) : ∀ w ∈ u_ws (cln c) (kT c) (kNf c), w ∈ kW k := by
  have h := List.all_eq_true.mp uw_all c (List.mem_range.mpr hc)
  simp only [Bool.and_eq_true, decide_eq_true_eq] at h
  exact fun w hw => al_in (mem_r _ h.1 w hw) (List.all_eq_true.mp h.2 w hw)
theorem getD_out {α : Type} {l : List (List α)} {c : Nat} (h : l.length ≤ c) : l.getD c [] = [] := by
  rw [List.getD_eq_getElem?_getD, List.getElem?_eq_none h]
  rfl
theorem fd_of {c i ci f : Nat} (h : kFd c i = some (ci, f)) : f < kNf ci ∧ ci < 13 ∧ (Cond.fieldLinkNest (cln c) i (kT ci f).1 (kT ci f).2.1 (kT ci f).2.2.1 "WallChapels" ∈ lw_tbl ∨ Cond.fieldLink (cln c) i (kT ci f).1 (kT ci f).2.1 (kT ci f).2.2.1 ∈ lw_tbl) := by
  unfold kFd at h
  by_cases hc : c < 16
  · obtain ⟨e, he, hce⟩ := Option.map_eq_some_iff.mp h
    obtain ⟨⟨a, b⟩, ne, ps⟩ := e
    cases hce
    have h1 := List.all_eq_true.mp (List.all_eq_true.mp fd_all c (List.mem_range.mpr hc)) _ (lku_in he)
    simp only [Bool.and_eq_true, decide_eq_true_eq] at h1
    refine ⟨h1.2.1, h1.2.2, ?_⟩
    have h2 := lwA_in h1.1
    cases ne
    · exact Or.inr h2
    · exact Or.inl h2
  · rw [getD_out (show FDL.length ≤ c from Nat.not_lt.mp hc)] at h
    cases h
theorem ty_of {ci f : Nat} (hc : ci < 13) (hf : f < kNf ci) : parseFieldDescriptor (kT ci f).2.2.1 = some (kty ci f) ∧ (kT ci f).2.2.2 = fn ci f ∧ (kT ci f).1 = cln ci ∧ (match fk ci f, kty ci f with | 0, .int => true | 1, .boolean => true | 2, .long => true | 3, .object _ => true | 3, .array _ => true | _, _ => false) = true := by
  have h := List.all_eq_true.mp (List.all_eq_true.mp ty_all ci (List.mem_range.mpr hc)) f (List.mem_range.mpr hf)
  simp only [Bool.and_eq_true, decide_eq_true_eq] at h
  exact h
theorem nm_of {ci : Nat} (hc : ci < 13) : ∀ a, a < kNf ci → ∀ b, b < kNf ci → a ≠ b → (kT ci a).2.1 ≠ (kT ci b).2.1 := by
  intro a ha b hb hab
  have h := List.all_eq_true.mp (List.all_eq_true.mp (List.all_eq_true.mp nm_all ci (List.mem_range.mpr hc)) a (List.mem_range.mpr ha)) b (List.mem_range.mpr hb)
  simp only [Bool.or_eq_true, beq_iff_eq, decide_eq_true_eq] at h
  rcases h with h | h
  · exact absurd h hab
  · exact h
theorem vw_of {ci : Nat} (hc : ci < 13) : vwCl[ci]? = some (cln ci, kT ci, kNf ci) := vw_all ci (by
  have : ci = 0 ∨ ci = 1 ∨ ci = 2 ∨ ci = 3 ∨ ci = 4 ∨ ci = 5 ∨ ci = 6 ∨ ci = 7 ∨ ci = 8 ∨ ci = 9 ∨ ci = 10 ∨ ci = 11 ∨ ci = 12 := by omega
  simp only [List.mem_cons]
  rcases this with h | h | h | h | h | h | h | h | h | h | h | h | h <;> simp [h])
set_option maxRecDepth 100000 in
theorem lay_lt {k x n K : Nat} (h : lay k = (K, x, n)) (hK : K < 4) : k < 335 := by
  rw [lay_eq] at h
  by_cases h1 : k < 1000
  · have e : Nat.blt k 1000 = true := by simpa [Nat.blt_eq] using h1
    rw [e] at h
    by_cases h2 : k < 335
    · exact h2
    · have : layL.getD k (9, 0, 0) = (9, 0, 0) := by
        rw [List.getD_eq_getElem?_getD, List.getElem?_eq_none (show layL.length ≤ k from Nat.not_lt.mp h2)]
        rfl
      rw [show (bif true then layL.getD k (9, 0, 0) else layC.getD (k - 1000) (9, 0, 0)) = layL.getD k (9, 0, 0) from rfl, this] at h
      cases h
      omega
  · have e : Nat.blt k 1000 = false := by
      cases e : Nat.blt k 1000 with
      | false => rfl
      | true => exact absurd (by simpa [Nat.blt_eq] using e) h1
    rw [e] at h
    have h3 : layC.getD (k - 1000) (9, 0, 0) = (K, x, n) := h
    by_cases h4 : k - 1000 < 17
    · have h5 : (List.range 17).all (fun i => decide (4 ≤ (layC.getD i (9, 0, 0)).1)) = true := by decide +kernel
      have h6 := of_decide_eq_true (List.all_eq_true.mp h5 _ (List.mem_range.mpr h4))
      rw [h3] at h6
      exact absurd h6 (by simpa using hK)
    · rw [List.getD_eq_getElem?_getD, List.getElem?_eq_none (show layC.length ≤ k - 1000 from Nat.not_lt.mp h4)] at h3
      cases h3
      omega
